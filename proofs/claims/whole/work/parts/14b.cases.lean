/-! The law's cases: questions. -/
section SSX
variable {M : MS} {s : Nat → Int32} {n t A B C T : Nat}
theorem SS.lt (h : SS M s n t A B C T) {i : Nat} (hi : nI i < M.1 0) (h8 : i < 8) : i < n := by
  rw [h.1.2.1.1, h.1.1.1, nI_ltI (by omega) (by have := h.1.1.2.1; omega)] at hi
  exact hi
theorem SS.hok (h : SS M s n t A B C T) : ∀ i : Nat, nI i < M.1 0 → i < 8 → k_ok (M.2.2.2.1 i) := fun i hi h8 => h.mi.hok i (h.lt hi h8)
theorem SS.hjt5 (h : SS M s n t A B C T) : ∀ i : Nat, i < 8 → nI i < M.1 0 → ¬ (M.2.2.2.1 i).1 2 = 0 → ∃ j, j < 12 ∧ (M.2.2.2.1 i).1 5 = nI j := fun i h8 hi z => ((h.mi.2.2.2.2 i (h.lt hi h8)).2.1 z).2.1
theorem SS.hjt3 (h : SS M s n t A B C T) : ∀ i : Nat, i < 8 → nI i < M.1 0 → ¬ (M.2.2.2.1 i).1 2 = 0 → ∃ j, j < 12 ∧ (M.2.2.2.1 i).1 3 = nI j := fun i h8 hi z => ((h.mi.2.2.2.2 i (h.lt hi h8)).2.1 z).1
theorem SS.hcb (h : SS M s n t A B C T) : ∀ i : Nat, i < 8 → nI i < M.1 0 → -100000 < ((M.2.2.2.1 i).1 1).toInt ∧ ((M.2.2.2.1 i).1 1).toInt < 100000 := fun i h8 hi => by
  obtain ⟨-, -, b⟩ := h.1.2.2.2.2.2.2.2 i (h.lt hi h8)
  have := b.1
  have := b.2.2.1
  omega
theorem SS.hcons (h : SS M s n t A B C T) : ∀ i, i < n → ∀ q, t / 1440 - 2 ≤ q → q ≤ t / 1440 → k_sumOf (M.2.2.2.1 i) q = k_recs (nI q) (M.2.2.2.2 i) 0 ∧ k_sumOf (M.2.2.2.1 i) q ≤ k_cap (M.2.2.2.1 i) := fun i hi q h1 h2 => by
  obtain ⟨a, -, -⟩ := h.1.2.2.2.2.2.2.2 i hi
  exact ⟨(a.rc q h1 h2).symm, Int32.le_iff_toInt_le.mpr (a.cp q h1 h2).2⟩
theorem SS.hz9 (h : SS M s n t A B C T) : ∀ j, j < 12 → ∃ w, w < 10 ∧ M.2.1 j = nI w := fun j hj => by
  obtain ⟨z, z1, z6, e⟩ := h.1.zo j hj
  exact ⟨z, by omega, e⟩
end SSX
set_option maxRecDepth 100000 in
set_option maxHeartbeats 4000000 in
theorem lc_8 (l : Launch) (D : va_G) (kA : Nat → ClassId) (Hs : Heap) (σ : SG) (hnt : l.stackTraces = false) {Pp : Program} {Ee : Env} {Ss : State} {Mm : MethodId} {Ar : Array Value} {Bl : List Frame} {Me : Method} {Cc : Code} {Q : State → Prop} (Z : Ys Pp Ss Mm Ar Me Cc cL_law 9 (some .boolean) "MetroFaresLaw" D kA (AA Hs nof) Hs σ) (sa N : Nat) (f : Nat → Int32) (hsa : va_X sa N f Ss Ss.heap ∧ sa < Ss.heap.size ∧ ¬ AA Hs nof sa) (hN : N ≤ 1536) (a j : Nat) (hj : 3 * j + 3 ≤ N) (H : Heap) (hI : Inv D kA Hs a H (61 * j)) (kk : ∀ H1, Inv D kA Hs a H1 (61 * (j + 1)) → V Pp l Ee (rmO 2048 94400 603072 7194730) Ss Mm Ar Bl Me Cc 9 (AA Hs nof) Q H1 (400 + 200 * (j + 1)) (6000 + 400 * (j + 1)) 2781 [(5, .int (nI (3 * j))), (4, .ref (a + 338)), (3, .ref (a + 337)), (2, .ref (a + 329)), (1, .ref a), (0, .ref sa)] []) : V Pp l Ee (rmO 2048 94400 603072 7194730) Ss Mm Ar Bl Me Cc 9 (AA Hs nof) Q H (400 + 200 * (j)) (6000 + 400 * (j)) 815 [(5, .int (nI (3 * j))), (4, .ref (a + 338)), (3, .ref (a + 337)), (2, .ref (a + 329)), (1, .ref a), (0, .ref sa)] [] := by
  obtain ⟨W, π, ES, u, hs, ep, fc, no, go, vs, cs, ns, gs, F, s, b, v, p, uu, tt, cc, n, t, hC, hG⟩ := hI
  have Y := Z.1
  have hS := hG.1.1.1
  have hM9 := hG.1.1
  have hjq : j ≤ 512 := by omega
  have hu8 := hC.1.2.2.2.2.2.2.2.1
  obtain ⟨w1, ho1⟩ := hC.2.2.1
  obtain ⟨x, hx⟩ : ∃ x, f (3 * j + 1) = x := ⟨_, rfl⟩
  obtain ⟨y, hy⟩ : ∃ y, f (3 * j + 2) = y := ⟨_, rfl⟩
  refine V_aload_n Y.1 4 dL_law_815 (rfl : _ = 816) rfl rfl ?_
  refine V_cP Y (sV Z (c_X5_time l D kA Hs σ _ hC.2.2.2.2.1 a W π ES u hs ep fc no go vs cs ns gs hC.1 hnt) mi_X5_time vi_L_185 rfl hC.1.1.1 rfl rfl (Nat.le_of_ble_eq_true rfl) ⟨Nat.le_of_ble_eq_true rfl, Nat.le_of_ble_eq_true rfl⟩ (by show _ ≤ 603072; omega) (by show _ ≤ 7194730; omega) dL_law_816) (rfl : _ = 819) ?_
  refine V_aload_n Y.1 3 dL_law_819 (rfl : _ = 820) rfl rfl ?_
  refine V_cI Y (rV Y (c_X6_time l D kA _ (a + 329) F s b v p uu tt cc hC.2.1) mi_X6_time vi_L_188 rfl hC.2.1.1 rfl rfl (Nat.le_of_ble_eq_true rfl) ⟨Nat.le_of_ble_eq_true rfl, Nat.le_of_ble_eq_true rfl⟩ (by show _ ≤ 603072; omega) (by show _ ≤ 7194730; omega) dL_law_820) (fun q z => Or.inr (by have z := z.1; have := hC.2.2.2.2.2.1; omega)) (rfl : _ = 823) (fun v_820 H820_3 hq_820 o_820 => ?_)
  obtain ⟨hb2, hR2⟩ := hq_820
  have hC := hC.mod o_820 hR2
  refine V_icmp_eq Y.1 (tgt := 2781) dL_law_823 (by decide) (rfl : _ = 826) (fun _ => ?_) (fun c_n => absurd (hS.2.1.2.1.trans hb2.symm) c_n)
  exact V_forget (ls' := [(5, _), (4, _), (3, _), (2, _), (1, _), (0, _)]) [0, 1, 2, 3, 4, 5] rfl (V_widen (by omega) (by omega) (kk _ ⟨_, _, _, _, _, _, _, _, _, _, _, _, _, _, _, _, _, _, _, _, _, _, _, hC, (hG.f6 _).more (by omega)⟩))

set_option maxRecDepth 100000 in
set_option maxHeartbeats 4000000 in
theorem lc_14 (l : Launch) (D : va_G) (kA : Nat → ClassId) (Hs : Heap) (σ : SG) (hnt : l.stackTraces = false) {Pp : Program} {Ee : Env} {Ss : State} {Mm : MethodId} {Ar : Array Value} {Bl : List Frame} {Me : Method} {Cc : Code} {Q : State → Prop} (Z : Ys Pp Ss Mm Ar Me Cc cL_law 9 (some .boolean) "MetroFaresLaw" D kA (AA Hs nof) Hs σ) (sa N : Nat) (f : Nat → Int32) (hsa : va_X sa N f Ss Ss.heap ∧ sa < Ss.heap.size ∧ ¬ AA Hs nof sa) (hN : N ≤ 1536) (a j : Nat) (hj : 3 * j + 3 ≤ N) (H : Heap) (hI : Inv D kA Hs a H (61 * j)) (kk : ∀ H1, Inv D kA Hs a H1 (61 * (j + 1)) → V Pp l Ee (rmO 2048 94400 603072 7194730) Ss Mm Ar Bl Me Cc 9 (AA Hs nof) Q H1 (400 + 200 * (j + 1)) (6000 + 400 * (j + 1)) 2781 [(5, .int (nI (3 * j))), (4, .ref (a + 338)), (3, .ref (a + 337)), (2, .ref (a + 329)), (1, .ref a), (0, .ref sa)] []) : V Pp l Ee (rmO 2048 94400 603072 7194730) Ss Mm Ar Bl Me Cc 9 (AA Hs nof) Q H (400 + 200 * (j)) (6000 + 400 * (j)) 1101 [(5, .int (nI (3 * j))), (4, .ref (a + 338)), (3, .ref (a + 337)), (2, .ref (a + 329)), (1, .ref a), (0, .ref sa)] [] := by
  obtain ⟨W, π, ES, u, hs, ep, fc, no, go, vs, cs, ns, gs, F, s, b, v, p, uu, tt, cc, n, t, hC, hG⟩ := hI
  have Y := Z.1
  have hS := hG.1.1.1
  have hM9 := hG.1.1
  have hjq : j ≤ 512 := by omega
  have hu8 := hC.1.2.2.2.2.2.2.2.1
  obtain ⟨w1, ho1⟩ := hC.2.2.1
  obtain ⟨x, hx⟩ : ∃ x, f (3 * j + 1) = x := ⟨_, rfl⟩
  obtain ⟨y, hy⟩ : ∃ y, f (3 * j + 2) = y := ⟨_, rfl⟩
  refine V_aload_n Y.1 4 dL_law_1101 (rfl : _ = 1102) rfl rfl ?_
  refine V_cP Y (sV Z (c_X5_baseFare l D kA Hs σ _ hC.2.2.2.2.1 a W π ES u hs ep fc no go vs cs ns gs hC.1 hnt) mi_X5_baseFare vi_L_205 rfl hC.1.1.1 rfl rfl (Nat.le_of_ble_eq_true rfl) ⟨Nat.le_of_ble_eq_true rfl, Nat.le_of_ble_eq_true rfl⟩ (by show _ ≤ 603072; omega) (by show _ ≤ 7194730; omega) dL_law_1102) (rfl : _ = 1105) ?_
  refine V_aload_n Y.1 3 dL_law_1105 (rfl : _ = 1106) rfl rfl ?_
  refine V_cI Y (rV Y (c_X6_baseFare l D kA _ (a + 329) F s b v p uu tt cc hC.2.1) mi_X6_baseFare vi_L_208 rfl hC.2.1.1 rfl rfl (Nat.le_of_ble_eq_true rfl) ⟨Nat.le_of_ble_eq_true rfl, Nat.le_of_ble_eq_true rfl⟩ (by show _ ≤ 603072; omega) (by show _ ≤ 7194730; omega) dL_law_1106) (fun q z => Or.inr (by have z := z.1; have := hC.2.2.2.2.2.1; omega)) (rfl : _ = 1109) (fun v_1106 H1106_3 hq_1106 o_1106 => ?_)
  obtain ⟨hb2, hR2⟩ := hq_1106
  have hC := hC.mod o_1106 hR2
  refine V_icmp_eq Y.1 (tgt := 2781) dL_law_1109 (by decide) (rfl : _ = 1112) (fun _ => ?_) (fun c_n => absurd (hS.2.1.2.2.2.2.2.2.2.1.trans hb2.symm) c_n)
  exact V_forget (ls' := [(5, _), (4, _), (3, _), (2, _), (1, _), (0, _)]) [0, 1, 2, 3, 4, 5] rfl (V_widen (by omega) (by omega) (kk _ ⟨_, _, _, _, _, _, _, _, _, _, _, _, _, _, _, _, _, _, _, _, _, _, _, hC, (hG.f6 _).more (by omega)⟩))

set_option maxRecDepth 100000 in
set_option maxHeartbeats 4000000 in
theorem lc_15 (l : Launch) (D : va_G) (kA : Nat → ClassId) (Hs : Heap) (σ : SG) (hnt : l.stackTraces = false) {Pp : Program} {Ee : Env} {Ss : State} {Mm : MethodId} {Ar : Array Value} {Bl : List Frame} {Me : Method} {Cc : Code} {Q : State → Prop} (Z : Ys Pp Ss Mm Ar Me Cc cL_law 9 (some .boolean) "MetroFaresLaw" D kA (AA Hs nof) Hs σ) (sa N : Nat) (f : Nat → Int32) (hsa : va_X sa N f Ss Ss.heap ∧ sa < Ss.heap.size ∧ ¬ AA Hs nof sa) (hN : N ≤ 1536) (a j : Nat) (hj : 3 * j + 3 ≤ N) (H : Heap) (hI : Inv D kA Hs a H (61 * j)) (kk : ∀ H1, Inv D kA Hs a H1 (61 * (j + 1)) → V Pp l Ee (rmO 2048 94400 603072 7194730) Ss Mm Ar Bl Me Cc 9 (AA Hs nof) Q H1 (400 + 200 * (j + 1)) (6000 + 400 * (j + 1)) 2781 [(5, .int (nI (3 * j))), (4, .ref (a + 338)), (3, .ref (a + 337)), (2, .ref (a + 329)), (1, .ref a), (0, .ref sa)] []) : V Pp l Ee (rmO 2048 94400 603072 7194730) Ss Mm Ar Bl Me Cc 9 (AA Hs nof) Q H (400 + 200 * (j)) (6000 + 400 * (j)) 1114 [(5, .int (nI (3 * j))), (4, .ref (a + 338)), (3, .ref (a + 337)), (2, .ref (a + 329)), (1, .ref a), (0, .ref sa)] [] := by
  obtain ⟨W, π, ES, u, hs, ep, fc, no, go, vs, cs, ns, gs, F, s, b, v, p, uu, tt, cc, n, t, hC, hG⟩ := hI
  have Y := Z.1
  have hS := hG.1.1.1
  have hM9 := hG.1.1
  have hjq : j ≤ 512 := by omega
  have hu8 := hC.1.2.2.2.2.2.2.2.1
  obtain ⟨w1, ho1⟩ := hC.2.2.1
  obtain ⟨x, hx⟩ : ∃ x, f (3 * j + 1) = x := ⟨_, rfl⟩
  obtain ⟨y, hy⟩ : ∃ y, f (3 * j + 2) = y := ⟨_, rfl⟩
  refine V_aload_n Y.1 4 dL_law_1114 (rfl : _ = 1115) rfl rfl ?_
  refine V_cP Y (sV Z (c_X5_zoneFare l D kA Hs σ _ hC.2.2.2.2.1 a W π ES u hs ep fc no go vs cs ns gs hC.1 hnt) mi_X5_zoneFare vi_L_209 rfl hC.1.1.1 rfl rfl (Nat.le_of_ble_eq_true rfl) ⟨Nat.le_of_ble_eq_true rfl, Nat.le_of_ble_eq_true rfl⟩ (by show _ ≤ 603072; omega) (by show _ ≤ 7194730; omega) dL_law_1115) (rfl : _ = 1118) ?_
  refine V_aload_n Y.1 3 dL_law_1118 (rfl : _ = 1119) rfl rfl ?_
  refine V_cI Y (rV Y (c_X6_zoneFare l D kA _ (a + 329) F s b v p uu tt cc hC.2.1) mi_X6_zoneFare vi_L_212 rfl hC.2.1.1 rfl rfl (Nat.le_of_ble_eq_true rfl) ⟨Nat.le_of_ble_eq_true rfl, Nat.le_of_ble_eq_true rfl⟩ (by show _ ≤ 603072; omega) (by show _ ≤ 7194730; omega) dL_law_1119) (fun q z => Or.inr (by have z := z.1; have := hC.2.2.2.2.2.1; omega)) (rfl : _ = 1122) (fun v_1119 H1119_3 hq_1119 o_1119 => ?_)
  obtain ⟨hb2, hR2⟩ := hq_1119
  have hC := hC.mod o_1119 hR2
  refine V_icmp_eq Y.1 (tgt := 2781) dL_law_1122 (by decide) (rfl : _ = 1125) (fun _ => ?_) (fun c_n => absurd (hS.2.1.2.2.2.2.2.2.2.2.trans hb2.symm) c_n)
  exact V_forget (ls' := [(5, _), (4, _), (3, _), (2, _), (1, _), (0, _)]) [0, 1, 2, 3, 4, 5] rfl (V_widen (by omega) (by omega) (kk _ ⟨_, _, _, _, _, _, _, _, _, _, _, _, _, _, _, _, _, _, _, _, _, _, _, hC, (hG.f6 _).more (by omega)⟩))

set_option maxRecDepth 100000 in
set_option maxHeartbeats 4000000 in
theorem lc_19 (l : Launch) (D : va_G) (kA : Nat → ClassId) (Hs : Heap) (σ : SG) (hnt : l.stackTraces = false) {Pp : Program} {Ee : Env} {Ss : State} {Mm : MethodId} {Ar : Array Value} {Bl : List Frame} {Me : Method} {Cc : Code} {Q : State → Prop} (Z : Ys Pp Ss Mm Ar Me Cc cL_law 9 (some .boolean) "MetroFaresLaw" D kA (AA Hs nof) Hs σ) (sa N : Nat) (f : Nat → Int32) (hsa : va_X sa N f Ss Ss.heap ∧ sa < Ss.heap.size ∧ ¬ AA Hs nof sa) (hN : N ≤ 1536) (a j : Nat) (hj : 3 * j + 3 ≤ N) (H : Heap) (hI : Inv D kA Hs a H (61 * j)) (kk : ∀ H1, Inv D kA Hs a H1 (61 * (j + 1)) → V Pp l Ee (rmO 2048 94400 603072 7194730) Ss Mm Ar Bl Me Cc 9 (AA Hs nof) Q H1 (400 + 200 * (j + 1)) (6000 + 400 * (j + 1)) 2781 [(5, .int (nI (3 * j))), (4, .ref (a + 338)), (3, .ref (a + 337)), (2, .ref (a + 329)), (1, .ref a), (0, .ref sa)] []) : V Pp l Ee (rmO 2048 94400 603072 7194730) Ss Mm Ar Bl Me Cc 9 (AA Hs nof) Q H (400 + 200 * (j)) (6000 + 400 * (j)) 1252 [(5, .int (nI (3 * j))), (4, .ref (a + 338)), (3, .ref (a + 337)), (2, .ref (a + 329)), (1, .ref a), (0, .ref sa)] [] := by
  obtain ⟨W, π, ES, u, hs, ep, fc, no, go, vs, cs, ns, gs, F, s, b, v, p, uu, tt, cc, n, t, hC, hG⟩ := hI
  have Y := Z.1
  have hS := hG.1.1.1
  have hM9 := hG.1.1
  have hjq : j ≤ 512 := by omega
  have hu8 := hC.1.2.2.2.2.2.2.2.1
  obtain ⟨w1, ho1⟩ := hC.2.2.1
  obtain ⟨x, hx⟩ : ∃ x, f (3 * j + 1) = x := ⟨_, rfl⟩
  obtain ⟨y, hy⟩ : ∃ y, f (3 * j + 2) = y := ⟨_, rfl⟩
  refine V_aload_n Y.1 4 dL_law_1252 (rfl : _ = 1253) rfl rfl ?_
  refine V_cP Y (sV Z (c_X5_cardCount l D kA Hs σ _ hC.2.2.2.2.1 a W π ES u hs ep fc no go vs cs ns gs hC.1 hnt) mi_X5_cardCount vi_L_223 rfl hC.1.1.1 rfl rfl (Nat.le_of_ble_eq_true rfl) ⟨Nat.le_of_ble_eq_true rfl, Nat.le_of_ble_eq_true rfl⟩ (by show _ ≤ 603072; omega) (by show _ ≤ 7194730; omega) dL_law_1253) (rfl : _ = 1256) ?_
  refine V_aload_n Y.1 3 dL_law_1256 (rfl : _ = 1257) rfl rfl ?_
  refine V_cI Y (rV Y (c_X6_cardCount l D kA _ (a + 329) F s b v p uu tt cc hC.2.1) mi_X6_cardCount vi_L_226 rfl hC.2.1.1 rfl rfl (Nat.le_of_ble_eq_true rfl) ⟨Nat.le_of_ble_eq_true rfl, Nat.le_of_ble_eq_true rfl⟩ (by show _ ≤ 603072; omega) (by show _ ≤ 7194730; omega) dL_law_1257) (fun q z => Or.inr (by have z := z.1; have := hC.2.2.2.2.2.1; omega)) (rfl : _ = 1260) (fun v_1257 H1257_3 hq_1257 o_1257 => ?_)
  obtain ⟨hb2, hR2⟩ := hq_1257
  have hC := hC.mod o_1257 hR2
  refine V_icmp_eq Y.1 (tgt := 2781) dL_law_1260 (by decide) (rfl : _ = 1263) (fun _ => ?_) (fun c_n => absurd (hS.2.1.1.trans hb2.symm) c_n)
  exact V_forget (ls' := [(5, _), (4, _), (3, _), (2, _), (1, _), (0, _)]) [0, 1, 2, 3, 4, 5] rfl (V_widen (by omega) (by omega) (kk _ ⟨_, _, _, _, _, _, _, _, _, _, _, _, _, _, _, _, _, _, _, _, _, _, _, hC, (hG.f6 _).more (by omega)⟩))

set_option maxRecDepth 100000 in
set_option maxHeartbeats 4000000 in
theorem lc_33 (l : Launch) (D : va_G) (kA : Nat → ClassId) (Hs : Heap) (σ : SG) (hnt : l.stackTraces = false) {Pp : Program} {Ee : Env} {Ss : State} {Mm : MethodId} {Ar : Array Value} {Bl : List Frame} {Me : Method} {Cc : Code} {Q : State → Prop} (Z : Ys Pp Ss Mm Ar Me Cc cL_law 9 (some .boolean) "MetroFaresLaw" D kA (AA Hs nof) Hs σ) (sa N : Nat) (f : Nat → Int32) (hsa : va_X sa N f Ss Ss.heap ∧ sa < Ss.heap.size ∧ ¬ AA Hs nof sa) (hN : N ≤ 1536) (a j : Nat) (hj : 3 * j + 3 ≤ N) (H : Heap) (hI : Inv D kA Hs a H (61 * j)) (kk : ∀ H1, Inv D kA Hs a H1 (61 * (j + 1)) → V Pp l Ee (rmO 2048 94400 603072 7194730) Ss Mm Ar Bl Me Cc 9 (AA Hs nof) Q H1 (400 + 200 * (j + 1)) (6000 + 400 * (j + 1)) 2781 [(5, .int (nI (3 * j))), (4, .ref (a + 338)), (3, .ref (a + 337)), (2, .ref (a + 329)), (1, .ref a), (0, .ref sa)] []) : V Pp l Ee (rmO 2048 94400 603072 7194730) Ss Mm Ar Bl Me Cc 9 (AA Hs nof) Q H (400 + 200 * (j)) (6000 + 400 * (j)) 2069 [(5, .int (nI (3 * j))), (4, .ref (a + 338)), (3, .ref (a + 337)), (2, .ref (a + 329)), (1, .ref a), (0, .ref sa)] [] := by
  obtain ⟨W, π, ES, u, hs, ep, fc, no, go, vs, cs, ns, gs, F, s, b, v, p, uu, tt, cc, n, t, hC, hG⟩ := hI
  have Y := Z.1
  have hS := hG.1.1.1
  have hM9 := hG.1.1
  have hjq : j ≤ 512 := by omega
  have hu8 := hC.1.2.2.2.2.2.2.2.1
  obtain ⟨w1, ho1⟩ := hC.2.2.1
  obtain ⟨x, hx⟩ : ∃ x, f (3 * j + 1) = x := ⟨_, rfl⟩
  obtain ⟨y, hy⟩ : ∃ y, f (3 * j + 2) = y := ⟨_, rfl⟩
  refine V_aload_n Y.1 4 dL_law_2069 (rfl : _ = 2070) rfl rfl ?_
  refine V_cP Y (sV Z (c_X5_loadedTotal l D kA Hs σ _ hC.2.2.2.2.1 a W π ES u hs ep fc no go vs cs ns gs hC.1 hnt) mi_X5_loadedTotal vi_L_266 rfl hC.1.1.1 rfl rfl (Nat.le_of_ble_eq_true rfl) ⟨Nat.le_of_ble_eq_true rfl, Nat.le_of_ble_eq_true rfl⟩ (by show _ ≤ 603072; omega) (by show _ ≤ 7194730; omega) dL_law_2070) (rfl : _ = 2073) ?_
  refine V_aload_n Y.1 3 dL_law_2073 (rfl : _ = 2074) rfl rfl ?_
  refine V_cI Y (rV Y (c_X6_loadedTotal l D kA _ (a + 329) F s b v p uu tt cc hC.2.1) mi_X6_loadedTotal vi_L_269 rfl hC.2.1.1 rfl rfl (Nat.le_of_ble_eq_true rfl) ⟨Nat.le_of_ble_eq_true rfl, Nat.le_of_ble_eq_true rfl⟩ (by show _ ≤ 603072; omega) (by show _ ≤ 7194730; omega) dL_law_2074) (fun q z => Or.inr (by have z := z.1; have := hC.2.2.2.2.2.1; omega)) (rfl : _ = 2077) (fun v_2074 H2074_3 hq_2074 o_2074 => ?_)
  obtain ⟨hb2, hR2⟩ := hq_2074
  have hC := hC.mod o_2074 hR2
  refine V_icmp_eq Y.1 (tgt := 2781) dL_law_2077 (by decide) (rfl : _ = 2080) (fun _ => ?_) (fun c_n => absurd (hS.2.1.2.2.1.trans hb2.symm) c_n)
  exact V_forget (ls' := [(5, _), (4, _), (3, _), (2, _), (1, _), (0, _)]) [0, 1, 2, 3, 4, 5] rfl (V_widen (by omega) (by omega) (kk _ ⟨_, _, _, _, _, _, _, _, _, _, _, _, _, _, _, _, _, _, _, _, _, _, _, hC, (hG.f6 _).more (by omega)⟩))

set_option maxRecDepth 100000 in
set_option maxHeartbeats 4000000 in
theorem lc_34 (l : Launch) (D : va_G) (kA : Nat → ClassId) (Hs : Heap) (σ : SG) (hnt : l.stackTraces = false) {Pp : Program} {Ee : Env} {Ss : State} {Mm : MethodId} {Ar : Array Value} {Bl : List Frame} {Me : Method} {Cc : Code} {Q : State → Prop} (Z : Ys Pp Ss Mm Ar Me Cc cL_law 9 (some .boolean) "MetroFaresLaw" D kA (AA Hs nof) Hs σ) (sa N : Nat) (f : Nat → Int32) (hsa : va_X sa N f Ss Ss.heap ∧ sa < Ss.heap.size ∧ ¬ AA Hs nof sa) (hN : N ≤ 1536) (a j : Nat) (hj : 3 * j + 3 ≤ N) (H : Heap) (hI : Inv D kA Hs a H (61 * j)) (kk : ∀ H1, Inv D kA Hs a H1 (61 * (j + 1)) → V Pp l Ee (rmO 2048 94400 603072 7194730) Ss Mm Ar Bl Me Cc 9 (AA Hs nof) Q H1 (400 + 200 * (j + 1)) (6000 + 400 * (j + 1)) 2781 [(5, .int (nI (3 * j))), (4, .ref (a + 338)), (3, .ref (a + 337)), (2, .ref (a + 329)), (1, .ref a), (0, .ref sa)] []) : V Pp l Ee (rmO 2048 94400 603072 7194730) Ss Mm Ar Bl Me Cc 9 (AA Hs nof) Q H (400 + 200 * (j)) (6000 + 400 * (j)) 2082 [(5, .int (nI (3 * j))), (4, .ref (a + 338)), (3, .ref (a + 337)), (2, .ref (a + 329)), (1, .ref a), (0, .ref sa)] [] := by
  obtain ⟨W, π, ES, u, hs, ep, fc, no, go, vs, cs, ns, gs, F, s, b, v, p, uu, tt, cc, n, t, hC, hG⟩ := hI
  have Y := Z.1
  have hS := hG.1.1.1
  have hM9 := hG.1.1
  have hjq : j ≤ 512 := by omega
  have hu8 := hC.1.2.2.2.2.2.2.2.1
  obtain ⟨w1, ho1⟩ := hC.2.2.1
  obtain ⟨x, hx⟩ : ∃ x, f (3 * j + 1) = x := ⟨_, rfl⟩
  obtain ⟨y, hy⟩ : ∃ y, f (3 * j + 2) = y := ⟨_, rfl⟩
  refine V_aload_n Y.1 4 dL_law_2082 (rfl : _ = 2083) rfl rfl ?_
  refine V_cP Y (sV Z (c_X5_chargedTotal l D kA Hs σ _ hC.2.2.2.2.1 a W π ES u hs ep fc no go vs cs ns gs hC.1 hnt) mi_X5_chargedTotal vi_L_270 rfl hC.1.1.1 rfl rfl (Nat.le_of_ble_eq_true rfl) ⟨Nat.le_of_ble_eq_true rfl, Nat.le_of_ble_eq_true rfl⟩ (by show _ ≤ 603072; omega) (by show _ ≤ 7194730; omega) dL_law_2083) (rfl : _ = 2086) ?_
  refine V_aload_n Y.1 3 dL_law_2086 (rfl : _ = 2087) rfl rfl ?_
  refine V_cI Y (rV Y (c_X6_chargedTotal l D kA _ (a + 329) F s b v p uu tt cc hC.2.1) mi_X6_chargedTotal vi_L_273 rfl hC.2.1.1 rfl rfl (Nat.le_of_ble_eq_true rfl) ⟨Nat.le_of_ble_eq_true rfl, Nat.le_of_ble_eq_true rfl⟩ (by show _ ≤ 603072; omega) (by show _ ≤ 7194730; omega) dL_law_2087) (fun q z => Or.inr (by have z := z.1; have := hC.2.2.2.2.2.1; omega)) (rfl : _ = 2090) (fun v_2087 H2087_3 hq_2087 o_2087 => ?_)
  obtain ⟨hb2, hR2⟩ := hq_2087
  have hC := hC.mod o_2087 hR2
  refine V_icmp_eq Y.1 (tgt := 2781) dL_law_2090 (by decide) (rfl : _ = 2093) (fun _ => ?_) (fun c_n => absurd (hS.2.1.2.2.2.1.trans hb2.symm) c_n)
  exact V_forget (ls' := [(5, _), (4, _), (3, _), (2, _), (1, _), (0, _)]) [0, 1, 2, 3, 4, 5] rfl (V_widen (by omega) (by omega) (kk _ ⟨_, _, _, _, _, _, _, _, _, _, _, _, _, _, _, _, _, _, _, _, _, _, _, hC, (hG.f6 _).more (by omega)⟩))

set_option maxRecDepth 100000 in
set_option maxHeartbeats 4000000 in
theorem lc_35 (l : Launch) (D : va_G) (kA : Nat → ClassId) (Hs : Heap) (σ : SG) (hnt : l.stackTraces = false) {Pp : Program} {Ee : Env} {Ss : State} {Mm : MethodId} {Ar : Array Value} {Bl : List Frame} {Me : Method} {Cc : Code} {Q : State → Prop} (Z : Ys Pp Ss Mm Ar Me Cc cL_law 9 (some .boolean) "MetroFaresLaw" D kA (AA Hs nof) Hs σ) (sa N : Nat) (f : Nat → Int32) (hsa : va_X sa N f Ss Ss.heap ∧ sa < Ss.heap.size ∧ ¬ AA Hs nof sa) (hN : N ≤ 1536) (a j : Nat) (hj : 3 * j + 3 ≤ N) (H : Heap) (hI : Inv D kA Hs a H (61 * j)) (kk : ∀ H1, Inv D kA Hs a H1 (61 * (j + 1)) → V Pp l Ee (rmO 2048 94400 603072 7194730) Ss Mm Ar Bl Me Cc 9 (AA Hs nof) Q H1 (400 + 200 * (j + 1)) (6000 + 400 * (j + 1)) 2781 [(5, .int (nI (3 * j))), (4, .ref (a + 338)), (3, .ref (a + 337)), (2, .ref (a + 329)), (1, .ref a), (0, .ref sa)] []) : V Pp l Ee (rmO 2048 94400 603072 7194730) Ss Mm Ar Bl Me Cc 9 (AA Hs nof) Q H (400 + 200 * (j)) (6000 + 400 * (j)) 2095 [(5, .int (nI (3 * j))), (4, .ref (a + 338)), (3, .ref (a + 337)), (2, .ref (a + 329)), (1, .ref a), (0, .ref sa)] [] := by
  obtain ⟨W, π, ES, u, hs, ep, fc, no, go, vs, cs, ns, gs, F, s, b, v, p, uu, tt, cc, n, t, hC, hG⟩ := hI
  have Y := Z.1
  have hS := hG.1.1.1
  have hM9 := hG.1.1
  have hjq : j ≤ 512 := by omega
  have hu8 := hC.1.2.2.2.2.2.2.2.1
  obtain ⟨w1, ho1⟩ := hC.2.2.1
  obtain ⟨x, hx⟩ : ∃ x, f (3 * j + 1) = x := ⟨_, rfl⟩
  obtain ⟨y, hy⟩ : ∃ y, f (3 * j + 2) = y := ⟨_, rfl⟩
  refine V_aload_n Y.1 4 dL_law_2095 (rfl : _ = 2096) rfl rfl ?_
  refine V_cP Y (sV Z (c_X5_paidBackTotal l D kA Hs σ _ hC.2.2.2.2.1 a W π ES u hs ep fc no go vs cs ns gs hC.1 hnt) mi_X5_paidBackTotal vi_L_274 rfl hC.1.1.1 rfl rfl (Nat.le_of_ble_eq_true rfl) ⟨Nat.le_of_ble_eq_true rfl, Nat.le_of_ble_eq_true rfl⟩ (by show _ ≤ 603072; omega) (by show _ ≤ 7194730; omega) dL_law_2096) (rfl : _ = 2099) ?_
  refine V_aload_n Y.1 3 dL_law_2099 (rfl : _ = 2100) rfl rfl ?_
  refine V_cI Y (rV Y (c_X6_paidBackTotal l D kA _ (a + 329) F s b v p uu tt cc hC.2.1) mi_X6_paidBackTotal vi_L_277 rfl hC.2.1.1 rfl rfl (Nat.le_of_ble_eq_true rfl) ⟨Nat.le_of_ble_eq_true rfl, Nat.le_of_ble_eq_true rfl⟩ (by show _ ≤ 603072; omega) (by show _ ≤ 7194730; omega) dL_law_2100) (fun q z => Or.inr (by have z := z.1; have := hC.2.2.2.2.2.1; omega)) (rfl : _ = 2103) (fun v_2100 H2100_3 hq_2100 o_2100 => ?_)
  obtain ⟨hb2, hR2⟩ := hq_2100
  have hC := hC.mod o_2100 hR2
  refine V_icmp_eq Y.1 (tgt := 2781) dL_law_2103 (by decide) (rfl : _ = 2106) (fun _ => ?_) (fun c_n => absurd (hS.2.1.2.2.2.2.1.trans hb2.symm) c_n)
  exact V_forget (ls' := [(5, _), (4, _), (3, _), (2, _), (1, _), (0, _)]) [0, 1, 2, 3, 4, 5] rfl (V_widen (by omega) (by omega) (kk _ ⟨_, _, _, _, _, _, _, _, _, _, _, _, _, _, _, _, _, _, _, _, _, _, _, hC, (hG.f6 _).more (by omega)⟩))

set_option maxRecDepth 100000 in
set_option maxHeartbeats 4000000 in
theorem lc_36 (l : Launch) (D : va_G) (kA : Nat → ClassId) (Hs : Heap) (σ : SG) (hnt : l.stackTraces = false) {Pp : Program} {Ee : Env} {Ss : State} {Mm : MethodId} {Ar : Array Value} {Bl : List Frame} {Me : Method} {Cc : Code} {Q : State → Prop} (Z : Ys Pp Ss Mm Ar Me Cc cL_law 9 (some .boolean) "MetroFaresLaw" D kA (AA Hs nof) Hs σ) (sa N : Nat) (f : Nat → Int32) (hsa : va_X sa N f Ss Ss.heap ∧ sa < Ss.heap.size ∧ ¬ AA Hs nof sa) (hN : N ≤ 1536) (a j : Nat) (hj : 3 * j + 3 ≤ N) (H : Heap) (hI : Inv D kA Hs a H (61 * j)) (kk : ∀ H1, Inv D kA Hs a H1 (61 * (j + 1)) → V Pp l Ee (rmO 2048 94400 603072 7194730) Ss Mm Ar Bl Me Cc 9 (AA Hs nof) Q H1 (400 + 200 * (j + 1)) (6000 + 400 * (j + 1)) 2781 [(5, .int (nI (3 * j))), (4, .ref (a + 338)), (3, .ref (a + 337)), (2, .ref (a + 329)), (1, .ref a), (0, .ref sa)] []) : V Pp l Ee (rmO 2048 94400 603072 7194730) Ss Mm Ar Bl Me Cc 9 (AA Hs nof) Q H (400 + 200 * (j)) (6000 + 400 * (j)) 2108 [(5, .int (nI (3 * j))), (4, .ref (a + 338)), (3, .ref (a + 337)), (2, .ref (a + 329)), (1, .ref a), (0, .ref sa)] [] := by
  obtain ⟨W, π, ES, u, hs, ep, fc, no, go, vs, cs, ns, gs, F, s, b, v, p, uu, tt, cc, n, t, hC, hG⟩ := hI
  have Y := Z.1
  have hS := hG.1.1.1
  have hM9 := hG.1.1
  have hjq : j ≤ 512 := by omega
  have hu8 := hC.1.2.2.2.2.2.2.2.1
  obtain ⟨w1, ho1⟩ := hC.2.2.1
  obtain ⟨x, hx⟩ : ∃ x, f (3 * j + 1) = x := ⟨_, rfl⟩
  obtain ⟨y, hy⟩ : ∃ y, f (3 * j + 2) = y := ⟨_, rfl⟩
  refine V_aload_n Y.1 4 dL_law_2108 (rfl : _ = 2109) rfl rfl ?_
  refine V_cP Y (sV Z (c_X5_completeTrips l D kA Hs σ _ hC.2.2.2.2.1 a W π ES u hs ep fc no go vs cs ns gs hC.1 hnt) mi_X5_completeTrips vi_L_278 rfl hC.1.1.1 rfl rfl (Nat.le_of_ble_eq_true rfl) ⟨Nat.le_of_ble_eq_true rfl, Nat.le_of_ble_eq_true rfl⟩ (by show _ ≤ 603072; omega) (by show _ ≤ 7194730; omega) dL_law_2109) (rfl : _ = 2112) ?_
  refine V_aload_n Y.1 3 dL_law_2112 (rfl : _ = 2113) rfl rfl ?_
  refine V_cI Y (rV Y (c_X6_completeTrips l D kA _ (a + 329) F s b v p uu tt cc hC.2.1) mi_X6_completeTrips vi_L_281 rfl hC.2.1.1 rfl rfl (Nat.le_of_ble_eq_true rfl) ⟨Nat.le_of_ble_eq_true rfl, Nat.le_of_ble_eq_true rfl⟩ (by show _ ≤ 603072; omega) (by show _ ≤ 7194730; omega) dL_law_2113) (fun q z => Or.inr (by have z := z.1; have := hC.2.2.2.2.2.1; omega)) (rfl : _ = 2116) (fun v_2113 H2113_3 hq_2113 o_2113 => ?_)
  obtain ⟨hb2, hR2⟩ := hq_2113
  have hC := hC.mod o_2113 hR2
  refine V_icmp_eq Y.1 (tgt := 2781) dL_law_2116 (by decide) (rfl : _ = 2119) (fun _ => ?_) (fun c_n => absurd (hS.2.1.2.2.2.2.2.1.trans hb2.symm) c_n)
  exact V_forget (ls' := [(5, _), (4, _), (3, _), (2, _), (1, _), (0, _)]) [0, 1, 2, 3, 4, 5] rfl (V_widen (by omega) (by omega) (kk _ ⟨_, _, _, _, _, _, _, _, _, _, _, _, _, _, _, _, _, _, _, _, _, _, _, hC, (hG.f6 _).more (by omega)⟩))

set_option maxRecDepth 100000 in
set_option maxHeartbeats 4000000 in
theorem lc_37 (l : Launch) (D : va_G) (kA : Nat → ClassId) (Hs : Heap) (σ : SG) (hnt : l.stackTraces = false) {Pp : Program} {Ee : Env} {Ss : State} {Mm : MethodId} {Ar : Array Value} {Bl : List Frame} {Me : Method} {Cc : Code} {Q : State → Prop} (Z : Ys Pp Ss Mm Ar Me Cc cL_law 9 (some .boolean) "MetroFaresLaw" D kA (AA Hs nof) Hs σ) (sa N : Nat) (f : Nat → Int32) (hsa : va_X sa N f Ss Ss.heap ∧ sa < Ss.heap.size ∧ ¬ AA Hs nof sa) (hN : N ≤ 1536) (a j : Nat) (hj : 3 * j + 3 ≤ N) (H : Heap) (hI : Inv D kA Hs a H (61 * j)) (kk : ∀ H1, Inv D kA Hs a H1 (61 * (j + 1)) → V Pp l Ee (rmO 2048 94400 603072 7194730) Ss Mm Ar Bl Me Cc 9 (AA Hs nof) Q H1 (400 + 200 * (j + 1)) (6000 + 400 * (j + 1)) 2781 [(5, .int (nI (3 * j))), (4, .ref (a + 338)), (3, .ref (a + 337)), (2, .ref (a + 329)), (1, .ref a), (0, .ref sa)] []) : V Pp l Ee (rmO 2048 94400 603072 7194730) Ss Mm Ar Bl Me Cc 9 (AA Hs nof) Q H (400 + 200 * (j)) (6000 + 400 * (j)) 2121 [(5, .int (nI (3 * j))), (4, .ref (a + 338)), (3, .ref (a + 337)), (2, .ref (a + 329)), (1, .ref a), (0, .ref sa)] [] := by
  obtain ⟨W, π, ES, u, hs, ep, fc, no, go, vs, cs, ns, gs, F, s, b, v, p, uu, tt, cc, n, t, hC, hG⟩ := hI
  have Y := Z.1
  have hS := hG.1.1.1
  have hM9 := hG.1.1
  have hjq : j ≤ 512 := by omega
  have hu8 := hC.1.2.2.2.2.2.2.2.1
  obtain ⟨w1, ho1⟩ := hC.2.2.1
  obtain ⟨x, hx⟩ : ∃ x, f (3 * j + 1) = x := ⟨_, rfl⟩
  obtain ⟨y, hy⟩ : ∃ y, f (3 * j + 2) = y := ⟨_, rfl⟩
  refine V_aload_n Y.1 4 dL_law_2121 (rfl : _ = 2122) rfl rfl ?_
  refine V_cP Y (sV Z (c_X5_incompleteTrips l D kA Hs σ _ hC.2.2.2.2.1 a W π ES u hs ep fc no go vs cs ns gs hC.1 hnt) mi_X5_incompleteTrips vi_L_282 rfl hC.1.1.1 rfl rfl (Nat.le_of_ble_eq_true rfl) ⟨Nat.le_of_ble_eq_true rfl, Nat.le_of_ble_eq_true rfl⟩ (by show _ ≤ 603072; omega) (by show _ ≤ 7194730; omega) dL_law_2122) (rfl : _ = 2125) ?_
  refine V_aload_n Y.1 3 dL_law_2125 (rfl : _ = 2126) rfl rfl ?_
  refine V_cI Y (rV Y (c_X6_incompleteTrips l D kA _ (a + 329) F s b v p uu tt cc hC.2.1) mi_X6_incompleteTrips vi_L_285 rfl hC.2.1.1 rfl rfl (Nat.le_of_ble_eq_true rfl) ⟨Nat.le_of_ble_eq_true rfl, Nat.le_of_ble_eq_true rfl⟩ (by show _ ≤ 603072; omega) (by show _ ≤ 7194730; omega) dL_law_2126) (fun q z => Or.inr (by have z := z.1; have := hC.2.2.2.2.2.1; omega)) (rfl : _ = 2129) (fun v_2126 H2126_3 hq_2126 o_2126 => ?_)
  obtain ⟨hb2, hR2⟩ := hq_2126
  have hC := hC.mod o_2126 hR2
  refine V_icmp_eq Y.1 (tgt := 2781) dL_law_2129 (by decide) (rfl : _ = 2132) (fun _ => ?_) (fun c_n => absurd (hS.2.1.2.2.2.2.2.2.1.trans hb2.symm) c_n)
  exact V_forget (ls' := [(5, _), (4, _), (3, _), (2, _), (1, _), (0, _)]) [0, 1, 2, 3, 4, 5] rfl (V_widen (by omega) (by omega) (kk _ ⟨_, _, _, _, _, _, _, _, _, _, _, _, _, _, _, _, _, _, _, _, _, _, _, hC, (hG.f6 _).more (by omega)⟩))

set_option maxRecDepth 100000 in
set_option maxHeartbeats 4000000 in
theorem lc_9 (l : Launch) (D : va_G) (kA : Nat → ClassId) (Hs : Heap) (σ : SG) (hnt : l.stackTraces = false) {Pp : Program} {Ee : Env} {Ss : State} {Mm : MethodId} {Ar : Array Value} {Bl : List Frame} {Me : Method} {Cc : Code} {Q : State → Prop} (Z : Ys Pp Ss Mm Ar Me Cc cL_law 9 (some .boolean) "MetroFaresLaw" D kA (AA Hs nof) Hs σ) (sa N : Nat) (f : Nat → Int32) (hsa : va_X sa N f Ss Ss.heap ∧ sa < Ss.heap.size ∧ ¬ AA Hs nof sa) (hN : N ≤ 1536) (a j : Nat) (hj : 3 * j + 3 ≤ N) (H : Heap) (hI : Inv D kA Hs a H (61 * j)) (kk : ∀ H1, Inv D kA Hs a H1 (61 * (j + 1)) → V Pp l Ee (rmO 2048 94400 603072 7194730) Ss Mm Ar Bl Me Cc 9 (AA Hs nof) Q H1 (400 + 200 * (j + 1)) (6000 + 400 * (j + 1)) 2781 [(5, .int (nI (3 * j))), (4, .ref (a + 338)), (3, .ref (a + 337)), (2, .ref (a + 329)), (1, .ref a), (0, .ref sa)] []) : V Pp l Ee (rmO 2048 94400 603072 7194730) Ss Mm Ar Bl Me Cc 9 (AA Hs nof) Q H (400 + 200 * (j)) (6000 + 400 * (j)) 828 [(5, .int (nI (3 * j))), (4, .ref (a + 338)), (3, .ref (a + 337)), (2, .ref (a + 329)), (1, .ref a), (0, .ref sa)] [] := by
  obtain ⟨W, π, ES, u, hs, ep, fc, no, go, vs, cs, ns, gs, F, s, b, v, p, uu, tt, cc, n, t, hC, hG⟩ := hI
  have Y := Z.1
  have hS := hG.1.1.1
  have hM9 := hG.1.1
  have hjq : j ≤ 512 := by omega
  have hu8 := hC.1.2.2.2.2.2.2.2.1
  obtain ⟨w1, ho1⟩ := hC.2.2.1
  obtain ⟨x, hx⟩ : ∃ x, f (3 * j + 1) = x := ⟨_, rfl⟩
  obtain ⟨y, hy⟩ : ∃ y, f (3 * j + 2) = y := ⟨_, rfl⟩
  refine V_aload_n Y.1 4 dL_law_828 (rfl : _ = 829) rfl rfl ?_
  refine V_cP Y (sV Z (c_X5_day l D kA Hs σ _ hC.2.2.2.2.1 a W π ES u hs ep fc no go vs cs ns gs hC.1 hnt) mi_X5_day vi_L_189 rfl hC.1.1.1 rfl rfl (Nat.le_of_ble_eq_true rfl) ⟨Nat.le_of_ble_eq_true rfl, Nat.le_of_ble_eq_true rfl⟩ (by show _ ≤ 603072; omega) (by show _ ≤ 7194730; omega) dL_law_829) (rfl : _ = 832) ?_
  refine V_aload_n Y.1 3 dL_law_832 (rfl : _ = 833) rfl rfl ?_
  refine V_cI Y (rV Y (c_X6_day l D kA _ (a + 329) F s b v p uu tt cc hC.2.1) mi_X6_day vi_L_192 rfl hC.2.1.1 rfl rfl (Nat.le_of_ble_eq_true rfl) ⟨Nat.le_of_ble_eq_true rfl, Nat.le_of_ble_eq_true rfl⟩ (by show _ ≤ 603072; omega) (by show _ ≤ 7194730; omega) dL_law_833) (fun q z => Or.inr (by have z := z.1; have := hC.2.2.2.2.2.1; omega)) (rfl : _ = 836) (fun v_833 H833_3 hq_833 o_833 => ?_)
  obtain ⟨hb2, hR2⟩ := hq_833
  have hC := hC.mod o_833 hR2
  refine V_icmp_eq Y.1 (tgt := 2781) dL_law_836 (by decide) (rfl : _ = 839) (fun _ => ?_) (fun c_n => absurd (by rw [hb2, hS.2.1.2.1]) c_n)
  exact V_forget (ls' := [(5, _), (4, _), (3, _), (2, _), (1, _), (0, _)]) [0, 1, 2, 3, 4, 5] rfl (V_widen (by omega) (by omega) (kk _ ⟨_, _, _, _, _, _, _, _, _, _, _, _, _, _, _, _, _, _, _, _, _, _, _, hC, (hG.f6 _).more (by omega)⟩))

set_option maxRecDepth 100000 in
set_option maxHeartbeats 4000000 in
theorem lc_16 (l : Launch) (D : va_G) (kA : Nat → ClassId) (Hs : Heap) (σ : SG) (hnt : l.stackTraces = false) {Pp : Program} {Ee : Env} {Ss : State} {Mm : MethodId} {Ar : Array Value} {Bl : List Frame} {Me : Method} {Cc : Code} {Q : State → Prop} (Z : Ys Pp Ss Mm Ar Me Cc cL_law 9 (some .boolean) "MetroFaresLaw" D kA (AA Hs nof) Hs σ) (sa N : Nat) (f : Nat → Int32) (hsa : va_X sa N f Ss Ss.heap ∧ sa < Ss.heap.size ∧ ¬ AA Hs nof sa) (hN : N ≤ 1536) (a j : Nat) (hj : 3 * j + 3 ≤ N) (H : Heap) (hI : Inv D kA Hs a H (61 * j)) (kk : ∀ H1, Inv D kA Hs a H1 (61 * (j + 1)) → V Pp l Ee (rmO 2048 94400 603072 7194730) Ss Mm Ar Bl Me Cc 9 (AA Hs nof) Q H1 (400 + 200 * (j + 1)) (6000 + 400 * (j + 1)) 2781 [(5, .int (nI (3 * j))), (4, .ref (a + 338)), (3, .ref (a + 337)), (2, .ref (a + 329)), (1, .ref a), (0, .ref sa)] []) : V Pp l Ee (rmO 2048 94400 603072 7194730) Ss Mm Ar Bl Me Cc 9 (AA Hs nof) Q H (400 + 200 * (j)) (6000 + 400 * (j)) 1127 [(5, .int (nI (3 * j))), (4, .ref (a + 338)), (3, .ref (a + 337)), (2, .ref (a + 329)), (1, .ref a), (0, .ref sa)] [] := by
  obtain ⟨W, π, ES, u, hs, ep, fc, no, go, vs, cs, ns, gs, F, s, b, v, p, uu, tt, cc, n, t, hC, hG⟩ := hI
  have Y := Z.1
  have hS := hG.1.1.1
  have hM9 := hG.1.1
  have hjq : j ≤ 512 := by omega
  have hu8 := hC.1.2.2.2.2.2.2.2.1
  obtain ⟨w1, ho1⟩ := hC.2.2.1
  obtain ⟨x, hx⟩ : ∃ x, f (3 * j + 1) = x := ⟨_, rfl⟩
  obtain ⟨y, hy⟩ : ∃ y, f (3 * j + 2) = y := ⟨_, rfl⟩
  refine V_aload_n Y.1 4 dL_law_1127 (rfl : _ = 1128) rfl rfl ?_
  refine V_cP Y (sV Z (c_X5_defaultFare l D kA Hs σ _ hC.2.2.2.2.1 a W π ES u hs ep fc no go vs cs ns gs hC.1 hnt) mi_X5_defaultFare vi_L_213 rfl hC.1.1.1 rfl rfl (Nat.le_of_ble_eq_true rfl) ⟨Nat.le_of_ble_eq_true rfl, Nat.le_of_ble_eq_true rfl⟩ (by show _ ≤ 603072; omega) (by show _ ≤ 7194730; omega) dL_law_1128) (rfl : _ = 1131) ?_
  refine V_aload_n Y.1 3 dL_law_1131 (rfl : _ = 1132) rfl rfl ?_
  refine V_cI Y (rV Y (c_X6_defaultFare l D kA _ (a + 329) F s b v p uu tt cc hC.2.1) mi_X6_defaultFare vi_L_216 rfl hC.2.1.1 rfl rfl (Nat.le_of_ble_eq_true rfl) ⟨Nat.le_of_ble_eq_true rfl, Nat.le_of_ble_eq_true rfl⟩ (by show _ ≤ 603072; omega) (by show _ ≤ 7194730; omega) dL_law_1132) (fun q z => Or.inr (by have z := z.1; have := hC.2.2.2.2.2.1; omega)) (rfl : _ = 1135) (fun v_1132 H1132_3 hq_1132 o_1132 => ?_)
  obtain ⟨hb2, hR2⟩ := hq_1132
  have hC := hC.mod o_1132 hR2
  refine V_icmp_eq Y.1 (tgt := 2781) dL_law_1135 (by decide) (rfl : _ = 1138) (fun _ => ?_) (fun c_n => absurd (by rw [hb2, hS.2.1.2.2.2.2.2.2.2.1, hS.2.1.2.2.2.2.2.2.2.2]) c_n)
  exact V_forget (ls' := [(5, _), (4, _), (3, _), (2, _), (1, _), (0, _)]) [0, 1, 2, 3, 4, 5] rfl (V_widen (by omega) (by omega) (kk _ ⟨_, _, _, _, _, _, _, _, _, _, _, _, _, _, _, _, _, _, _, _, _, _, _, hC, (hG.f6 _).more (by omega)⟩))

set_option maxRecDepth 100000 in
set_option maxHeartbeats 4000000 in
theorem lc_42 (l : Launch) (D : va_G) (kA : Nat → ClassId) (Hs : Heap) (σ : SG) (hnt : l.stackTraces = false) {Pp : Program} {Ee : Env} {Ss : State} {Mm : MethodId} {Ar : Array Value} {Bl : List Frame} {Me : Method} {Cc : Code} {Q : State → Prop} (Z : Ys Pp Ss Mm Ar Me Cc cL_law 9 (some .boolean) "MetroFaresLaw" D kA (AA Hs nof) Hs σ) (sa N : Nat) (f : Nat → Int32) (hsa : va_X sa N f Ss Ss.heap ∧ sa < Ss.heap.size ∧ ¬ AA Hs nof sa) (hN : N ≤ 1536) (a j : Nat) (hj : 3 * j + 3 ≤ N) (H : Heap) (hI : Inv D kA Hs a H (61 * j)) (kk : ∀ H1, Inv D kA Hs a H1 (61 * (j + 1)) → V Pp l Ee (rmO 2048 94400 603072 7194730) Ss Mm Ar Bl Me Cc 9 (AA Hs nof) Q H1 (400 + 200 * (j + 1)) (6000 + 400 * (j + 1)) 2781 [(5, .int (nI (3 * j))), (4, .ref (a + 338)), (3, .ref (a + 337)), (2, .ref (a + 329)), (1, .ref a), (0, .ref sa)] []) : V Pp l Ee (rmO 2048 94400 603072 7194730) Ss Mm Ar Bl Me Cc 9 (AA Hs nof) Q H (400 + 200 * (j)) (6000 + 400 * (j)) 2352 [(5, .int (nI (3 * j))), (4, .ref (a + 338)), (3, .ref (a + 337)), (2, .ref (a + 329)), (1, .ref a), (0, .ref sa)] [] := by
  obtain ⟨W, π, ES, u, hs, ep, fc, no, go, vs, cs, ns, gs, F, s, b, v, p, uu, tt, cc, n, t, hC, hG⟩ := hI
  have Y := Z.1
  have hS := hG.1.1.1
  have hM9 := hG.1.1
  have hjq : j ≤ 512 := by omega
  have hu8 := hC.1.2.2.2.2.2.2.2.1
  obtain ⟨w1, ho1⟩ := hC.2.2.1
  obtain ⟨x, hx⟩ : ∃ x, f (3 * j + 1) = x := ⟨_, rfl⟩
  obtain ⟨y, hy⟩ : ∃ y, f (3 * j + 2) = y := ⟨_, rfl⟩
  refine V_aload_n Y.1 4 dL_law_2352 (rfl : _ = 2353) rfl rfl ?_
  refine V_cP Y (sV Z (c_X5_isConsistent l D kA Hs σ _ hC.2.2.2.2.1 a W π ES u hs ep fc no go vs cs ns gs n (hS.2.1.1.trans hS.1.1) hS.1.2.1 (t / 1440) hS.day (by have := hS.t30; omega) hC.1 hnt (fun f9 g9 hf9 hg9 => (zc hS.zo hf9 hg9).1) hM9.hcons hS.2.2.2.2.2.2.1) mi_X5_isConsistent vi_L_300 rfl hC.1.1.1 rfl rfl (Nat.le_of_ble_eq_true rfl) ⟨Nat.le_of_ble_eq_true rfl, Nat.le_of_ble_eq_true rfl⟩ (by show _ ≤ 603072; omega) (by show _ ≤ 7194730; omega) dL_law_2353) (rfl : _ = 2356) ?_
  refine V_aload_n Y.1 3 dL_law_2356 (rfl : _ = 2357) rfl rfl ?_
  refine V_cI Y (rV Y (c_X6_isConsistent l D kA _ (a + 329) F s b v p uu tt cc hC.2.1) mi_X6_isConsistent vi_L_304 rfl hC.2.1.1 rfl rfl (Nat.le_of_ble_eq_true rfl) ⟨Nat.le_of_ble_eq_true rfl, Nat.le_of_ble_eq_true rfl⟩ (by show _ ≤ 603072; omega) (by show _ ≤ 7194730; omega) dL_law_2357) (fun q z => Or.inr (by have z := z.1; have := hC.2.2.2.2.2.1; omega)) (rfl : _ = 2360) (fun v_2357 H2357_3 hq_2357 o_2357 => ?_)
  obtain ⟨hb2, hR2⟩ := hq_2357
  have hC := hC.mod o_2357 hR2
  refine V_icmp_eq Y.1 (tgt := 2781) dL_law_2360 (by decide) (rfl : _ = 2363) (fun _ => ?_) (fun c_n => absurd hb2.symm c_n)
  exact V_forget (ls' := [(5, _), (4, _), (3, _), (2, _), (1, _), (0, _)]) [0, 1, 2, 3, 4, 5] rfl (V_widen (by omega) (by omega) (kk _ ⟨_, _, _, _, _, _, _, _, _, _, _, _, _, _, _, _, _, _, _, _, _, _, _, hC, (hG.f6 _).more (by omega)⟩))

set_option maxRecDepth 100000 in
set_option maxHeartbeats 4000000 in
theorem lc_10 (l : Launch) (D : va_G) (kA : Nat → ClassId) (Hs : Heap) (σ : SG) (hnt : l.stackTraces = false) {Pp : Program} {Ee : Env} {Ss : State} {Mm : MethodId} {Ar : Array Value} {Bl : List Frame} {Me : Method} {Cc : Code} {Q : State → Prop} (Z : Ys Pp Ss Mm Ar Me Cc cL_law 9 (some .boolean) "MetroFaresLaw" D kA (AA Hs nof) Hs σ) (sa N : Nat) (f : Nat → Int32) (hsa : va_X sa N f Ss Ss.heap ∧ sa < Ss.heap.size ∧ ¬ AA Hs nof sa) (hN : N ≤ 1536) (a j : Nat) (hj : 3 * j + 3 ≤ N) (H : Heap) (hI : Inv D kA Hs a H (61 * j)) (kk : ∀ H1, Inv D kA Hs a H1 (61 * (j + 1)) → V Pp l Ee (rmO 2048 94400 603072 7194730) Ss Mm Ar Bl Me Cc 9 (AA Hs nof) Q H1 (400 + 200 * (j + 1)) (6000 + 400 * (j + 1)) 2781 [(5, .int (nI (3 * j))), (4, .ref (a + 338)), (3, .ref (a + 337)), (2, .ref (a + 329)), (1, .ref a), (0, .ref sa)] []) : V Pp l Ee (rmO 2048 94400 603072 7194730) Ss Mm Ar Bl Me Cc 9 (AA Hs nof) Q H (400 + 200 * (j)) (6000 + 400 * (j)) 841 [(5, .int (nI (3 * j))), (4, .ref (a + 338)), (3, .ref (a + 337)), (2, .ref (a + 329)), (1, .ref a), (0, .ref sa)] [] := by
  obtain ⟨W, π, ES, u, hs, ep, fc, no, go, vs, cs, ns, gs, F, s, b, v, p, uu, tt, cc, n, t, hC, hG⟩ := hI
  have Y := Z.1
  have hS := hG.1.1.1
  have hM9 := hG.1.1
  have hjq : j ≤ 512 := by omega
  have hu8 := hC.1.2.2.2.2.2.2.2.1
  obtain ⟨w1, ho1⟩ := hC.2.2.1
  obtain ⟨x, hx⟩ : ∃ x, f (3 * j + 1) = x := ⟨_, rfl⟩
  obtain ⟨y, hy⟩ : ∃ y, f (3 * j + 2) = y := ⟨_, rfl⟩
  refine V_aload_n Y.1 4 dL_law_841 (rfl : _ = 842) rfl rfl ?_
  refine V_aload_n Y.1 5 dL_law_842 (rfl : _ = 843) rfl rfl ?_
  refine V_iload Y.1 0 dL_law_843 (rfl : _ = 845) rfl ?_
  refine V_iconst Y.1 (v := 1) dL_law_845 (rfl : _ = 846) (by decide) ?_
  refine V_iadd Y.1 dL_law_846 (rfl : _ = 847) ?_
  refine V_nm (v := nI (3 * j + 1)) (nI_add _ 1) ?_
  refine V_sld Y.1 (v := x) hsa (vp_in_nI (by omega) (by omega)) (by rw [nI_clamp (by omega)]; exact hx) dL_law_847 (rfl : _ = 848) ?_
  refine V_aload_n Y.1 2 dL_law_848 (rfl : _ = 849) rfl rfl ?_
  refine V_cI Y (sW Z (c_L_zone l D kA Hs σ _ hC.2.2.2.2.1 a W π ES u hs ep fc no go vs cs ns gs x (a + 337) w1 hC.1 hnt ho1 (by omega) (by have := hC.2.2.2.2.2.2.2; omega) (by have := hC.2.2.2.2.2.1; omega)) mh_L_zone si_L_193 rfl rfl (Nat.le_of_ble_eq_true rfl) ⟨Nat.le_of_ble_eq_true rfl, Nat.le_of_ble_eq_true rfl⟩ (by show _ ≤ 603072; omega) (by show _ ≤ 7194730; omega) dL_law_849) (fun q z => Or.inr (by have z : q = a + 337 := z; have h9 := hC.2.2.2.2.1.1; have := hC.2.2.2.2.2.1; omega)) (rfl : _ = 852) (fun v_849 H849_8 hq_849 o_849 => ?_)
  rcases hq_849 with ⟨hk9, r9, H9, w9, hP9, hst9, ho9, hw9⟩ | ⟨E9, hX9, hk9, ho9⟩
  · have hk8 := hk9.symm
    subst hk8
    have hC := hC.out o_849 ⟨_, ho9⟩
    obtain ⟨hr9, -, hc9⟩ := hP9
    have hg9 : g_zone s x = (0, r9) := by rw [hr9]; exact qa_zone_y hS hc9
    refine V_istore Y.1 (ls' := [(6, _), (5, _), (4, _), (3, _), (2, _), (1, _), (0, _)]) dL_law_852 (rfl : _ = 854) (by decide) rfl ?_
    refine V_aload_n Y.1 4 dL_law_854 (rfl : _ = 855) rfl rfl ?_
    refine V_aload_n Y.1 6 dL_law_855 (rfl : _ = 856) rfl rfl ?_
    refine V_iload Y.1 1 dL_law_856 (rfl : _ = 858) rfl ?_
    refine V_iconst Y.1 (v := 1) dL_law_858 (rfl : _ = 859) (by decide) ?_
    refine V_iadd Y.1 dL_law_859 (rfl : _ = 860) ?_
    refine V_nm (v := nI (3 * j + 1)) (nI_add _ 1) ?_
    refine V_sld Y.1 (v := x) hsa (vp_in_nI (by omega) (by omega)) (by rw [nI_clamp (by omega)]; exact hx) dL_law_860 (rfl : _ = 861) ?_
    refine V_cI Y (rV Y (c_X6_zone l D kA _ (a + 329) F s b v p uu tt cc x hC.2.1) mi_X6_zone vi_L_195 rfl hC.2.1.1 rfl rfl (Nat.le_of_ble_eq_true rfl) ⟨Nat.le_of_ble_eq_true rfl, Nat.le_of_ble_eq_true rfl⟩ (by show _ ≤ 603072; omega) (by show _ ≤ 7194730; omega) dL_law_861) (fun q z => Or.inr (by have z := z.1; have := hC.2.2.2.2.2.1; omega)) (rfl : _ = 864) (fun v_861 H861_13 hq_861 o_861 => ?_)
    obtain ⟨hb2, hR2⟩ := hq_861
    rw [hg9] at hb2 hR2
    have hb3 := hb2.symm
    subst hb3
    have ho9 := ho9.off o_861 (fun e => by have := e.2; omega)
    have hC := hC.mod o_861 hR2
    refine V_istore Y.1 (ls' := [(7, _), (6, _), (5, _), (4, _), (3, _), (2, _), (1, _), (0, _)]) dL_law_864 (rfl : _ = 866) (by decide) rfl ?_
    refine V_aload_n Y.1 5 dL_law_866 (rfl : _ = 867) rfl rfl ?_
    refine V_cP Y (rV Y (c_X6_thrown l D kA _ (a + 329) _ _ _ _ _ _ _ _ hC.2.1) mi_X6_thrown vi_L_159 rfl hC.2.1.1 rfl rfl (Nat.le_of_ble_eq_true rfl) ⟨Nat.le_of_ble_eq_true rfl, Nat.le_of_ble_eq_true rfl⟩ (by show _ ≤ 603072; omega) (by show _ ≤ 7194730; omega) dL_law_867) (rfl : _ = 870) ?_
    refine V_iload Y.1 1 dL_law_870 (rfl : _ = 872) rfl ?_
    refine V_icmp_eq Y.1 (tgt := 877) dL_law_872 (by decide) (rfl : _ = 875) (fun _ => ?_) (fun c_n => absurd pk_us c_n)
    refine V_iload Y.1 1 dL_law_877 (rfl : _ = 879) rfl ?_
    refine V_if_ne Y.1 (tgt := 894) dL_law_879 (by decide) (rfl : _ = 882) (fun c_n => absurd rfl c_n) (fun _ => ?_)
    refine V_aload_n Y.1 4 dL_law_882 (rfl : _ = 883) rfl rfl ?_
    refine V_iconst Y.1 (v := 0) dL_law_883 (rfl : _ = 884) (by decide) ?_
    refine V_lald Y.1 (v := r9.toInt64) ho9 (show ¬ ((0 : Int32) < 0 ∨ 1 ≤ (0 : Int32).toNatClampNeg) by decide) hw9 dL_law_884 (rfl : _ = 885) ?_
    refine V_iload Y.1 0 dL_law_885 (rfl : _ = 887) rfl ?_
    refine V_i2l Y.1 dL_law_887 (rfl : _ = 888) rfl ?_
    refine V_lcmp Y.1 dL_law_888 (rfl : _ = 889) ?_
    refine V_if_eq Y.1 (tgt := 894) dL_law_889 (by decide) (rfl : _ = 892) (fun _ => ?_) (fun c_n => absurd (lg_self _) c_n)
    refine V_goto Y.1 (tgt := 2781) dL_law_894 (by decide) ?_
    exact V_forget (ls' := [(5, _), (4, _), (3, _), (2, _), (1, _), (0, _)]) [2, 3, 4, 5, 6, 7] rfl (V_widen (by omega) (by omega) (kk _ ⟨_, _, _, _, _, _, _, _, _, _, _, _, _, _, _, _, _, _, _, _, _, _, _, hC, (hG.f6 _).more (by omega)⟩))
  · have hC := hC.out o_849 ⟨_, ho9⟩
    obtain ⟨rfl, hx9⟩ := hX9
    have hk7 : v_849 = 1 := hk9
    have hk8 := hk7.symm
    subst hk8
    have hg9 : (g_zone s x).1 = 1 := qa_zone_n hx9
    refine V_istore Y.1 (ls' := [(6, _), (5, _), (4, _), (3, _), (2, _), (1, _), (0, _)]) dL_law_852 (rfl : _ = 854) (by decide) rfl ?_
    refine V_aload_n Y.1 4 dL_law_854 (rfl : _ = 855) rfl rfl ?_
    refine V_aload_n Y.1 6 dL_law_855 (rfl : _ = 856) rfl rfl ?_
    refine V_iload Y.1 1 dL_law_856 (rfl : _ = 858) rfl ?_
    refine V_iconst Y.1 (v := 1) dL_law_858 (rfl : _ = 859) (by decide) ?_
    refine V_iadd Y.1 dL_law_859 (rfl : _ = 860) ?_
    refine V_nm (v := nI (3 * j + 1)) (nI_add _ 1) ?_
    refine V_sld Y.1 (v := x) hsa (vp_in_nI (by omega) (by omega)) (by rw [nI_clamp (by omega)]; exact hx) dL_law_860 (rfl : _ = 861) ?_
    refine V_cI Y (rV Y (c_X6_zone l D kA _ (a + 329) F s b v p uu tt cc x hC.2.1) mi_X6_zone vi_L_195 rfl hC.2.1.1 rfl rfl (Nat.le_of_ble_eq_true rfl) ⟨Nat.le_of_ble_eq_true rfl, Nat.le_of_ble_eq_true rfl⟩ (by show _ ≤ 603072; omega) (by show _ ≤ 7194730; omega) dL_law_861) (fun q z => Or.inr (by have z := z.1; have := hC.2.2.2.2.2.1; omega)) (rfl : _ = 864) (fun v_861 H861_12 hq_861 o_861 => ?_)
    obtain ⟨hb2, hR2⟩ := hq_861
    rw [hg9] at hR2
    have hC := hC.mod o_861 hR2
    refine V_istore Y.1 (ls' := [(7, _), (6, _), (5, _), (4, _), (3, _), (2, _), (1, _), (0, _)]) dL_law_864 (rfl : _ = 866) (by decide) rfl ?_
    refine V_aload_n Y.1 5 dL_law_866 (rfl : _ = 867) rfl rfl ?_
    refine V_cP Y (rV Y (c_X6_thrown l D kA _ (a + 329) _ _ _ _ _ _ _ _ hC.2.1) mi_X6_thrown vi_L_159 rfl hC.2.1.1 rfl rfl (Nat.le_of_ble_eq_true rfl) ⟨Nat.le_of_ble_eq_true rfl, Nat.le_of_ble_eq_true rfl⟩ (by show _ ≤ 603072; omega) (by show _ ≤ 7194730; omega) dL_law_867) (rfl : _ = 870) ?_
    refine V_iload Y.1 1 dL_law_870 (rfl : _ = 872) rfl ?_
    refine V_icmp_eq Y.1 (tgt := 877) dL_law_872 (by decide) (rfl : _ = 875) (fun _ => ?_) (fun c_n => absurd pk_us c_n)
    refine V_iload Y.1 1 dL_law_877 (rfl : _ = 879) rfl ?_
    refine V_if_ne Y.1 (tgt := 894) dL_law_879 (by decide) (rfl : _ = 882) (fun _ => ?_) (fun c_n => absurd c_n (by decide))
    refine V_goto Y.1 (tgt := 2781) dL_law_894 (by decide) ?_
    exact V_forget (ls' := [(5, _), (4, _), (3, _), (2, _), (1, _), (0, _)]) [2, 3, 4, 5, 6, 7] rfl (V_widen (by omega) (by omega) (kk _ ⟨_, _, _, _, _, _, _, _, _, _, _, _, _, _, _, _, _, _, _, _, _, _, _, hC, (hG.f6 _).more (by omega)⟩))

set_option maxRecDepth 100000 in
set_option maxHeartbeats 4000000 in
theorem lc_11 (l : Launch) (D : va_G) (kA : Nat → ClassId) (Hs : Heap) (σ : SG) (hnt : l.stackTraces = false) {Pp : Program} {Ee : Env} {Ss : State} {Mm : MethodId} {Ar : Array Value} {Bl : List Frame} {Me : Method} {Cc : Code} {Q : State → Prop} (Z : Ys Pp Ss Mm Ar Me Cc cL_law 9 (some .boolean) "MetroFaresLaw" D kA (AA Hs nof) Hs σ) (sa N : Nat) (f : Nat → Int32) (hsa : va_X sa N f Ss Ss.heap ∧ sa < Ss.heap.size ∧ ¬ AA Hs nof sa) (hN : N ≤ 1536) (a j : Nat) (hj : 3 * j + 3 ≤ N) (H : Heap) (hI : Inv D kA Hs a H (61 * j)) (kk : ∀ H1, Inv D kA Hs a H1 (61 * (j + 1)) → V Pp l Ee (rmO 2048 94400 603072 7194730) Ss Mm Ar Bl Me Cc 9 (AA Hs nof) Q H1 (400 + 200 * (j + 1)) (6000 + 400 * (j + 1)) 2781 [(5, .int (nI (3 * j))), (4, .ref (a + 338)), (3, .ref (a + 337)), (2, .ref (a + 329)), (1, .ref a), (0, .ref sa)] []) : V Pp l Ee (rmO 2048 94400 603072 7194730) Ss Mm Ar Bl Me Cc 9 (AA Hs nof) Q H (400 + 200 * (j)) (6000 + 400 * (j)) 897 [(5, .int (nI (3 * j))), (4, .ref (a + 338)), (3, .ref (a + 337)), (2, .ref (a + 329)), (1, .ref a), (0, .ref sa)] [] := by
  obtain ⟨W, π, ES, u, hs, ep, fc, no, go, vs, cs, ns, gs, F, s, b, v, p, uu, tt, cc, n, t, hC, hG⟩ := hI
  have Y := Z.1
  have hS := hG.1.1.1
  have hM9 := hG.1.1
  have hjq : j ≤ 512 := by omega
  have hu8 := hC.1.2.2.2.2.2.2.2.1
  obtain ⟨w1, ho1⟩ := hC.2.2.1
  obtain ⟨x, hx⟩ : ∃ x, f (3 * j + 1) = x := ⟨_, rfl⟩
  obtain ⟨y, hy⟩ : ∃ y, f (3 * j + 2) = y := ⟨_, rfl⟩
  refine V_aload_n Y.1 4 dL_law_897 (rfl : _ = 898) rfl rfl ?_
  refine V_aload_n Y.1 5 dL_law_898 (rfl : _ = 899) rfl rfl ?_
  refine V_iload Y.1 0 dL_law_899 (rfl : _ = 901) rfl ?_
  refine V_iconst Y.1 (v := 1) dL_law_901 (rfl : _ = 902) (by decide) ?_
  refine V_iadd Y.1 dL_law_902 (rfl : _ = 903) ?_
  refine V_nm (v := nI (3 * j + 1)) (nI_add _ 1) ?_
  refine V_sld Y.1 (v := x) hsa (vp_in_nI (by omega) (by omega)) (by rw [nI_clamp (by omega)]; exact hx) dL_law_903 (rfl : _ = 904) ?_
  refine V_aload_n Y.1 5 dL_law_904 (rfl : _ = 905) rfl rfl ?_
  refine V_iload Y.1 0 dL_law_905 (rfl : _ = 907) rfl ?_
  refine V_iconst Y.1 (v := 2) dL_law_907 (rfl : _ = 908) (by decide) ?_
  refine V_iadd Y.1 dL_law_908 (rfl : _ = 909) ?_
  refine V_nm (v := nI (3 * j + 2)) (nI_add _ 2) ?_
  refine V_sld Y.1 (v := y) hsa (vp_in_nI (by omega) (by omega)) (by rw [nI_clamp (by omega)]; exact hy) dL_law_909 (rfl : _ = 910) ?_
  refine V_aload_n Y.1 2 dL_law_910 (rfl : _ = 911) rfl rfl ?_
  refine V_cI Y (sW Z (c_L_zoneCount l D kA Hs σ _ hC.2.2.2.2.1 a W π ES u hs ep fc no go vs cs ns gs x y (a + 337) w1 hC.1 hnt ho1 (by omega) (by have := hC.2.2.2.2.2.2.2; omega) (by have := hC.2.2.2.2.2.1; omega)) mh_L_zoneCount si_L_196 rfl rfl (Nat.le_of_ble_eq_true rfl) ⟨Nat.le_of_ble_eq_true rfl, Nat.le_of_ble_eq_true rfl⟩ (by show _ ≤ 603072; omega) (by show _ ≤ 7194730; omega) dL_law_911) (fun q z => Or.inr (by have z : q = a + 337 := z; have h9 := hC.2.2.2.2.1.1; have := hC.2.2.2.2.2.1; omega)) (rfl : _ = 914) (fun v_911 H911_14 hq_911 o_911 => ?_)
  rcases hq_911 with ⟨hk9, r9, H9, w9, hP9, hst9, ho9, hw9⟩ | ⟨E9, hX9, hk9, ho9⟩
  · have hk8 := hk9.symm
    subst hk8
    have hC := hC.out o_911 ⟨_, ho9⟩
    obtain ⟨hr9, -, hc9, hd9⟩ := hP9
    have hg9 : g_zc s x y = (0, r9) := by rw [hr9]; exact (qa_zc_y hS hc9 hd9).1
    refine V_istore Y.1 (ls' := [(6, _), (5, _), (4, _), (3, _), (2, _), (1, _), (0, _)]) dL_law_914 (rfl : _ = 916) (by decide) rfl ?_
    refine V_aload_n Y.1 4 dL_law_916 (rfl : _ = 917) rfl rfl ?_
    refine V_aload_n Y.1 6 dL_law_917 (rfl : _ = 918) rfl rfl ?_
    refine V_iload Y.1 1 dL_law_918 (rfl : _ = 920) rfl ?_
    refine V_iconst Y.1 (v := 1) dL_law_920 (rfl : _ = 921) (by decide) ?_
    refine V_iadd Y.1 dL_law_921 (rfl : _ = 922) ?_
    refine V_nm (v := nI (3 * j + 1)) (nI_add _ 1) ?_
    refine V_sld Y.1 (v := x) hsa (vp_in_nI (by omega) (by omega)) (by rw [nI_clamp (by omega)]; exact hx) dL_law_922 (rfl : _ = 923) ?_
    refine V_aload_n Y.1 6 dL_law_923 (rfl : _ = 924) rfl rfl ?_
    refine V_iload Y.1 1 dL_law_924 (rfl : _ = 926) rfl ?_
    refine V_iconst Y.1 (v := 2) dL_law_926 (rfl : _ = 927) (by decide) ?_
    refine V_iadd Y.1 dL_law_927 (rfl : _ = 928) ?_
    refine V_nm (v := nI (3 * j + 2)) (nI_add _ 2) ?_
    refine V_sld Y.1 (v := y) hsa (vp_in_nI (by omega) (by omega)) (by rw [nI_clamp (by omega)]; exact hy) dL_law_928 (rfl : _ = 929) ?_
    refine V_cI Y (rV Y (c_X6_zoneCount l D kA _ (a + 329) F s b v p uu tt cc x y hC.2.1) mi_X6_zoneCount vi_L_198 rfl hC.2.1.1 rfl rfl (Nat.le_of_ble_eq_true rfl) ⟨Nat.le_of_ble_eq_true rfl, Nat.le_of_ble_eq_true rfl⟩ (by show _ ≤ 603072; omega) (by show _ ≤ 7194730; omega) dL_law_929) (fun q z => Or.inr (by have z := z.1; have := hC.2.2.2.2.2.1; omega)) (rfl : _ = 932) (fun v_929 H929_19 hq_929 o_929 => ?_)
    obtain ⟨hb2, hR2⟩ := hq_929
    rw [hg9] at hb2 hR2
    have hb3 := hb2.symm
    subst hb3
    have ho9 := ho9.off o_929 (fun e => by have := e.2; omega)
    have hC := hC.mod o_929 hR2
    refine V_istore Y.1 (ls' := [(7, _), (6, _), (5, _), (4, _), (3, _), (2, _), (1, _), (0, _)]) dL_law_932 (rfl : _ = 934) (by decide) rfl ?_
    refine V_aload_n Y.1 5 dL_law_934 (rfl : _ = 935) rfl rfl ?_
    refine V_cP Y (rV Y (c_X6_thrown l D kA _ (a + 329) _ _ _ _ _ _ _ _ hC.2.1) mi_X6_thrown vi_L_159 rfl hC.2.1.1 rfl rfl (Nat.le_of_ble_eq_true rfl) ⟨Nat.le_of_ble_eq_true rfl, Nat.le_of_ble_eq_true rfl⟩ (by show _ ≤ 603072; omega) (by show _ ≤ 7194730; omega) dL_law_935) (rfl : _ = 938) ?_
    refine V_iload Y.1 1 dL_law_938 (rfl : _ = 940) rfl ?_
    refine V_icmp_eq Y.1 (tgt := 945) dL_law_940 (by decide) (rfl : _ = 943) (fun _ => ?_) (fun c_n => absurd pk_us c_n)
    refine V_iload Y.1 1 dL_law_945 (rfl : _ = 947) rfl ?_
    refine V_if_ne Y.1 (tgt := 962) dL_law_947 (by decide) (rfl : _ = 950) (fun c_n => absurd rfl c_n) (fun _ => ?_)
    refine V_aload_n Y.1 4 dL_law_950 (rfl : _ = 951) rfl rfl ?_
    refine V_iconst Y.1 (v := 0) dL_law_951 (rfl : _ = 952) (by decide) ?_
    refine V_lald Y.1 (v := r9.toInt64) ho9 (show ¬ ((0 : Int32) < 0 ∨ 1 ≤ (0 : Int32).toNatClampNeg) by decide) hw9 dL_law_952 (rfl : _ = 953) ?_
    refine V_iload Y.1 0 dL_law_953 (rfl : _ = 955) rfl ?_
    refine V_i2l Y.1 dL_law_955 (rfl : _ = 956) rfl ?_
    refine V_lcmp Y.1 dL_law_956 (rfl : _ = 957) ?_
    refine V_if_eq Y.1 (tgt := 962) dL_law_957 (by decide) (rfl : _ = 960) (fun _ => ?_) (fun c_n => absurd (lg_self _) c_n)
    refine V_goto Y.1 (tgt := 2781) dL_law_962 (by decide) ?_
    exact V_forget (ls' := [(5, _), (4, _), (3, _), (2, _), (1, _), (0, _)]) [2, 3, 4, 5, 6, 7] rfl (V_widen (by omega) (by omega) (kk _ ⟨_, _, _, _, _, _, _, _, _, _, _, _, _, _, _, _, _, _, _, _, _, _, _, hC, (hG.f6 _).more (by omega)⟩))
  · have hC := hC.out o_911 ⟨_, ho9⟩
    obtain ⟨rfl, hx9⟩ := hX9
    have hk7 : v_911 = 1 := hk9
    have hk8 := hk7.symm
    subst hk8
    have hg9 : (g_zc s x y).1 = 1 := qa_zc_n hx9
    refine V_istore Y.1 (ls' := [(6, _), (5, _), (4, _), (3, _), (2, _), (1, _), (0, _)]) dL_law_914 (rfl : _ = 916) (by decide) rfl ?_
    refine V_aload_n Y.1 4 dL_law_916 (rfl : _ = 917) rfl rfl ?_
    refine V_aload_n Y.1 6 dL_law_917 (rfl : _ = 918) rfl rfl ?_
    refine V_iload Y.1 1 dL_law_918 (rfl : _ = 920) rfl ?_
    refine V_iconst Y.1 (v := 1) dL_law_920 (rfl : _ = 921) (by decide) ?_
    refine V_iadd Y.1 dL_law_921 (rfl : _ = 922) ?_
    refine V_nm (v := nI (3 * j + 1)) (nI_add _ 1) ?_
    refine V_sld Y.1 (v := x) hsa (vp_in_nI (by omega) (by omega)) (by rw [nI_clamp (by omega)]; exact hx) dL_law_922 (rfl : _ = 923) ?_
    refine V_aload_n Y.1 6 dL_law_923 (rfl : _ = 924) rfl rfl ?_
    refine V_iload Y.1 1 dL_law_924 (rfl : _ = 926) rfl ?_
    refine V_iconst Y.1 (v := 2) dL_law_926 (rfl : _ = 927) (by decide) ?_
    refine V_iadd Y.1 dL_law_927 (rfl : _ = 928) ?_
    refine V_nm (v := nI (3 * j + 2)) (nI_add _ 2) ?_
    refine V_sld Y.1 (v := y) hsa (vp_in_nI (by omega) (by omega)) (by rw [nI_clamp (by omega)]; exact hy) dL_law_928 (rfl : _ = 929) ?_
    refine V_cI Y (rV Y (c_X6_zoneCount l D kA _ (a + 329) F s b v p uu tt cc x y hC.2.1) mi_X6_zoneCount vi_L_198 rfl hC.2.1.1 rfl rfl (Nat.le_of_ble_eq_true rfl) ⟨Nat.le_of_ble_eq_true rfl, Nat.le_of_ble_eq_true rfl⟩ (by show _ ≤ 603072; omega) (by show _ ≤ 7194730; omega) dL_law_929) (fun q z => Or.inr (by have z := z.1; have := hC.2.2.2.2.2.1; omega)) (rfl : _ = 932) (fun v_929 H929_18 hq_929 o_929 => ?_)
    obtain ⟨hb2, hR2⟩ := hq_929
    rw [hg9] at hR2
    have hC := hC.mod o_929 hR2
    refine V_istore Y.1 (ls' := [(7, _), (6, _), (5, _), (4, _), (3, _), (2, _), (1, _), (0, _)]) dL_law_932 (rfl : _ = 934) (by decide) rfl ?_
    refine V_aload_n Y.1 5 dL_law_934 (rfl : _ = 935) rfl rfl ?_
    refine V_cP Y (rV Y (c_X6_thrown l D kA _ (a + 329) _ _ _ _ _ _ _ _ hC.2.1) mi_X6_thrown vi_L_159 rfl hC.2.1.1 rfl rfl (Nat.le_of_ble_eq_true rfl) ⟨Nat.le_of_ble_eq_true rfl, Nat.le_of_ble_eq_true rfl⟩ (by show _ ≤ 603072; omega) (by show _ ≤ 7194730; omega) dL_law_935) (rfl : _ = 938) ?_
    refine V_iload Y.1 1 dL_law_938 (rfl : _ = 940) rfl ?_
    refine V_icmp_eq Y.1 (tgt := 945) dL_law_940 (by decide) (rfl : _ = 943) (fun _ => ?_) (fun c_n => absurd pk_us c_n)
    refine V_iload Y.1 1 dL_law_945 (rfl : _ = 947) rfl ?_
    refine V_if_ne Y.1 (tgt := 962) dL_law_947 (by decide) (rfl : _ = 950) (fun _ => ?_) (fun c_n => absurd c_n (by decide))
    refine V_goto Y.1 (tgt := 2781) dL_law_962 (by decide) ?_
    exact V_forget (ls' := [(5, _), (4, _), (3, _), (2, _), (1, _), (0, _)]) [2, 3, 4, 5, 6, 7] rfl (V_widen (by omega) (by omega) (kk _ ⟨_, _, _, _, _, _, _, _, _, _, _, _, _, _, _, _, _, _, _, _, _, _, _, hC, (hG.f6 _).more (by omega)⟩))

set_option maxRecDepth 100000 in
set_option maxHeartbeats 4000000 in
theorem lc_12 (l : Launch) (D : va_G) (kA : Nat → ClassId) (Hs : Heap) (σ : SG) (hnt : l.stackTraces = false) {Pp : Program} {Ee : Env} {Ss : State} {Mm : MethodId} {Ar : Array Value} {Bl : List Frame} {Me : Method} {Cc : Code} {Q : State → Prop} (Z : Ys Pp Ss Mm Ar Me Cc cL_law 9 (some .boolean) "MetroFaresLaw" D kA (AA Hs nof) Hs σ) (sa N : Nat) (f : Nat → Int32) (hsa : va_X sa N f Ss Ss.heap ∧ sa < Ss.heap.size ∧ ¬ AA Hs nof sa) (hN : N ≤ 1536) (a j : Nat) (hj : 3 * j + 3 ≤ N) (H : Heap) (hI : Inv D kA Hs a H (61 * j)) (kk : ∀ H1, Inv D kA Hs a H1 (61 * (j + 1)) → V Pp l Ee (rmO 2048 94400 603072 7194730) Ss Mm Ar Bl Me Cc 9 (AA Hs nof) Q H1 (400 + 200 * (j + 1)) (6000 + 400 * (j + 1)) 2781 [(5, .int (nI (3 * j))), (4, .ref (a + 338)), (3, .ref (a + 337)), (2, .ref (a + 329)), (1, .ref a), (0, .ref sa)] []) : V Pp l Ee (rmO 2048 94400 603072 7194730) Ss Mm Ar Bl Me Cc 9 (AA Hs nof) Q H (400 + 200 * (j)) (6000 + 400 * (j)) 965 [(5, .int (nI (3 * j))), (4, .ref (a + 338)), (3, .ref (a + 337)), (2, .ref (a + 329)), (1, .ref a), (0, .ref sa)] [] := by
  obtain ⟨W, π, ES, u, hs, ep, fc, no, go, vs, cs, ns, gs, F, s, b, v, p, uu, tt, cc, n, t, hC, hG⟩ := hI
  have Y := Z.1
  have hS := hG.1.1.1
  have hM9 := hG.1.1
  have hjq : j ≤ 512 := by omega
  have hu8 := hC.1.2.2.2.2.2.2.2.1
  obtain ⟨w1, ho1⟩ := hC.2.2.1
  obtain ⟨x, hx⟩ : ∃ x, f (3 * j + 1) = x := ⟨_, rfl⟩
  obtain ⟨y, hy⟩ : ∃ y, f (3 * j + 2) = y := ⟨_, rfl⟩
  refine V_aload_n Y.1 4 dL_law_965 (rfl : _ = 966) rfl rfl ?_
  refine V_aload_n Y.1 5 dL_law_966 (rfl : _ = 967) rfl rfl ?_
  refine V_iload Y.1 0 dL_law_967 (rfl : _ = 969) rfl ?_
  refine V_iconst Y.1 (v := 1) dL_law_969 (rfl : _ = 970) (by decide) ?_
  refine V_iadd Y.1 dL_law_970 (rfl : _ = 971) ?_
  refine V_nm (v := nI (3 * j + 1)) (nI_add _ 1) ?_
  refine V_sld Y.1 (v := x) hsa (vp_in_nI (by omega) (by omega)) (by rw [nI_clamp (by omega)]; exact hx) dL_law_971 (rfl : _ = 972) ?_
  refine V_aload_n Y.1 5 dL_law_972 (rfl : _ = 973) rfl rfl ?_
  refine V_iload Y.1 0 dL_law_973 (rfl : _ = 975) rfl ?_
  refine V_iconst Y.1 (v := 2) dL_law_975 (rfl : _ = 976) (by decide) ?_
  refine V_iadd Y.1 dL_law_976 (rfl : _ = 977) ?_
  refine V_nm (v := nI (3 * j + 2)) (nI_add _ 2) ?_
  refine V_sld Y.1 (v := y) hsa (vp_in_nI (by omega) (by omega)) (by rw [nI_clamp (by omega)]; exact hy) dL_law_977 (rfl : _ = 978) ?_
  refine V_aload_n Y.1 2 dL_law_978 (rfl : _ = 979) rfl rfl ?_
  refine V_cI Y (sW Z (c_L_zoneCountByComparing l D kA Hs σ _ hC.2.2.2.2.1 a W π ES u hs ep fc no go vs cs ns gs x y (a + 337) w1 hC.1 hnt ho1 (by omega) (by have := hC.2.2.2.2.2.2.2; omega) (by have := hC.2.2.2.2.2.1; omega)) mh_L_zoneCountByComparing si_L_199 rfl rfl (Nat.le_of_ble_eq_true rfl) ⟨Nat.le_of_ble_eq_true rfl, Nat.le_of_ble_eq_true rfl⟩ (by show _ ≤ 603072; omega) (by show _ ≤ 7194730; omega) dL_law_979) (fun q z => Or.inr (by have z : q = a + 337 := z; have h9 := hC.2.2.2.2.1.1; have := hC.2.2.2.2.2.1; omega)) (rfl : _ = 982) (fun v_979 H979_14 hq_979 o_979 => ?_)
  rcases hq_979 with ⟨hk9, r9, H9, w9, hP9, hst9, ho9, hw9⟩ | ⟨E9, hX9, hk9, ho9⟩
  · have hk8 := hk9.symm
    subst hk8
    have hC := hC.out o_979 ⟨_, ho9⟩
    obtain ⟨hr9, -, hc9, hd9⟩ := hP9
    have hg9 : g_zc s x y = (0, r9) := by rw [hr9, ← (qa_zc_y hS hc9 hd9).2]; exact (qa_zc_y hS hc9 hd9).1
    refine V_istore Y.1 (ls' := [(6, _), (5, _), (4, _), (3, _), (2, _), (1, _), (0, _)]) dL_law_982 (rfl : _ = 984) (by decide) rfl ?_
    refine V_aload_n Y.1 4 dL_law_984 (rfl : _ = 985) rfl rfl ?_
    refine V_aload_n Y.1 6 dL_law_985 (rfl : _ = 986) rfl rfl ?_
    refine V_iload Y.1 1 dL_law_986 (rfl : _ = 988) rfl ?_
    refine V_iconst Y.1 (v := 1) dL_law_988 (rfl : _ = 989) (by decide) ?_
    refine V_iadd Y.1 dL_law_989 (rfl : _ = 990) ?_
    refine V_nm (v := nI (3 * j + 1)) (nI_add _ 1) ?_
    refine V_sld Y.1 (v := x) hsa (vp_in_nI (by omega) (by omega)) (by rw [nI_clamp (by omega)]; exact hx) dL_law_990 (rfl : _ = 991) ?_
    refine V_aload_n Y.1 6 dL_law_991 (rfl : _ = 992) rfl rfl ?_
    refine V_iload Y.1 1 dL_law_992 (rfl : _ = 994) rfl ?_
    refine V_iconst Y.1 (v := 2) dL_law_994 (rfl : _ = 995) (by decide) ?_
    refine V_iadd Y.1 dL_law_995 (rfl : _ = 996) ?_
    refine V_nm (v := nI (3 * j + 2)) (nI_add _ 2) ?_
    refine V_sld Y.1 (v := y) hsa (vp_in_nI (by omega) (by omega)) (by rw [nI_clamp (by omega)]; exact hy) dL_law_996 (rfl : _ = 997) ?_
    refine V_cI Y (rV Y (c_X6_zoneCountByComparing l D kA _ (a + 329) F s b v p uu tt cc x y hC.2.1) mi_X6_zoneCountByComparing vi_L_201 rfl hC.2.1.1 rfl rfl (Nat.le_of_ble_eq_true rfl) ⟨Nat.le_of_ble_eq_true rfl, Nat.le_of_ble_eq_true rfl⟩ (by show _ ≤ 603072; omega) (by show _ ≤ 7194730; omega) dL_law_997) (fun q z => Or.inr (by have z := z.1; have := hC.2.2.2.2.2.1; omega)) (rfl : _ = 1000) (fun v_997 H997_19 hq_997 o_997 => ?_)
    obtain ⟨hb2, hR2⟩ := hq_997
    rw [hg9] at hb2 hR2
    have hb3 := hb2.symm
    subst hb3
    have ho9 := ho9.off o_997 (fun e => by have := e.2; omega)
    have hC := hC.mod o_997 hR2
    refine V_istore Y.1 (ls' := [(7, _), (6, _), (5, _), (4, _), (3, _), (2, _), (1, _), (0, _)]) dL_law_1000 (rfl : _ = 1002) (by decide) rfl ?_
    refine V_aload_n Y.1 5 dL_law_1002 (rfl : _ = 1003) rfl rfl ?_
    refine V_cP Y (rV Y (c_X6_thrown l D kA _ (a + 329) _ _ _ _ _ _ _ _ hC.2.1) mi_X6_thrown vi_L_159 rfl hC.2.1.1 rfl rfl (Nat.le_of_ble_eq_true rfl) ⟨Nat.le_of_ble_eq_true rfl, Nat.le_of_ble_eq_true rfl⟩ (by show _ ≤ 603072; omega) (by show _ ≤ 7194730; omega) dL_law_1003) (rfl : _ = 1006) ?_
    refine V_iload Y.1 1 dL_law_1006 (rfl : _ = 1008) rfl ?_
    refine V_icmp_eq Y.1 (tgt := 1013) dL_law_1008 (by decide) (rfl : _ = 1011) (fun _ => ?_) (fun c_n => absurd pk_us c_n)
    refine V_iload Y.1 1 dL_law_1013 (rfl : _ = 1015) rfl ?_
    refine V_if_ne Y.1 (tgt := 1030) dL_law_1015 (by decide) (rfl : _ = 1018) (fun c_n => absurd rfl c_n) (fun _ => ?_)
    refine V_aload_n Y.1 4 dL_law_1018 (rfl : _ = 1019) rfl rfl ?_
    refine V_iconst Y.1 (v := 0) dL_law_1019 (rfl : _ = 1020) (by decide) ?_
    refine V_lald Y.1 (v := r9.toInt64) ho9 (show ¬ ((0 : Int32) < 0 ∨ 1 ≤ (0 : Int32).toNatClampNeg) by decide) hw9 dL_law_1020 (rfl : _ = 1021) ?_
    refine V_iload Y.1 0 dL_law_1021 (rfl : _ = 1023) rfl ?_
    refine V_i2l Y.1 dL_law_1023 (rfl : _ = 1024) rfl ?_
    refine V_lcmp Y.1 dL_law_1024 (rfl : _ = 1025) ?_
    refine V_if_eq Y.1 (tgt := 1030) dL_law_1025 (by decide) (rfl : _ = 1028) (fun _ => ?_) (fun c_n => absurd (lg_self _) c_n)
    refine V_goto Y.1 (tgt := 2781) dL_law_1030 (by decide) ?_
    exact V_forget (ls' := [(5, _), (4, _), (3, _), (2, _), (1, _), (0, _)]) [2, 3, 4, 5, 6, 7] rfl (V_widen (by omega) (by omega) (kk _ ⟨_, _, _, _, _, _, _, _, _, _, _, _, _, _, _, _, _, _, _, _, _, _, _, hC, (hG.f6 _).more (by omega)⟩))
  · have hC := hC.out o_979 ⟨_, ho9⟩
    obtain ⟨rfl, hx9⟩ := hX9
    have hk7 : v_979 = 1 := hk9
    have hk8 := hk7.symm
    subst hk8
    have hg9 : (g_zc s x y).1 = 1 := qa_zc_n hx9
    refine V_istore Y.1 (ls' := [(6, _), (5, _), (4, _), (3, _), (2, _), (1, _), (0, _)]) dL_law_982 (rfl : _ = 984) (by decide) rfl ?_
    refine V_aload_n Y.1 4 dL_law_984 (rfl : _ = 985) rfl rfl ?_
    refine V_aload_n Y.1 6 dL_law_985 (rfl : _ = 986) rfl rfl ?_
    refine V_iload Y.1 1 dL_law_986 (rfl : _ = 988) rfl ?_
    refine V_iconst Y.1 (v := 1) dL_law_988 (rfl : _ = 989) (by decide) ?_
    refine V_iadd Y.1 dL_law_989 (rfl : _ = 990) ?_
    refine V_nm (v := nI (3 * j + 1)) (nI_add _ 1) ?_
    refine V_sld Y.1 (v := x) hsa (vp_in_nI (by omega) (by omega)) (by rw [nI_clamp (by omega)]; exact hx) dL_law_990 (rfl : _ = 991) ?_
    refine V_aload_n Y.1 6 dL_law_991 (rfl : _ = 992) rfl rfl ?_
    refine V_iload Y.1 1 dL_law_992 (rfl : _ = 994) rfl ?_
    refine V_iconst Y.1 (v := 2) dL_law_994 (rfl : _ = 995) (by decide) ?_
    refine V_iadd Y.1 dL_law_995 (rfl : _ = 996) ?_
    refine V_nm (v := nI (3 * j + 2)) (nI_add _ 2) ?_
    refine V_sld Y.1 (v := y) hsa (vp_in_nI (by omega) (by omega)) (by rw [nI_clamp (by omega)]; exact hy) dL_law_996 (rfl : _ = 997) ?_
    refine V_cI Y (rV Y (c_X6_zoneCountByComparing l D kA _ (a + 329) F s b v p uu tt cc x y hC.2.1) mi_X6_zoneCountByComparing vi_L_201 rfl hC.2.1.1 rfl rfl (Nat.le_of_ble_eq_true rfl) ⟨Nat.le_of_ble_eq_true rfl, Nat.le_of_ble_eq_true rfl⟩ (by show _ ≤ 603072; omega) (by show _ ≤ 7194730; omega) dL_law_997) (fun q z => Or.inr (by have z := z.1; have := hC.2.2.2.2.2.1; omega)) (rfl : _ = 1000) (fun v_997 H997_18 hq_997 o_997 => ?_)
    obtain ⟨hb2, hR2⟩ := hq_997
    rw [hg9] at hR2
    have hC := hC.mod o_997 hR2
    refine V_istore Y.1 (ls' := [(7, _), (6, _), (5, _), (4, _), (3, _), (2, _), (1, _), (0, _)]) dL_law_1000 (rfl : _ = 1002) (by decide) rfl ?_
    refine V_aload_n Y.1 5 dL_law_1002 (rfl : _ = 1003) rfl rfl ?_
    refine V_cP Y (rV Y (c_X6_thrown l D kA _ (a + 329) _ _ _ _ _ _ _ _ hC.2.1) mi_X6_thrown vi_L_159 rfl hC.2.1.1 rfl rfl (Nat.le_of_ble_eq_true rfl) ⟨Nat.le_of_ble_eq_true rfl, Nat.le_of_ble_eq_true rfl⟩ (by show _ ≤ 603072; omega) (by show _ ≤ 7194730; omega) dL_law_1003) (rfl : _ = 1006) ?_
    refine V_iload Y.1 1 dL_law_1006 (rfl : _ = 1008) rfl ?_
    refine V_icmp_eq Y.1 (tgt := 1013) dL_law_1008 (by decide) (rfl : _ = 1011) (fun _ => ?_) (fun c_n => absurd pk_us c_n)
    refine V_iload Y.1 1 dL_law_1013 (rfl : _ = 1015) rfl ?_
    refine V_if_ne Y.1 (tgt := 1030) dL_law_1015 (by decide) (rfl : _ = 1018) (fun _ => ?_) (fun c_n => absurd c_n (by decide))
    refine V_goto Y.1 (tgt := 2781) dL_law_1030 (by decide) ?_
    exact V_forget (ls' := [(5, _), (4, _), (3, _), (2, _), (1, _), (0, _)]) [2, 3, 4, 5, 6, 7] rfl (V_widen (by omega) (by omega) (kk _ ⟨_, _, _, _, _, _, _, _, _, _, _, _, _, _, _, _, _, _, _, _, _, _, _, hC, (hG.f6 _).more (by omega)⟩))

set_option maxRecDepth 100000 in
set_option maxHeartbeats 4000000 in
theorem lc_13 (l : Launch) (D : va_G) (kA : Nat → ClassId) (Hs : Heap) (σ : SG) (hnt : l.stackTraces = false) {Pp : Program} {Ee : Env} {Ss : State} {Mm : MethodId} {Ar : Array Value} {Bl : List Frame} {Me : Method} {Cc : Code} {Q : State → Prop} (Z : Ys Pp Ss Mm Ar Me Cc cL_law 9 (some .boolean) "MetroFaresLaw" D kA (AA Hs nof) Hs σ) (sa N : Nat) (f : Nat → Int32) (hsa : va_X sa N f Ss Ss.heap ∧ sa < Ss.heap.size ∧ ¬ AA Hs nof sa) (hN : N ≤ 1536) (a j : Nat) (hj : 3 * j + 3 ≤ N) (H : Heap) (hI : Inv D kA Hs a H (61 * j)) (kk : ∀ H1, Inv D kA Hs a H1 (61 * (j + 1)) → V Pp l Ee (rmO 2048 94400 603072 7194730) Ss Mm Ar Bl Me Cc 9 (AA Hs nof) Q H1 (400 + 200 * (j + 1)) (6000 + 400 * (j + 1)) 2781 [(5, .int (nI (3 * j))), (4, .ref (a + 338)), (3, .ref (a + 337)), (2, .ref (a + 329)), (1, .ref a), (0, .ref sa)] []) : V Pp l Ee (rmO 2048 94400 603072 7194730) Ss Mm Ar Bl Me Cc 9 (AA Hs nof) Q H (400 + 200 * (j)) (6000 + 400 * (j)) 1033 [(5, .int (nI (3 * j))), (4, .ref (a + 338)), (3, .ref (a + 337)), (2, .ref (a + 329)), (1, .ref a), (0, .ref sa)] [] := by
  obtain ⟨W, π, ES, u, hs, ep, fc, no, go, vs, cs, ns, gs, F, s, b, v, p, uu, tt, cc, n, t, hC, hG⟩ := hI
  have Y := Z.1
  have hS := hG.1.1.1
  have hM9 := hG.1.1
  have hjq : j ≤ 512 := by omega
  have hu8 := hC.1.2.2.2.2.2.2.2.1
  obtain ⟨w1, ho1⟩ := hC.2.2.1
  obtain ⟨x, hx⟩ : ∃ x, f (3 * j + 1) = x := ⟨_, rfl⟩
  obtain ⟨y, hy⟩ : ∃ y, f (3 * j + 2) = y := ⟨_, rfl⟩
  refine V_aload_n Y.1 4 dL_law_1033 (rfl : _ = 1034) rfl rfl ?_
  refine V_aload_n Y.1 5 dL_law_1034 (rfl : _ = 1035) rfl rfl ?_
  refine V_iload Y.1 0 dL_law_1035 (rfl : _ = 1037) rfl ?_
  refine V_iconst Y.1 (v := 1) dL_law_1037 (rfl : _ = 1038) (by decide) ?_
  refine V_iadd Y.1 dL_law_1038 (rfl : _ = 1039) ?_
  refine V_nm (v := nI (3 * j + 1)) (nI_add _ 1) ?_
  refine V_sld Y.1 (v := x) hsa (vp_in_nI (by omega) (by omega)) (by rw [nI_clamp (by omega)]; exact hx) dL_law_1039 (rfl : _ = 1040) ?_
  refine V_aload_n Y.1 5 dL_law_1040 (rfl : _ = 1041) rfl rfl ?_
  refine V_iload Y.1 0 dL_law_1041 (rfl : _ = 1043) rfl ?_
  refine V_iconst Y.1 (v := 2) dL_law_1043 (rfl : _ = 1044) (by decide) ?_
  refine V_iadd Y.1 dL_law_1044 (rfl : _ = 1045) ?_
  refine V_nm (v := nI (3 * j + 2)) (nI_add _ 2) ?_
  refine V_sld Y.1 (v := y) hsa (vp_in_nI (by omega) (by omega)) (by rw [nI_clamp (by omega)]; exact hy) dL_law_1045 (rfl : _ = 1046) ?_
  refine V_aload_n Y.1 2 dL_law_1046 (rfl : _ = 1047) rfl rfl ?_
  refine V_cI Y (sW Z (c_L_fare l D kA Hs σ _ hC.2.2.2.2.1 a W π ES u hs ep fc no go vs cs ns gs x y (a + 337) w1 hC.1 hnt ho1 (by omega) (by have := hC.2.2.2.2.2.2.2; omega) (by have := hC.2.2.2.2.2.1; omega)) mh_L_fare si_L_202 rfl rfl (Nat.le_of_ble_eq_true rfl) ⟨Nat.le_of_ble_eq_true rfl, Nat.le_of_ble_eq_true rfl⟩ (by show _ ≤ 603072; omega) (by show _ ≤ 7194730; omega) dL_law_1047) (fun q z => Or.inr (by have z : q = a + 337 := z; have h9 := hC.2.2.2.2.1.1; have := hC.2.2.2.2.2.1; omega)) (rfl : _ = 1050) (fun v_1047 H1047_14 hq_1047 o_1047 => ?_)
  rcases hq_1047 with ⟨hk9, r9, H9, w9, hP9, hst9, ho9, hw9⟩ | ⟨E9, hX9, hk9, ho9⟩
  · have hk8 := hk9.symm
    subst hk8
    have hC := hC.out o_1047 ⟨_, ho9⟩
    obtain ⟨hr9, -, hc9, hd9⟩ := hP9
    have hg9 : g_fare s x y = (0, r9) := by rw [hr9]; exact qa_fare_y hS hc9 hd9
    refine V_istore Y.1 (ls' := [(6, _), (5, _), (4, _), (3, _), (2, _), (1, _), (0, _)]) dL_law_1050 (rfl : _ = 1052) (by decide) rfl ?_
    refine V_aload_n Y.1 4 dL_law_1052 (rfl : _ = 1053) rfl rfl ?_
    refine V_aload_n Y.1 6 dL_law_1053 (rfl : _ = 1054) rfl rfl ?_
    refine V_iload Y.1 1 dL_law_1054 (rfl : _ = 1056) rfl ?_
    refine V_iconst Y.1 (v := 1) dL_law_1056 (rfl : _ = 1057) (by decide) ?_
    refine V_iadd Y.1 dL_law_1057 (rfl : _ = 1058) ?_
    refine V_nm (v := nI (3 * j + 1)) (nI_add _ 1) ?_
    refine V_sld Y.1 (v := x) hsa (vp_in_nI (by omega) (by omega)) (by rw [nI_clamp (by omega)]; exact hx) dL_law_1058 (rfl : _ = 1059) ?_
    refine V_aload_n Y.1 6 dL_law_1059 (rfl : _ = 1060) rfl rfl ?_
    refine V_iload Y.1 1 dL_law_1060 (rfl : _ = 1062) rfl ?_
    refine V_iconst Y.1 (v := 2) dL_law_1062 (rfl : _ = 1063) (by decide) ?_
    refine V_iadd Y.1 dL_law_1063 (rfl : _ = 1064) ?_
    refine V_nm (v := nI (3 * j + 2)) (nI_add _ 2) ?_
    refine V_sld Y.1 (v := y) hsa (vp_in_nI (by omega) (by omega)) (by rw [nI_clamp (by omega)]; exact hy) dL_law_1064 (rfl : _ = 1065) ?_
    refine V_cI Y (rV Y (c_X6_fare l D kA _ (a + 329) F s b v p uu tt cc x y hC.2.1) mi_X6_fare vi_L_204 rfl hC.2.1.1 rfl rfl (Nat.le_of_ble_eq_true rfl) ⟨Nat.le_of_ble_eq_true rfl, Nat.le_of_ble_eq_true rfl⟩ (by show _ ≤ 603072; omega) (by show _ ≤ 7194730; omega) dL_law_1065) (fun q z => Or.inr (by have z := z.1; have := hC.2.2.2.2.2.1; omega)) (rfl : _ = 1068) (fun v_1065 H1065_19 hq_1065 o_1065 => ?_)
    obtain ⟨hb2, hR2⟩ := hq_1065
    rw [hg9] at hb2 hR2
    have hb3 := hb2.symm
    subst hb3
    have ho9 := ho9.off o_1065 (fun e => by have := e.2; omega)
    have hC := hC.mod o_1065 hR2
    refine V_istore Y.1 (ls' := [(7, _), (6, _), (5, _), (4, _), (3, _), (2, _), (1, _), (0, _)]) dL_law_1068 (rfl : _ = 1070) (by decide) rfl ?_
    refine V_aload_n Y.1 5 dL_law_1070 (rfl : _ = 1071) rfl rfl ?_
    refine V_cP Y (rV Y (c_X6_thrown l D kA _ (a + 329) _ _ _ _ _ _ _ _ hC.2.1) mi_X6_thrown vi_L_159 rfl hC.2.1.1 rfl rfl (Nat.le_of_ble_eq_true rfl) ⟨Nat.le_of_ble_eq_true rfl, Nat.le_of_ble_eq_true rfl⟩ (by show _ ≤ 603072; omega) (by show _ ≤ 7194730; omega) dL_law_1071) (rfl : _ = 1074) ?_
    refine V_iload Y.1 1 dL_law_1074 (rfl : _ = 1076) rfl ?_
    refine V_icmp_eq Y.1 (tgt := 1081) dL_law_1076 (by decide) (rfl : _ = 1079) (fun _ => ?_) (fun c_n => absurd pk_us c_n)
    refine V_iload Y.1 1 dL_law_1081 (rfl : _ = 1083) rfl ?_
    refine V_if_ne Y.1 (tgt := 1098) dL_law_1083 (by decide) (rfl : _ = 1086) (fun c_n => absurd rfl c_n) (fun _ => ?_)
    refine V_aload_n Y.1 4 dL_law_1086 (rfl : _ = 1087) rfl rfl ?_
    refine V_iconst Y.1 (v := 0) dL_law_1087 (rfl : _ = 1088) (by decide) ?_
    refine V_lald Y.1 (v := r9.toInt64) ho9 (show ¬ ((0 : Int32) < 0 ∨ 1 ≤ (0 : Int32).toNatClampNeg) by decide) hw9 dL_law_1088 (rfl : _ = 1089) ?_
    refine V_iload Y.1 0 dL_law_1089 (rfl : _ = 1091) rfl ?_
    refine V_i2l Y.1 dL_law_1091 (rfl : _ = 1092) rfl ?_
    refine V_lcmp Y.1 dL_law_1092 (rfl : _ = 1093) ?_
    refine V_if_eq Y.1 (tgt := 1098) dL_law_1093 (by decide) (rfl : _ = 1096) (fun _ => ?_) (fun c_n => absurd (lg_self _) c_n)
    refine V_goto Y.1 (tgt := 2781) dL_law_1098 (by decide) ?_
    exact V_forget (ls' := [(5, _), (4, _), (3, _), (2, _), (1, _), (0, _)]) [2, 3, 4, 5, 6, 7] rfl (V_widen (by omega) (by omega) (kk _ ⟨_, _, _, _, _, _, _, _, _, _, _, _, _, _, _, _, _, _, _, _, _, _, _, hC, (hG.f6 _).more (by omega)⟩))
  · have hC := hC.out o_1047 ⟨_, ho9⟩
    obtain ⟨rfl, hx9⟩ := hX9
    have hk7 : v_1047 = 1 := hk9
    have hk8 := hk7.symm
    subst hk8
    have hg9 : (g_fare s x y).1 = 1 := qa_fare_n hx9
    refine V_istore Y.1 (ls' := [(6, _), (5, _), (4, _), (3, _), (2, _), (1, _), (0, _)]) dL_law_1050 (rfl : _ = 1052) (by decide) rfl ?_
    refine V_aload_n Y.1 4 dL_law_1052 (rfl : _ = 1053) rfl rfl ?_
    refine V_aload_n Y.1 6 dL_law_1053 (rfl : _ = 1054) rfl rfl ?_
    refine V_iload Y.1 1 dL_law_1054 (rfl : _ = 1056) rfl ?_
    refine V_iconst Y.1 (v := 1) dL_law_1056 (rfl : _ = 1057) (by decide) ?_
    refine V_iadd Y.1 dL_law_1057 (rfl : _ = 1058) ?_
    refine V_nm (v := nI (3 * j + 1)) (nI_add _ 1) ?_
    refine V_sld Y.1 (v := x) hsa (vp_in_nI (by omega) (by omega)) (by rw [nI_clamp (by omega)]; exact hx) dL_law_1058 (rfl : _ = 1059) ?_
    refine V_aload_n Y.1 6 dL_law_1059 (rfl : _ = 1060) rfl rfl ?_
    refine V_iload Y.1 1 dL_law_1060 (rfl : _ = 1062) rfl ?_
    refine V_iconst Y.1 (v := 2) dL_law_1062 (rfl : _ = 1063) (by decide) ?_
    refine V_iadd Y.1 dL_law_1063 (rfl : _ = 1064) ?_
    refine V_nm (v := nI (3 * j + 2)) (nI_add _ 2) ?_
    refine V_sld Y.1 (v := y) hsa (vp_in_nI (by omega) (by omega)) (by rw [nI_clamp (by omega)]; exact hy) dL_law_1064 (rfl : _ = 1065) ?_
    refine V_cI Y (rV Y (c_X6_fare l D kA _ (a + 329) F s b v p uu tt cc x y hC.2.1) mi_X6_fare vi_L_204 rfl hC.2.1.1 rfl rfl (Nat.le_of_ble_eq_true rfl) ⟨Nat.le_of_ble_eq_true rfl, Nat.le_of_ble_eq_true rfl⟩ (by show _ ≤ 603072; omega) (by show _ ≤ 7194730; omega) dL_law_1065) (fun q z => Or.inr (by have z := z.1; have := hC.2.2.2.2.2.1; omega)) (rfl : _ = 1068) (fun v_1065 H1065_18 hq_1065 o_1065 => ?_)
    obtain ⟨hb2, hR2⟩ := hq_1065
    rw [hg9] at hR2
    have hC := hC.mod o_1065 hR2
    refine V_istore Y.1 (ls' := [(7, _), (6, _), (5, _), (4, _), (3, _), (2, _), (1, _), (0, _)]) dL_law_1068 (rfl : _ = 1070) (by decide) rfl ?_
    refine V_aload_n Y.1 5 dL_law_1070 (rfl : _ = 1071) rfl rfl ?_
    refine V_cP Y (rV Y (c_X6_thrown l D kA _ (a + 329) _ _ _ _ _ _ _ _ hC.2.1) mi_X6_thrown vi_L_159 rfl hC.2.1.1 rfl rfl (Nat.le_of_ble_eq_true rfl) ⟨Nat.le_of_ble_eq_true rfl, Nat.le_of_ble_eq_true rfl⟩ (by show _ ≤ 603072; omega) (by show _ ≤ 7194730; omega) dL_law_1071) (rfl : _ = 1074) ?_
    refine V_iload Y.1 1 dL_law_1074 (rfl : _ = 1076) rfl ?_
    refine V_icmp_eq Y.1 (tgt := 1081) dL_law_1076 (by decide) (rfl : _ = 1079) (fun _ => ?_) (fun c_n => absurd pk_us c_n)
    refine V_iload Y.1 1 dL_law_1081 (rfl : _ = 1083) rfl ?_
    refine V_if_ne Y.1 (tgt := 1098) dL_law_1083 (by decide) (rfl : _ = 1086) (fun _ => ?_) (fun c_n => absurd c_n (by decide))
    refine V_goto Y.1 (tgt := 2781) dL_law_1098 (by decide) ?_
    exact V_forget (ls' := [(5, _), (4, _), (3, _), (2, _), (1, _), (0, _)]) [2, 3, 4, 5, 6, 7] rfl (V_widen (by omega) (by omega) (kk _ ⟨_, _, _, _, _, _, _, _, _, _, _, _, _, _, _, _, _, _, _, _, _, _, _, hC, (hG.f6 _).more (by omega)⟩))

set_option maxRecDepth 100000 in
set_option maxHeartbeats 4000000 in
theorem lc_17 (l : Launch) (D : va_G) (kA : Nat → ClassId) (Hs : Heap) (σ : SG) (hnt : l.stackTraces = false) {Pp : Program} {Ee : Env} {Ss : State} {Mm : MethodId} {Ar : Array Value} {Bl : List Frame} {Me : Method} {Cc : Code} {Q : State → Prop} (Z : Ys Pp Ss Mm Ar Me Cc cL_law 9 (some .boolean) "MetroFaresLaw" D kA (AA Hs nof) Hs σ) (sa N : Nat) (f : Nat → Int32) (hsa : va_X sa N f Ss Ss.heap ∧ sa < Ss.heap.size ∧ ¬ AA Hs nof sa) (hN : N ≤ 1536) (a j : Nat) (hj : 3 * j + 3 ≤ N) (H : Heap) (hI : Inv D kA Hs a H (61 * j)) (kk : ∀ H1, Inv D kA Hs a H1 (61 * (j + 1)) → V Pp l Ee (rmO 2048 94400 603072 7194730) Ss Mm Ar Bl Me Cc 9 (AA Hs nof) Q H1 (400 + 200 * (j + 1)) (6000 + 400 * (j + 1)) 2781 [(5, .int (nI (3 * j))), (4, .ref (a + 338)), (3, .ref (a + 337)), (2, .ref (a + 329)), (1, .ref a), (0, .ref sa)] []) : V Pp l Ee (rmO 2048 94400 603072 7194730) Ss Mm Ar Bl Me Cc 9 (AA Hs nof) Q H (400 + 200 * (j)) (6000 + 400 * (j)) 1140 [(5, .int (nI (3 * j))), (4, .ref (a + 338)), (3, .ref (a + 337)), (2, .ref (a + 329)), (1, .ref a), (0, .ref sa)] [] := by
  obtain ⟨W, π, ES, u, hs, ep, fc, no, go, vs, cs, ns, gs, F, s, b, v, p, uu, tt, cc, n, t, hC, hG⟩ := hI
  have Y := Z.1
  have hS := hG.1.1.1
  have hM9 := hG.1.1
  have hjq : j ≤ 512 := by omega
  have hu8 := hC.1.2.2.2.2.2.2.2.1
  obtain ⟨w1, ho1⟩ := hC.2.2.1
  obtain ⟨x, hx⟩ : ∃ x, f (3 * j + 1) = x := ⟨_, rfl⟩
  obtain ⟨y, hy⟩ : ∃ y, f (3 * j + 2) = y := ⟨_, rfl⟩
  refine V_aload_n Y.1 4 dL_law_1140 (rfl : _ = 1141) rfl rfl ?_
  refine V_aload_n Y.1 5 dL_law_1141 (rfl : _ = 1142) rfl rfl ?_
  refine V_iload Y.1 0 dL_law_1142 (rfl : _ = 1144) rfl ?_
  refine V_iconst Y.1 (v := 1) dL_law_1144 (rfl : _ = 1145) (by decide) ?_
  refine V_iadd Y.1 dL_law_1145 (rfl : _ = 1146) ?_
  refine V_nm (v := nI (3 * j + 1)) (nI_add _ 1) ?_
  refine V_sld Y.1 (v := x) hsa (vp_in_nI (by omega) (by omega)) (by rw [nI_clamp (by omega)]; exact hx) dL_law_1146 (rfl : _ = 1147) ?_
  refine V_aload_n Y.1 2 dL_law_1147 (rfl : _ = 1148) rfl rfl ?_
  refine V_cI Y (sW Z (c_L_taps l D kA Hs σ _ hC.2.2.2.2.1 a W π ES u hs ep fc no go vs cs ns gs x (a + 337) w1 hC.1 hnt ho1 (by omega) (by have := hC.2.2.2.2.2.2.2; omega) (by have := hC.2.2.2.2.2.1; omega)) mh_L_taps si_L_217 rfl rfl (Nat.le_of_ble_eq_true rfl) ⟨Nat.le_of_ble_eq_true rfl, Nat.le_of_ble_eq_true rfl⟩ (by show _ ≤ 603072; omega) (by show _ ≤ 7194730; omega) dL_law_1148) (fun q z => Or.inr (by have z : q = a + 337 := z; have h9 := hC.2.2.2.2.1.1; have := hC.2.2.2.2.2.1; omega)) (rfl : _ = 1151) (fun v_1148 H1148_8 hq_1148 o_1148 => ?_)
  rcases hq_1148 with ⟨hk9, r9, H9, w9, hP9, hst9, ho9, hw9⟩ | ⟨E9, hX9, hk9, ho9⟩
  · have hk8 := hk9.symm
    subst hk8
    have hC := hC.out o_1148 ⟨_, ho9⟩
    obtain ⟨hr9, -, hc9⟩ := hP9
    have hg9 : g_taps s x = (0, r9) := by rw [hr9]; exact qa_taps_y hS hc9
    refine V_istore Y.1 (ls' := [(6, _), (5, _), (4, _), (3, _), (2, _), (1, _), (0, _)]) dL_law_1151 (rfl : _ = 1153) (by decide) rfl ?_
    refine V_aload_n Y.1 4 dL_law_1153 (rfl : _ = 1154) rfl rfl ?_
    refine V_aload_n Y.1 6 dL_law_1154 (rfl : _ = 1155) rfl rfl ?_
    refine V_iload Y.1 1 dL_law_1155 (rfl : _ = 1157) rfl ?_
    refine V_iconst Y.1 (v := 1) dL_law_1157 (rfl : _ = 1158) (by decide) ?_
    refine V_iadd Y.1 dL_law_1158 (rfl : _ = 1159) ?_
    refine V_nm (v := nI (3 * j + 1)) (nI_add _ 1) ?_
    refine V_sld Y.1 (v := x) hsa (vp_in_nI (by omega) (by omega)) (by rw [nI_clamp (by omega)]; exact hx) dL_law_1159 (rfl : _ = 1160) ?_
    refine V_cI Y (rV Y (c_X6_taps l D kA _ (a + 329) F s b v p uu tt cc x hC.2.1) mi_X6_taps vi_L_219 rfl hC.2.1.1 rfl rfl (Nat.le_of_ble_eq_true rfl) ⟨Nat.le_of_ble_eq_true rfl, Nat.le_of_ble_eq_true rfl⟩ (by show _ ≤ 603072; omega) (by show _ ≤ 7194730; omega) dL_law_1160) (fun q z => Or.inr (by have z := z.1; have := hC.2.2.2.2.2.1; omega)) (rfl : _ = 1163) (fun v_1160 H1160_13 hq_1160 o_1160 => ?_)
    obtain ⟨hb2, hR2⟩ := hq_1160
    rw [hg9] at hb2 hR2
    have hb3 := hb2.symm
    subst hb3
    have ho9 := ho9.off o_1160 (fun e => by have := e.2; omega)
    have hC := hC.mod o_1160 hR2
    refine V_istore Y.1 (ls' := [(7, _), (6, _), (5, _), (4, _), (3, _), (2, _), (1, _), (0, _)]) dL_law_1163 (rfl : _ = 1165) (by decide) rfl ?_
    refine V_aload_n Y.1 5 dL_law_1165 (rfl : _ = 1166) rfl rfl ?_
    refine V_cP Y (rV Y (c_X6_thrown l D kA _ (a + 329) _ _ _ _ _ _ _ _ hC.2.1) mi_X6_thrown vi_L_159 rfl hC.2.1.1 rfl rfl (Nat.le_of_ble_eq_true rfl) ⟨Nat.le_of_ble_eq_true rfl, Nat.le_of_ble_eq_true rfl⟩ (by show _ ≤ 603072; omega) (by show _ ≤ 7194730; omega) dL_law_1166) (rfl : _ = 1169) ?_
    refine V_iload Y.1 1 dL_law_1169 (rfl : _ = 1171) rfl ?_
    refine V_icmp_eq Y.1 (tgt := 1176) dL_law_1171 (by decide) (rfl : _ = 1174) (fun _ => ?_) (fun c_n => absurd pk_us c_n)
    refine V_iload Y.1 1 dL_law_1176 (rfl : _ = 1178) rfl ?_
    refine V_if_ne Y.1 (tgt := 1193) dL_law_1178 (by decide) (rfl : _ = 1181) (fun c_n => absurd rfl c_n) (fun _ => ?_)
    refine V_aload_n Y.1 4 dL_law_1181 (rfl : _ = 1182) rfl rfl ?_
    refine V_iconst Y.1 (v := 0) dL_law_1182 (rfl : _ = 1183) (by decide) ?_
    refine V_lald Y.1 (v := r9.toInt64) ho9 (show ¬ ((0 : Int32) < 0 ∨ 1 ≤ (0 : Int32).toNatClampNeg) by decide) hw9 dL_law_1183 (rfl : _ = 1184) ?_
    refine V_iload Y.1 0 dL_law_1184 (rfl : _ = 1186) rfl ?_
    refine V_i2l Y.1 dL_law_1186 (rfl : _ = 1187) rfl ?_
    refine V_lcmp Y.1 dL_law_1187 (rfl : _ = 1188) ?_
    refine V_if_eq Y.1 (tgt := 1193) dL_law_1188 (by decide) (rfl : _ = 1191) (fun _ => ?_) (fun c_n => absurd (lg_self _) c_n)
    refine V_goto Y.1 (tgt := 2781) dL_law_1193 (by decide) ?_
    exact V_forget (ls' := [(5, _), (4, _), (3, _), (2, _), (1, _), (0, _)]) [2, 3, 4, 5, 6, 7] rfl (V_widen (by omega) (by omega) (kk _ ⟨_, _, _, _, _, _, _, _, _, _, _, _, _, _, _, _, _, _, _, _, _, _, _, hC, (hG.f6 _).more (by omega)⟩))
  · have hC := hC.out o_1148 ⟨_, ho9⟩
    obtain ⟨rfl, hx9⟩ := hX9
    have hk7 : v_1148 = 1 := hk9
    have hk8 := hk7.symm
    subst hk8
    have hg9 : (g_taps s x).1 = 1 := qa_taps_n hx9
    refine V_istore Y.1 (ls' := [(6, _), (5, _), (4, _), (3, _), (2, _), (1, _), (0, _)]) dL_law_1151 (rfl : _ = 1153) (by decide) rfl ?_
    refine V_aload_n Y.1 4 dL_law_1153 (rfl : _ = 1154) rfl rfl ?_
    refine V_aload_n Y.1 6 dL_law_1154 (rfl : _ = 1155) rfl rfl ?_
    refine V_iload Y.1 1 dL_law_1155 (rfl : _ = 1157) rfl ?_
    refine V_iconst Y.1 (v := 1) dL_law_1157 (rfl : _ = 1158) (by decide) ?_
    refine V_iadd Y.1 dL_law_1158 (rfl : _ = 1159) ?_
    refine V_nm (v := nI (3 * j + 1)) (nI_add _ 1) ?_
    refine V_sld Y.1 (v := x) hsa (vp_in_nI (by omega) (by omega)) (by rw [nI_clamp (by omega)]; exact hx) dL_law_1159 (rfl : _ = 1160) ?_
    refine V_cI Y (rV Y (c_X6_taps l D kA _ (a + 329) F s b v p uu tt cc x hC.2.1) mi_X6_taps vi_L_219 rfl hC.2.1.1 rfl rfl (Nat.le_of_ble_eq_true rfl) ⟨Nat.le_of_ble_eq_true rfl, Nat.le_of_ble_eq_true rfl⟩ (by show _ ≤ 603072; omega) (by show _ ≤ 7194730; omega) dL_law_1160) (fun q z => Or.inr (by have z := z.1; have := hC.2.2.2.2.2.1; omega)) (rfl : _ = 1163) (fun v_1160 H1160_12 hq_1160 o_1160 => ?_)
    obtain ⟨hb2, hR2⟩ := hq_1160
    rw [hg9] at hR2
    have hC := hC.mod o_1160 hR2
    refine V_istore Y.1 (ls' := [(7, _), (6, _), (5, _), (4, _), (3, _), (2, _), (1, _), (0, _)]) dL_law_1163 (rfl : _ = 1165) (by decide) rfl ?_
    refine V_aload_n Y.1 5 dL_law_1165 (rfl : _ = 1166) rfl rfl ?_
    refine V_cP Y (rV Y (c_X6_thrown l D kA _ (a + 329) _ _ _ _ _ _ _ _ hC.2.1) mi_X6_thrown vi_L_159 rfl hC.2.1.1 rfl rfl (Nat.le_of_ble_eq_true rfl) ⟨Nat.le_of_ble_eq_true rfl, Nat.le_of_ble_eq_true rfl⟩ (by show _ ≤ 603072; omega) (by show _ ≤ 7194730; omega) dL_law_1166) (rfl : _ = 1169) ?_
    refine V_iload Y.1 1 dL_law_1169 (rfl : _ = 1171) rfl ?_
    refine V_icmp_eq Y.1 (tgt := 1176) dL_law_1171 (by decide) (rfl : _ = 1174) (fun _ => ?_) (fun c_n => absurd pk_us c_n)
    refine V_iload Y.1 1 dL_law_1176 (rfl : _ = 1178) rfl ?_
    refine V_if_ne Y.1 (tgt := 1193) dL_law_1178 (by decide) (rfl : _ = 1181) (fun _ => ?_) (fun c_n => absurd c_n (by decide))
    refine V_goto Y.1 (tgt := 2781) dL_law_1193 (by decide) ?_
    exact V_forget (ls' := [(5, _), (4, _), (3, _), (2, _), (1, _), (0, _)]) [2, 3, 4, 5, 6, 7] rfl (V_widen (by omega) (by omega) (kk _ ⟨_, _, _, _, _, _, _, _, _, _, _, _, _, _, _, _, _, _, _, _, _, _, _, hC, (hG.f6 _).more (by omega)⟩))

set_option maxRecDepth 100000 in
set_option maxHeartbeats 4000000 in
theorem lc_18 (l : Launch) (D : va_G) (kA : Nat → ClassId) (Hs : Heap) (σ : SG) (hnt : l.stackTraces = false) {Pp : Program} {Ee : Env} {Ss : State} {Mm : MethodId} {Ar : Array Value} {Bl : List Frame} {Me : Method} {Cc : Code} {Q : State → Prop} (Z : Ys Pp Ss Mm Ar Me Cc cL_law 9 (some .boolean) "MetroFaresLaw" D kA (AA Hs nof) Hs σ) (sa N : Nat) (f : Nat → Int32) (hsa : va_X sa N f Ss Ss.heap ∧ sa < Ss.heap.size ∧ ¬ AA Hs nof sa) (hN : N ≤ 1536) (a j : Nat) (hj : 3 * j + 3 ≤ N) (H : Heap) (hI : Inv D kA Hs a H (61 * j)) (kk : ∀ H1, Inv D kA Hs a H1 (61 * (j + 1)) → V Pp l Ee (rmO 2048 94400 603072 7194730) Ss Mm Ar Bl Me Cc 9 (AA Hs nof) Q H1 (400 + 200 * (j + 1)) (6000 + 400 * (j + 1)) 2781 [(5, .int (nI (3 * j))), (4, .ref (a + 338)), (3, .ref (a + 337)), (2, .ref (a + 329)), (1, .ref a), (0, .ref sa)] []) : V Pp l Ee (rmO 2048 94400 603072 7194730) Ss Mm Ar Bl Me Cc 9 (AA Hs nof) Q H (400 + 200 * (j)) (6000 + 400 * (j)) 1196 [(5, .int (nI (3 * j))), (4, .ref (a + 338)), (3, .ref (a + 337)), (2, .ref (a + 329)), (1, .ref a), (0, .ref sa)] [] := by
  obtain ⟨W, π, ES, u, hs, ep, fc, no, go, vs, cs, ns, gs, F, s, b, v, p, uu, tt, cc, n, t, hC, hG⟩ := hI
  have Y := Z.1
  have hS := hG.1.1.1
  have hM9 := hG.1.1
  have hjq : j ≤ 512 := by omega
  have hu8 := hC.1.2.2.2.2.2.2.2.1
  obtain ⟨w1, ho1⟩ := hC.2.2.1
  obtain ⟨x, hx⟩ : ∃ x, f (3 * j + 1) = x := ⟨_, rfl⟩
  obtain ⟨y, hy⟩ : ∃ y, f (3 * j + 2) = y := ⟨_, rfl⟩
  refine V_aload_n Y.1 4 dL_law_1196 (rfl : _ = 1197) rfl rfl ?_
  refine V_aload_n Y.1 5 dL_law_1197 (rfl : _ = 1198) rfl rfl ?_
  refine V_iload Y.1 0 dL_law_1198 (rfl : _ = 1200) rfl ?_
  refine V_iconst Y.1 (v := 1) dL_law_1200 (rfl : _ = 1201) (by decide) ?_
  refine V_iadd Y.1 dL_law_1201 (rfl : _ = 1202) ?_
  refine V_nm (v := nI (3 * j + 1)) (nI_add _ 1) ?_
  refine V_sld Y.1 (v := x) hsa (vp_in_nI (by omega) (by omega)) (by rw [nI_clamp (by omega)]; exact hx) dL_law_1202 (rfl : _ = 1203) ?_
  refine V_aload_n Y.1 2 dL_law_1203 (rfl : _ = 1204) rfl rfl ?_
  refine V_cI Y (sW Z (c_L_stationByTaps l D kA Hs σ _ hC.2.2.2.2.1 a W π ES u hs ep fc no go vs cs ns gs x (a + 337) w1 hC.1 hnt ho1 (by omega) (by have := hC.2.2.2.2.2.2.2; omega) (by have := hC.2.2.2.2.2.1; omega)) mh_L_stationByTaps si_L_220 rfl rfl (Nat.le_of_ble_eq_true rfl) ⟨Nat.le_of_ble_eq_true rfl, Nat.le_of_ble_eq_true rfl⟩ (by show _ ≤ 603072; omega) (by show _ ≤ 7194730; omega) dL_law_1204) (fun q z => Or.inr (by have z : q = a + 337 := z; have h9 := hC.2.2.2.2.1.1; have := hC.2.2.2.2.2.1; omega)) (rfl : _ = 1207) (fun v_1204 H1204_8 hq_1204 o_1204 => ?_)
  rcases hq_1204 with ⟨hk9, r9, H9, w9, hP9, hst9, ho9, hw9⟩ | ⟨E9, hX9, hk9, ho9⟩
  · have hk8 := hk9.symm
    subst hk8
    have hC := hC.out o_1204 ⟨_, ho9⟩
    obtain ⟨-, i9, hi9, hr9, hc9, -⟩ := hP9
    have hg9 : g_st s x = (0, r9) := by rw [hr9]; exact qa_st_y hS (by omega) hi9 hc9
    refine V_istore Y.1 (ls' := [(6, _), (5, _), (4, _), (3, _), (2, _), (1, _), (0, _)]) dL_law_1207 (rfl : _ = 1209) (by decide) rfl ?_
    refine V_aload_n Y.1 4 dL_law_1209 (rfl : _ = 1210) rfl rfl ?_
    refine V_aload_n Y.1 6 dL_law_1210 (rfl : _ = 1211) rfl rfl ?_
    refine V_iload Y.1 1 dL_law_1211 (rfl : _ = 1213) rfl ?_
    refine V_iconst Y.1 (v := 1) dL_law_1213 (rfl : _ = 1214) (by decide) ?_
    refine V_iadd Y.1 dL_law_1214 (rfl : _ = 1215) ?_
    refine V_nm (v := nI (3 * j + 1)) (nI_add _ 1) ?_
    refine V_sld Y.1 (v := x) hsa (vp_in_nI (by omega) (by omega)) (by rw [nI_clamp (by omega)]; exact hx) dL_law_1215 (rfl : _ = 1216) ?_
    refine V_cI Y (rV Y (c_X6_stationByTaps l D kA _ (a + 329) F s b v p uu tt cc x hC.2.1) mi_X6_stationByTaps vi_L_222 rfl hC.2.1.1 rfl rfl (Nat.le_of_ble_eq_true rfl) ⟨Nat.le_of_ble_eq_true rfl, Nat.le_of_ble_eq_true rfl⟩ (by show _ ≤ 603072; omega) (by show _ ≤ 7194730; omega) dL_law_1216) (fun q z => Or.inr (by have z := z.1; have := hC.2.2.2.2.2.1; omega)) (rfl : _ = 1219) (fun v_1216 H1216_13 hq_1216 o_1216 => ?_)
    obtain ⟨hb2, hR2⟩ := hq_1216
    rw [hg9] at hb2 hR2
    have hb3 := hb2.symm
    subst hb3
    have ho9 := ho9.off o_1216 (fun e => by have := e.2; omega)
    have hC := hC.mod o_1216 hR2
    refine V_istore Y.1 (ls' := [(7, _), (6, _), (5, _), (4, _), (3, _), (2, _), (1, _), (0, _)]) dL_law_1219 (rfl : _ = 1221) (by decide) rfl ?_
    refine V_aload_n Y.1 5 dL_law_1221 (rfl : _ = 1222) rfl rfl ?_
    refine V_cP Y (rV Y (c_X6_thrown l D kA _ (a + 329) _ _ _ _ _ _ _ _ hC.2.1) mi_X6_thrown vi_L_159 rfl hC.2.1.1 rfl rfl (Nat.le_of_ble_eq_true rfl) ⟨Nat.le_of_ble_eq_true rfl, Nat.le_of_ble_eq_true rfl⟩ (by show _ ≤ 603072; omega) (by show _ ≤ 7194730; omega) dL_law_1222) (rfl : _ = 1225) ?_
    refine V_iload Y.1 1 dL_law_1225 (rfl : _ = 1227) rfl ?_
    refine V_icmp_eq Y.1 (tgt := 1232) dL_law_1227 (by decide) (rfl : _ = 1230) (fun _ => ?_) (fun c_n => absurd pk_us c_n)
    refine V_iload Y.1 1 dL_law_1232 (rfl : _ = 1234) rfl ?_
    refine V_if_ne Y.1 (tgt := 1249) dL_law_1234 (by decide) (rfl : _ = 1237) (fun c_n => absurd rfl c_n) (fun _ => ?_)
    refine V_aload_n Y.1 4 dL_law_1237 (rfl : _ = 1238) rfl rfl ?_
    refine V_iconst Y.1 (v := 0) dL_law_1238 (rfl : _ = 1239) (by decide) ?_
    refine V_lald Y.1 (v := r9.toInt64) ho9 (show ¬ ((0 : Int32) < 0 ∨ 1 ≤ (0 : Int32).toNatClampNeg) by decide) hw9 dL_law_1239 (rfl : _ = 1240) ?_
    refine V_iload Y.1 0 dL_law_1240 (rfl : _ = 1242) rfl ?_
    refine V_i2l Y.1 dL_law_1242 (rfl : _ = 1243) rfl ?_
    refine V_lcmp Y.1 dL_law_1243 (rfl : _ = 1244) ?_
    refine V_if_eq Y.1 (tgt := 1249) dL_law_1244 (by decide) (rfl : _ = 1247) (fun _ => ?_) (fun c_n => absurd (lg_self _) c_n)
    refine V_goto Y.1 (tgt := 2781) dL_law_1249 (by decide) ?_
    exact V_forget (ls' := [(5, _), (4, _), (3, _), (2, _), (1, _), (0, _)]) [2, 3, 4, 5, 6, 7] rfl (V_widen (by omega) (by omega) (kk _ ⟨_, _, _, _, _, _, _, _, _, _, _, _, _, _, _, _, _, _, _, _, _, _, _, hC, (hG.f6 _).more (by omega)⟩))
  · have hC := hC.out o_1204 ⟨_, ho9⟩
    obtain ⟨rfl, hx9⟩ := hX9
    have hk7 : v_1204 = 1 := hk9
    have hk8 := hk7.symm
    subst hk8
    have hg9 : (g_st s x).1 = 1 := qa_st_n hx9
    refine V_istore Y.1 (ls' := [(6, _), (5, _), (4, _), (3, _), (2, _), (1, _), (0, _)]) dL_law_1207 (rfl : _ = 1209) (by decide) rfl ?_
    refine V_aload_n Y.1 4 dL_law_1209 (rfl : _ = 1210) rfl rfl ?_
    refine V_aload_n Y.1 6 dL_law_1210 (rfl : _ = 1211) rfl rfl ?_
    refine V_iload Y.1 1 dL_law_1211 (rfl : _ = 1213) rfl ?_
    refine V_iconst Y.1 (v := 1) dL_law_1213 (rfl : _ = 1214) (by decide) ?_
    refine V_iadd Y.1 dL_law_1214 (rfl : _ = 1215) ?_
    refine V_nm (v := nI (3 * j + 1)) (nI_add _ 1) ?_
    refine V_sld Y.1 (v := x) hsa (vp_in_nI (by omega) (by omega)) (by rw [nI_clamp (by omega)]; exact hx) dL_law_1215 (rfl : _ = 1216) ?_
    refine V_cI Y (rV Y (c_X6_stationByTaps l D kA _ (a + 329) F s b v p uu tt cc x hC.2.1) mi_X6_stationByTaps vi_L_222 rfl hC.2.1.1 rfl rfl (Nat.le_of_ble_eq_true rfl) ⟨Nat.le_of_ble_eq_true rfl, Nat.le_of_ble_eq_true rfl⟩ (by show _ ≤ 603072; omega) (by show _ ≤ 7194730; omega) dL_law_1216) (fun q z => Or.inr (by have z := z.1; have := hC.2.2.2.2.2.1; omega)) (rfl : _ = 1219) (fun v_1216 H1216_12 hq_1216 o_1216 => ?_)
    obtain ⟨hb2, hR2⟩ := hq_1216
    rw [hg9] at hR2
    have hC := hC.mod o_1216 hR2
    refine V_istore Y.1 (ls' := [(7, _), (6, _), (5, _), (4, _), (3, _), (2, _), (1, _), (0, _)]) dL_law_1219 (rfl : _ = 1221) (by decide) rfl ?_
    refine V_aload_n Y.1 5 dL_law_1221 (rfl : _ = 1222) rfl rfl ?_
    refine V_cP Y (rV Y (c_X6_thrown l D kA _ (a + 329) _ _ _ _ _ _ _ _ hC.2.1) mi_X6_thrown vi_L_159 rfl hC.2.1.1 rfl rfl (Nat.le_of_ble_eq_true rfl) ⟨Nat.le_of_ble_eq_true rfl, Nat.le_of_ble_eq_true rfl⟩ (by show _ ≤ 603072; omega) (by show _ ≤ 7194730; omega) dL_law_1222) (rfl : _ = 1225) ?_
    refine V_iload Y.1 1 dL_law_1225 (rfl : _ = 1227) rfl ?_
    refine V_icmp_eq Y.1 (tgt := 1232) dL_law_1227 (by decide) (rfl : _ = 1230) (fun _ => ?_) (fun c_n => absurd pk_us c_n)
    refine V_iload Y.1 1 dL_law_1232 (rfl : _ = 1234) rfl ?_
    refine V_if_ne Y.1 (tgt := 1249) dL_law_1234 (by decide) (rfl : _ = 1237) (fun _ => ?_) (fun c_n => absurd c_n (by decide))
    refine V_goto Y.1 (tgt := 2781) dL_law_1249 (by decide) ?_
    exact V_forget (ls' := [(5, _), (4, _), (3, _), (2, _), (1, _), (0, _)]) [2, 3, 4, 5, 6, 7] rfl (V_widen (by omega) (by omega) (kk _ ⟨_, _, _, _, _, _, _, _, _, _, _, _, _, _, _, _, _, _, _, _, _, _, _, hC, (hG.f6 _).more (by omega)⟩))

set_option maxRecDepth 100000 in
set_option maxHeartbeats 4000000 in
theorem lc_20 (l : Launch) (D : va_G) (kA : Nat → ClassId) (Hs : Heap) (σ : SG) (hnt : l.stackTraces = false) {Pp : Program} {Ee : Env} {Ss : State} {Mm : MethodId} {Ar : Array Value} {Bl : List Frame} {Me : Method} {Cc : Code} {Q : State → Prop} (Z : Ys Pp Ss Mm Ar Me Cc cL_law 9 (some .boolean) "MetroFaresLaw" D kA (AA Hs nof) Hs σ) (sa N : Nat) (f : Nat → Int32) (hsa : va_X sa N f Ss Ss.heap ∧ sa < Ss.heap.size ∧ ¬ AA Hs nof sa) (hN : N ≤ 1536) (a j : Nat) (hj : 3 * j + 3 ≤ N) (H : Heap) (hI : Inv D kA Hs a H (61 * j)) (kk : ∀ H1, Inv D kA Hs a H1 (61 * (j + 1)) → V Pp l Ee (rmO 2048 94400 603072 7194730) Ss Mm Ar Bl Me Cc 9 (AA Hs nof) Q H1 (400 + 200 * (j + 1)) (6000 + 400 * (j + 1)) 2781 [(5, .int (nI (3 * j))), (4, .ref (a + 338)), (3, .ref (a + 337)), (2, .ref (a + 329)), (1, .ref a), (0, .ref sa)] []) : V Pp l Ee (rmO 2048 94400 603072 7194730) Ss Mm Ar Bl Me Cc 9 (AA Hs nof) Q H (400 + 200 * (j)) (6000 + 400 * (j)) 1265 [(5, .int (nI (3 * j))), (4, .ref (a + 338)), (3, .ref (a + 337)), (2, .ref (a + 329)), (1, .ref a), (0, .ref sa)] [] := by
  obtain ⟨W, π, ES, u, hs, ep, fc, no, go, vs, cs, ns, gs, F, s, b, v, p, uu, tt, cc, n, t, hC, hG⟩ := hI
  have Y := Z.1
  have hS := hG.1.1.1
  have hM9 := hG.1.1
  have hjq : j ≤ 512 := by omega
  have hu8 := hC.1.2.2.2.2.2.2.2.1
  obtain ⟨w1, ho1⟩ := hC.2.2.1
  obtain ⟨x, hx⟩ : ∃ x, f (3 * j + 1) = x := ⟨_, rfl⟩
  obtain ⟨y, hy⟩ : ∃ y, f (3 * j + 2) = y := ⟨_, rfl⟩
  refine V_aload_n Y.1 4 dL_law_1265 (rfl : _ = 1266) rfl rfl ?_
  refine V_aload_n Y.1 5 dL_law_1266 (rfl : _ = 1267) rfl rfl ?_
  refine V_iload Y.1 0 dL_law_1267 (rfl : _ = 1269) rfl ?_
  refine V_iconst Y.1 (v := 1) dL_law_1269 (rfl : _ = 1270) (by decide) ?_
  refine V_iadd Y.1 dL_law_1270 (rfl : _ = 1271) ?_
  refine V_nm (v := nI (3 * j + 1)) (nI_add _ 1) ?_
  refine V_sld Y.1 (v := x) hsa (vp_in_nI (by omega) (by omega)) (by rw [nI_clamp (by omega)]; exact hx) dL_law_1271 (rfl : _ = 1272) ?_
  refine V_aload_n Y.1 2 dL_law_1272 (rfl : _ = 1273) rfl rfl ?_
  refine V_cI Y (sW Z (c_L_isReduced l D kA Hs σ _ hC.2.2.2.2.1 a W π ES u hs ep fc no go vs cs ns gs x (a + 337) w1 hC.1 hnt hM9.hok ho1 (by omega) (by have := hC.2.2.2.2.2.2.2; omega) (by have := hC.2.2.2.2.2.1; omega)) mh_L_isReduced si_L_227 rfl rfl (Nat.le_of_ble_eq_true rfl) ⟨Nat.le_of_ble_eq_true rfl, Nat.le_of_ble_eq_true rfl⟩ (by show _ ≤ 603072; omega) (by show _ ≤ 7194730; omega) dL_law_1273) (fun q z => Or.inr (by have z : q = a + 337 := z; have h9 := hC.2.2.2.2.1.1; have := hC.2.2.2.2.2.1; omega)) (rfl : _ = 1276) (fun v_1273 H1273_8 hq_1273 o_1273 => ?_)
  rcases hq_1273 with ⟨hk9, r9, H9, w9, hP9, hst9, ho9, hw9⟩ | ⟨E9, hX9, hk9, ho9⟩
  · have hk8 := hk9.symm
    subst hk8
    have hC := hC.out o_1273 ⟨_, ho9⟩
    obtain ⟨hr9, -, hc9⟩ := hP9
    have hg9 : g_card s x (fun i => if ro s i 0 = 1 then 1 else 0) = (0, r9) := by rw [hr9, ← qf_red hS hc9]; exact qa_card_y hS hc9
    refine V_istore Y.1 (ls' := [(6, _), (5, _), (4, _), (3, _), (2, _), (1, _), (0, _)]) dL_law_1276 (rfl : _ = 1278) (by decide) rfl ?_
    refine V_aload_n Y.1 4 dL_law_1278 (rfl : _ = 1279) rfl rfl ?_
    refine V_aload_n Y.1 6 dL_law_1279 (rfl : _ = 1280) rfl rfl ?_
    refine V_iload Y.1 1 dL_law_1280 (rfl : _ = 1282) rfl ?_
    refine V_iconst Y.1 (v := 1) dL_law_1282 (rfl : _ = 1283) (by decide) ?_
    refine V_iadd Y.1 dL_law_1283 (rfl : _ = 1284) ?_
    refine V_nm (v := nI (3 * j + 1)) (nI_add _ 1) ?_
    refine V_sld Y.1 (v := x) hsa (vp_in_nI (by omega) (by omega)) (by rw [nI_clamp (by omega)]; exact hx) dL_law_1284 (rfl : _ = 1285) ?_
    refine V_cI Y (rV Y (c_X6_isReduced l D kA _ (a + 329) F s b v p uu tt cc n t x hC.2.1 hS.1) mi_X6_isReduced vi_L_229 rfl hC.2.1.1 rfl rfl (Nat.le_of_ble_eq_true rfl) ⟨Nat.le_of_ble_eq_true rfl, Nat.le_of_ble_eq_true rfl⟩ (by show _ ≤ 603072; omega) (by show _ ≤ 7194730; omega) dL_law_1285) (fun q z => Or.inr (by have z := z.1; have := hC.2.2.2.2.2.1; omega)) (rfl : _ = 1288) (fun v_1285 H1285_13 hq_1285 o_1285 => ?_)
    obtain ⟨hb2, hR2⟩ := hq_1285
    rw [hg9] at hb2 hR2
    have hb3 := hb2.symm
    subst hb3
    have ho9 := ho9.off o_1285 (fun e => by have := e.2; omega)
    have hC := hC.mod o_1285 hR2
    refine V_istore Y.1 (ls' := [(7, _), (6, _), (5, _), (4, _), (3, _), (2, _), (1, _), (0, _)]) dL_law_1288 (rfl : _ = 1290) (by decide) rfl ?_
    refine V_aload_n Y.1 5 dL_law_1290 (rfl : _ = 1291) rfl rfl ?_
    refine V_cP Y (rV Y (c_X6_thrown l D kA _ (a + 329) _ _ _ _ _ _ _ _ hC.2.1) mi_X6_thrown vi_L_159 rfl hC.2.1.1 rfl rfl (Nat.le_of_ble_eq_true rfl) ⟨Nat.le_of_ble_eq_true rfl, Nat.le_of_ble_eq_true rfl⟩ (by show _ ≤ 603072; omega) (by show _ ≤ 7194730; omega) dL_law_1291) (rfl : _ = 1294) ?_
    refine V_iload Y.1 1 dL_law_1294 (rfl : _ = 1296) rfl ?_
    refine V_icmp_eq Y.1 (tgt := 1301) dL_law_1296 (by decide) (rfl : _ = 1299) (fun _ => ?_) (fun c_n => absurd pk_us c_n)
    refine V_iload Y.1 1 dL_law_1301 (rfl : _ = 1303) rfl ?_
    refine V_if_ne Y.1 (tgt := 1325) dL_law_1303 (by decide) (rfl : _ = 1306) (fun c_n => absurd rfl c_n) (fun _ => ?_)
    refine V_aload_n Y.1 4 dL_law_1306 (rfl : _ = 1307) rfl rfl ?_
    refine V_iconst Y.1 (v := 0) dL_law_1307 (rfl : _ = 1308) (by decide) ?_
    refine V_lald Y.1 (v := (if r9 = 0 then 0 else 1)) ho9 (show ¬ ((0 : Int32) < 0 ∨ 1 ≤ (0 : Int32).toNatClampNeg) by decide) hw9 dL_law_1308 (rfl : _ = 1309) ?_
    refine V_iload Y.1 0 dL_law_1309 (rfl : _ = 1311) rfl ?_
    refine V_if_eq Y.1 (tgt := 1318) dL_law_1311 (by decide) (rfl : _ = 1314) (fun c_1311 => ?_) (fun c_1311 => ?_)
    · refine V_lconst Y.1 (v := 0) dL_law_1318 (rfl : _ = 1319) (by decide) ?_
      refine V_lcmp Y.1 dL_law_1319 (rfl : _ = 1320) ?_
      refine V_if_eq Y.1 (tgt := 1325) dL_law_1320 (by decide) (rfl : _ = 1323) (fun _ => ?_) (fun c_n => absurd (by rw [if_pos c_1311]; exact lg_self _) c_n)
      refine V_goto Y.1 (tgt := 2781) dL_law_1325 (by decide) ?_
      exact V_forget (ls' := [(5, _), (4, _), (3, _), (2, _), (1, _), (0, _)]) [2, 3, 4, 5, 6, 7] rfl (V_widen (by omega) (by omega) (kk _ ⟨_, _, _, _, _, _, _, _, _, _, _, _, _, _, _, _, _, _, _, _, _, _, _, hC, (hG.f6 _).more (by omega)⟩))
    · refine V_lconst Y.1 (v := 1) dL_law_1314 (rfl : _ = 1315) (by decide) ?_
      refine V_goto Y.1 (tgt := 1319) dL_law_1315 (by decide) ?_
      refine V_lcmp Y.1 dL_law_1319 (rfl : _ = 1320) ?_
      refine V_if_eq Y.1 (tgt := 1325) dL_law_1320 (by decide) (rfl : _ = 1323) (fun _ => ?_) (fun c_n => absurd (by rw [if_neg c_1311]; exact lg_self _) c_n)
      refine V_goto Y.1 (tgt := 2781) dL_law_1325 (by decide) ?_
      exact V_forget (ls' := [(5, _), (4, _), (3, _), (2, _), (1, _), (0, _)]) [2, 3, 4, 5, 6, 7] rfl (V_widen (by omega) (by omega) (kk _ ⟨_, _, _, _, _, _, _, _, _, _, _, _, _, _, _, _, _, _, _, _, _, _, _, hC, (hG.f6 _).more (by omega)⟩))
  · have hC := hC.out o_1273 ⟨_, ho9⟩
    obtain ⟨rfl, hx9⟩ := hX9
    have hk7 : v_1273 = 1 := hk9
    have hk8 := hk7.symm
    subst hk8
    have hg9 : (g_card s x (fun i => if ro s i 0 = 1 then 1 else 0)).1 = 1 := qa_card_n hS hx9
    refine V_istore Y.1 (ls' := [(6, _), (5, _), (4, _), (3, _), (2, _), (1, _), (0, _)]) dL_law_1276 (rfl : _ = 1278) (by decide) rfl ?_
    refine V_aload_n Y.1 4 dL_law_1278 (rfl : _ = 1279) rfl rfl ?_
    refine V_aload_n Y.1 6 dL_law_1279 (rfl : _ = 1280) rfl rfl ?_
    refine V_iload Y.1 1 dL_law_1280 (rfl : _ = 1282) rfl ?_
    refine V_iconst Y.1 (v := 1) dL_law_1282 (rfl : _ = 1283) (by decide) ?_
    refine V_iadd Y.1 dL_law_1283 (rfl : _ = 1284) ?_
    refine V_nm (v := nI (3 * j + 1)) (nI_add _ 1) ?_
    refine V_sld Y.1 (v := x) hsa (vp_in_nI (by omega) (by omega)) (by rw [nI_clamp (by omega)]; exact hx) dL_law_1284 (rfl : _ = 1285) ?_
    refine V_cI Y (rV Y (c_X6_isReduced l D kA _ (a + 329) F s b v p uu tt cc n t x hC.2.1 hS.1) mi_X6_isReduced vi_L_229 rfl hC.2.1.1 rfl rfl (Nat.le_of_ble_eq_true rfl) ⟨Nat.le_of_ble_eq_true rfl, Nat.le_of_ble_eq_true rfl⟩ (by show _ ≤ 603072; omega) (by show _ ≤ 7194730; omega) dL_law_1285) (fun q z => Or.inr (by have z := z.1; have := hC.2.2.2.2.2.1; omega)) (rfl : _ = 1288) (fun v_1285 H1285_12 hq_1285 o_1285 => ?_)
    obtain ⟨hb2, hR2⟩ := hq_1285
    rw [hg9] at hR2
    have hC := hC.mod o_1285 hR2
    refine V_istore Y.1 (ls' := [(7, _), (6, _), (5, _), (4, _), (3, _), (2, _), (1, _), (0, _)]) dL_law_1288 (rfl : _ = 1290) (by decide) rfl ?_
    refine V_aload_n Y.1 5 dL_law_1290 (rfl : _ = 1291) rfl rfl ?_
    refine V_cP Y (rV Y (c_X6_thrown l D kA _ (a + 329) _ _ _ _ _ _ _ _ hC.2.1) mi_X6_thrown vi_L_159 rfl hC.2.1.1 rfl rfl (Nat.le_of_ble_eq_true rfl) ⟨Nat.le_of_ble_eq_true rfl, Nat.le_of_ble_eq_true rfl⟩ (by show _ ≤ 603072; omega) (by show _ ≤ 7194730; omega) dL_law_1291) (rfl : _ = 1294) ?_
    refine V_iload Y.1 1 dL_law_1294 (rfl : _ = 1296) rfl ?_
    refine V_icmp_eq Y.1 (tgt := 1301) dL_law_1296 (by decide) (rfl : _ = 1299) (fun _ => ?_) (fun c_n => absurd pk_us c_n)
    refine V_iload Y.1 1 dL_law_1301 (rfl : _ = 1303) rfl ?_
    refine V_if_ne Y.1 (tgt := 1325) dL_law_1303 (by decide) (rfl : _ = 1306) (fun _ => ?_) (fun c_n => absurd c_n (by decide))
    refine V_goto Y.1 (tgt := 2781) dL_law_1325 (by decide) ?_
    exact V_forget (ls' := [(5, _), (4, _), (3, _), (2, _), (1, _), (0, _)]) [2, 3, 4, 5, 6, 7] rfl (V_widen (by omega) (by omega) (kk _ ⟨_, _, _, _, _, _, _, _, _, _, _, _, _, _, _, _, _, _, _, _, _, _, _, hC, (hG.f6 _).more (by omega)⟩))

set_option maxRecDepth 100000 in
set_option maxHeartbeats 4000000 in
theorem lc_21 (l : Launch) (D : va_G) (kA : Nat → ClassId) (Hs : Heap) (σ : SG) (hnt : l.stackTraces = false) {Pp : Program} {Ee : Env} {Ss : State} {Mm : MethodId} {Ar : Array Value} {Bl : List Frame} {Me : Method} {Cc : Code} {Q : State → Prop} (Z : Ys Pp Ss Mm Ar Me Cc cL_law 9 (some .boolean) "MetroFaresLaw" D kA (AA Hs nof) Hs σ) (sa N : Nat) (f : Nat → Int32) (hsa : va_X sa N f Ss Ss.heap ∧ sa < Ss.heap.size ∧ ¬ AA Hs nof sa) (hN : N ≤ 1536) (a j : Nat) (hj : 3 * j + 3 ≤ N) (H : Heap) (hI : Inv D kA Hs a H (61 * j)) (kk : ∀ H1, Inv D kA Hs a H1 (61 * (j + 1)) → V Pp l Ee (rmO 2048 94400 603072 7194730) Ss Mm Ar Bl Me Cc 9 (AA Hs nof) Q H1 (400 + 200 * (j + 1)) (6000 + 400 * (j + 1)) 2781 [(5, .int (nI (3 * j))), (4, .ref (a + 338)), (3, .ref (a + 337)), (2, .ref (a + 329)), (1, .ref a), (0, .ref sa)] []) : V Pp l Ee (rmO 2048 94400 603072 7194730) Ss Mm Ar Bl Me Cc 9 (AA Hs nof) Q H (400 + 200 * (j)) (6000 + 400 * (j)) 1328 [(5, .int (nI (3 * j))), (4, .ref (a + 338)), (3, .ref (a + 337)), (2, .ref (a + 329)), (1, .ref a), (0, .ref sa)] [] := by
  obtain ⟨W, π, ES, u, hs, ep, fc, no, go, vs, cs, ns, gs, F, s, b, v, p, uu, tt, cc, n, t, hC, hG⟩ := hI
  have Y := Z.1
  have hS := hG.1.1.1
  have hM9 := hG.1.1
  have hjq : j ≤ 512 := by omega
  have hu8 := hC.1.2.2.2.2.2.2.2.1
  obtain ⟨w1, ho1⟩ := hC.2.2.1
  obtain ⟨x, hx⟩ : ∃ x, f (3 * j + 1) = x := ⟨_, rfl⟩
  obtain ⟨y, hy⟩ : ∃ y, f (3 * j + 2) = y := ⟨_, rfl⟩
  refine V_aload_n Y.1 4 dL_law_1328 (rfl : _ = 1329) rfl rfl ?_
  refine V_aload_n Y.1 5 dL_law_1329 (rfl : _ = 1330) rfl rfl ?_
  refine V_iload Y.1 0 dL_law_1330 (rfl : _ = 1332) rfl ?_
  refine V_iconst Y.1 (v := 1) dL_law_1332 (rfl : _ = 1333) (by decide) ?_
  refine V_iadd Y.1 dL_law_1333 (rfl : _ = 1334) ?_
  refine V_nm (v := nI (3 * j + 1)) (nI_add _ 1) ?_
  refine V_sld Y.1 (v := x) hsa (vp_in_nI (by omega) (by omega)) (by rw [nI_clamp (by omega)]; exact hx) dL_law_1334 (rfl : _ = 1335) ?_
  refine V_aload_n Y.1 2 dL_law_1335 (rfl : _ = 1336) rfl rfl ?_
  refine V_cI Y (sW Z (c_L_balance l D kA Hs σ _ hC.2.2.2.2.1 a W π ES u hs ep fc no go vs cs ns gs x (a + 337) w1 hC.1 hnt ho1 (by omega) (by have := hC.2.2.2.2.2.2.2; omega) (by have := hC.2.2.2.2.2.1; omega)) mh_L_balance si_L_230 rfl rfl (Nat.le_of_ble_eq_true rfl) ⟨Nat.le_of_ble_eq_true rfl, Nat.le_of_ble_eq_true rfl⟩ (by show _ ≤ 603072; omega) (by show _ ≤ 7194730; omega) dL_law_1336) (fun q z => Or.inr (by have z : q = a + 337 := z; have h9 := hC.2.2.2.2.1.1; have := hC.2.2.2.2.2.1; omega)) (rfl : _ = 1339) (fun v_1336 H1336_8 hq_1336 o_1336 => ?_)
  rcases hq_1336 with ⟨hk9, r9, H9, w9, hP9, hst9, ho9, hw9⟩ | ⟨E9, hX9, hk9, ho9⟩
  · have hk8 := hk9.symm
    subst hk8
    have hC := hC.out o_1336 ⟨_, ho9⟩
    obtain ⟨hr9, -, hc9⟩ := hP9
    have hg9 : g_card s x (fun i => ro s i 1) = (0, r9) := by rw [hr9, ← qf_bal hS hc9]; exact qa_card_y hS hc9
    refine V_istore Y.1 (ls' := [(6, _), (5, _), (4, _), (3, _), (2, _), (1, _), (0, _)]) dL_law_1339 (rfl : _ = 1341) (by decide) rfl ?_
    refine V_aload_n Y.1 4 dL_law_1341 (rfl : _ = 1342) rfl rfl ?_
    refine V_aload_n Y.1 6 dL_law_1342 (rfl : _ = 1343) rfl rfl ?_
    refine V_iload Y.1 1 dL_law_1343 (rfl : _ = 1345) rfl ?_
    refine V_iconst Y.1 (v := 1) dL_law_1345 (rfl : _ = 1346) (by decide) ?_
    refine V_iadd Y.1 dL_law_1346 (rfl : _ = 1347) ?_
    refine V_nm (v := nI (3 * j + 1)) (nI_add _ 1) ?_
    refine V_sld Y.1 (v := x) hsa (vp_in_nI (by omega) (by omega)) (by rw [nI_clamp (by omega)]; exact hx) dL_law_1347 (rfl : _ = 1348) ?_
    refine V_cI Y (rV Y (c_X6_balance l D kA _ (a + 329) F s b v p uu tt cc n t x hC.2.1 hS.1) mi_X6_balance vi_L_232 rfl hC.2.1.1 rfl rfl (Nat.le_of_ble_eq_true rfl) ⟨Nat.le_of_ble_eq_true rfl, Nat.le_of_ble_eq_true rfl⟩ (by show _ ≤ 603072; omega) (by show _ ≤ 7194730; omega) dL_law_1348) (fun q z => Or.inr (by have z := z.1; have := hC.2.2.2.2.2.1; omega)) (rfl : _ = 1351) (fun v_1348 H1348_13 hq_1348 o_1348 => ?_)
    obtain ⟨hb2, hR2⟩ := hq_1348
    rw [hg9] at hb2 hR2
    have hb3 := hb2.symm
    subst hb3
    have ho9 := ho9.off o_1348 (fun e => by have := e.2; omega)
    have hC := hC.mod o_1348 hR2
    refine V_istore Y.1 (ls' := [(7, _), (6, _), (5, _), (4, _), (3, _), (2, _), (1, _), (0, _)]) dL_law_1351 (rfl : _ = 1353) (by decide) rfl ?_
    refine V_aload_n Y.1 5 dL_law_1353 (rfl : _ = 1354) rfl rfl ?_
    refine V_cP Y (rV Y (c_X6_thrown l D kA _ (a + 329) _ _ _ _ _ _ _ _ hC.2.1) mi_X6_thrown vi_L_159 rfl hC.2.1.1 rfl rfl (Nat.le_of_ble_eq_true rfl) ⟨Nat.le_of_ble_eq_true rfl, Nat.le_of_ble_eq_true rfl⟩ (by show _ ≤ 603072; omega) (by show _ ≤ 7194730; omega) dL_law_1354) (rfl : _ = 1357) ?_
    refine V_iload Y.1 1 dL_law_1357 (rfl : _ = 1359) rfl ?_
    refine V_icmp_eq Y.1 (tgt := 1364) dL_law_1359 (by decide) (rfl : _ = 1362) (fun _ => ?_) (fun c_n => absurd pk_us c_n)
    refine V_iload Y.1 1 dL_law_1364 (rfl : _ = 1366) rfl ?_
    refine V_if_ne Y.1 (tgt := 1381) dL_law_1366 (by decide) (rfl : _ = 1369) (fun c_n => absurd rfl c_n) (fun _ => ?_)
    refine V_aload_n Y.1 4 dL_law_1369 (rfl : _ = 1370) rfl rfl ?_
    refine V_iconst Y.1 (v := 0) dL_law_1370 (rfl : _ = 1371) (by decide) ?_
    refine V_lald Y.1 (v := r9.toInt64) ho9 (show ¬ ((0 : Int32) < 0 ∨ 1 ≤ (0 : Int32).toNatClampNeg) by decide) hw9 dL_law_1371 (rfl : _ = 1372) ?_
    refine V_iload Y.1 0 dL_law_1372 (rfl : _ = 1374) rfl ?_
    refine V_i2l Y.1 dL_law_1374 (rfl : _ = 1375) rfl ?_
    refine V_lcmp Y.1 dL_law_1375 (rfl : _ = 1376) ?_
    refine V_if_eq Y.1 (tgt := 1381) dL_law_1376 (by decide) (rfl : _ = 1379) (fun _ => ?_) (fun c_n => absurd (lg_self _) c_n)
    refine V_goto Y.1 (tgt := 2781) dL_law_1381 (by decide) ?_
    exact V_forget (ls' := [(5, _), (4, _), (3, _), (2, _), (1, _), (0, _)]) [2, 3, 4, 5, 6, 7] rfl (V_widen (by omega) (by omega) (kk _ ⟨_, _, _, _, _, _, _, _, _, _, _, _, _, _, _, _, _, _, _, _, _, _, _, hC, (hG.f6 _).more (by omega)⟩))
  · have hC := hC.out o_1336 ⟨_, ho9⟩
    obtain ⟨rfl, hx9⟩ := hX9
    have hk7 : v_1336 = 1 := hk9
    have hk8 := hk7.symm
    subst hk8
    have hg9 : (g_card s x (fun i => ro s i 1)).1 = 1 := qa_card_n hS hx9
    refine V_istore Y.1 (ls' := [(6, _), (5, _), (4, _), (3, _), (2, _), (1, _), (0, _)]) dL_law_1339 (rfl : _ = 1341) (by decide) rfl ?_
    refine V_aload_n Y.1 4 dL_law_1341 (rfl : _ = 1342) rfl rfl ?_
    refine V_aload_n Y.1 6 dL_law_1342 (rfl : _ = 1343) rfl rfl ?_
    refine V_iload Y.1 1 dL_law_1343 (rfl : _ = 1345) rfl ?_
    refine V_iconst Y.1 (v := 1) dL_law_1345 (rfl : _ = 1346) (by decide) ?_
    refine V_iadd Y.1 dL_law_1346 (rfl : _ = 1347) ?_
    refine V_nm (v := nI (3 * j + 1)) (nI_add _ 1) ?_
    refine V_sld Y.1 (v := x) hsa (vp_in_nI (by omega) (by omega)) (by rw [nI_clamp (by omega)]; exact hx) dL_law_1347 (rfl : _ = 1348) ?_
    refine V_cI Y (rV Y (c_X6_balance l D kA _ (a + 329) F s b v p uu tt cc n t x hC.2.1 hS.1) mi_X6_balance vi_L_232 rfl hC.2.1.1 rfl rfl (Nat.le_of_ble_eq_true rfl) ⟨Nat.le_of_ble_eq_true rfl, Nat.le_of_ble_eq_true rfl⟩ (by show _ ≤ 603072; omega) (by show _ ≤ 7194730; omega) dL_law_1348) (fun q z => Or.inr (by have z := z.1; have := hC.2.2.2.2.2.1; omega)) (rfl : _ = 1351) (fun v_1348 H1348_12 hq_1348 o_1348 => ?_)
    obtain ⟨hb2, hR2⟩ := hq_1348
    rw [hg9] at hR2
    have hC := hC.mod o_1348 hR2
    refine V_istore Y.1 (ls' := [(7, _), (6, _), (5, _), (4, _), (3, _), (2, _), (1, _), (0, _)]) dL_law_1351 (rfl : _ = 1353) (by decide) rfl ?_
    refine V_aload_n Y.1 5 dL_law_1353 (rfl : _ = 1354) rfl rfl ?_
    refine V_cP Y (rV Y (c_X6_thrown l D kA _ (a + 329) _ _ _ _ _ _ _ _ hC.2.1) mi_X6_thrown vi_L_159 rfl hC.2.1.1 rfl rfl (Nat.le_of_ble_eq_true rfl) ⟨Nat.le_of_ble_eq_true rfl, Nat.le_of_ble_eq_true rfl⟩ (by show _ ≤ 603072; omega) (by show _ ≤ 7194730; omega) dL_law_1354) (rfl : _ = 1357) ?_
    refine V_iload Y.1 1 dL_law_1357 (rfl : _ = 1359) rfl ?_
    refine V_icmp_eq Y.1 (tgt := 1364) dL_law_1359 (by decide) (rfl : _ = 1362) (fun _ => ?_) (fun c_n => absurd pk_us c_n)
    refine V_iload Y.1 1 dL_law_1364 (rfl : _ = 1366) rfl ?_
    refine V_if_ne Y.1 (tgt := 1381) dL_law_1366 (by decide) (rfl : _ = 1369) (fun _ => ?_) (fun c_n => absurd c_n (by decide))
    refine V_goto Y.1 (tgt := 2781) dL_law_1381 (by decide) ?_
    exact V_forget (ls' := [(5, _), (4, _), (3, _), (2, _), (1, _), (0, _)]) [2, 3, 4, 5, 6, 7] rfl (V_widen (by omega) (by omega) (kk _ ⟨_, _, _, _, _, _, _, _, _, _, _, _, _, _, _, _, _, _, _, _, _, _, _, hC, (hG.f6 _).more (by omega)⟩))

set_option maxRecDepth 100000 in
set_option maxHeartbeats 4000000 in
theorem lc_22 (l : Launch) (D : va_G) (kA : Nat → ClassId) (Hs : Heap) (σ : SG) (hnt : l.stackTraces = false) {Pp : Program} {Ee : Env} {Ss : State} {Mm : MethodId} {Ar : Array Value} {Bl : List Frame} {Me : Method} {Cc : Code} {Q : State → Prop} (Z : Ys Pp Ss Mm Ar Me Cc cL_law 9 (some .boolean) "MetroFaresLaw" D kA (AA Hs nof) Hs σ) (sa N : Nat) (f : Nat → Int32) (hsa : va_X sa N f Ss Ss.heap ∧ sa < Ss.heap.size ∧ ¬ AA Hs nof sa) (hN : N ≤ 1536) (a j : Nat) (hj : 3 * j + 3 ≤ N) (H : Heap) (hI : Inv D kA Hs a H (61 * j)) (kk : ∀ H1, Inv D kA Hs a H1 (61 * (j + 1)) → V Pp l Ee (rmO 2048 94400 603072 7194730) Ss Mm Ar Bl Me Cc 9 (AA Hs nof) Q H1 (400 + 200 * (j + 1)) (6000 + 400 * (j + 1)) 2781 [(5, .int (nI (3 * j))), (4, .ref (a + 338)), (3, .ref (a + 337)), (2, .ref (a + 329)), (1, .ref a), (0, .ref sa)] []) : V Pp l Ee (rmO 2048 94400 603072 7194730) Ss Mm Ar Bl Me Cc 9 (AA Hs nof) Q H (400 + 200 * (j)) (6000 + 400 * (j)) 1384 [(5, .int (nI (3 * j))), (4, .ref (a + 338)), (3, .ref (a + 337)), (2, .ref (a + 329)), (1, .ref a), (0, .ref sa)] [] := by
  obtain ⟨W, π, ES, u, hs, ep, fc, no, go, vs, cs, ns, gs, F, s, b, v, p, uu, tt, cc, n, t, hC, hG⟩ := hI
  have Y := Z.1
  have hS := hG.1.1.1
  have hM9 := hG.1.1
  have hjq : j ≤ 512 := by omega
  have hu8 := hC.1.2.2.2.2.2.2.2.1
  obtain ⟨w1, ho1⟩ := hC.2.2.1
  obtain ⟨x, hx⟩ : ∃ x, f (3 * j + 1) = x := ⟨_, rfl⟩
  obtain ⟨y, hy⟩ : ∃ y, f (3 * j + 2) = y := ⟨_, rfl⟩
  refine V_aload_n Y.1 4 dL_law_1384 (rfl : _ = 1385) rfl rfl ?_
  refine V_aload_n Y.1 5 dL_law_1385 (rfl : _ = 1386) rfl rfl ?_
  refine V_iload Y.1 0 dL_law_1386 (rfl : _ = 1388) rfl ?_
  refine V_iconst Y.1 (v := 1) dL_law_1388 (rfl : _ = 1389) (by decide) ?_
  refine V_iadd Y.1 dL_law_1389 (rfl : _ = 1390) ?_
  refine V_nm (v := nI (3 * j + 1)) (nI_add _ 1) ?_
  refine V_sld Y.1 (v := x) hsa (vp_in_nI (by omega) (by omega)) (by rw [nI_clamp (by omega)]; exact hx) dL_law_1390 (rfl : _ = 1391) ?_
  refine V_aload_n Y.1 2 dL_law_1391 (rfl : _ = 1392) rfl rfl ?_
  refine V_cI Y (sW Z (c_L_isOnTrip l D kA Hs σ _ hC.2.2.2.2.1 a W π ES u hs ep fc no go vs cs ns gs x (a + 337) w1 hC.1 hnt hM9.hok ho1 (by omega) (by have := hC.2.2.2.2.2.2.2; omega) (by have := hC.2.2.2.2.2.1; omega)) mh_L_isOnTrip si_L_233 rfl rfl (Nat.le_of_ble_eq_true rfl) ⟨Nat.le_of_ble_eq_true rfl, Nat.le_of_ble_eq_true rfl⟩ (by show _ ≤ 603072; omega) (by show _ ≤ 7194730; omega) dL_law_1392) (fun q z => Or.inr (by have z : q = a + 337 := z; have h9 := hC.2.2.2.2.1.1; have := hC.2.2.2.2.2.1; omega)) (rfl : _ = 1395) (fun v_1392 H1392_8 hq_1392 o_1392 => ?_)
  rcases hq_1392 with ⟨hk9, r9, H9, w9, hP9, hst9, ho9, hw9⟩ | ⟨E9, hX9, hk9, ho9⟩
  · have hk8 := hk9.symm
    subst hk8
    have hC := hC.out o_1392 ⟨_, ho9⟩
    obtain ⟨hr9, -, hc9⟩ := hP9
    have hg9 : g_card s x (fun i => if ro s i 2 < 0 then 0 else 1) = (0, r9) := by rw [hr9, ← qf_on hS hc9]; exact qa_card_y hS hc9
    refine V_istore Y.1 (ls' := [(6, _), (5, _), (4, _), (3, _), (2, _), (1, _), (0, _)]) dL_law_1395 (rfl : _ = 1397) (by decide) rfl ?_
    refine V_aload_n Y.1 4 dL_law_1397 (rfl : _ = 1398) rfl rfl ?_
    refine V_aload_n Y.1 6 dL_law_1398 (rfl : _ = 1399) rfl rfl ?_
    refine V_iload Y.1 1 dL_law_1399 (rfl : _ = 1401) rfl ?_
    refine V_iconst Y.1 (v := 1) dL_law_1401 (rfl : _ = 1402) (by decide) ?_
    refine V_iadd Y.1 dL_law_1402 (rfl : _ = 1403) ?_
    refine V_nm (v := nI (3 * j + 1)) (nI_add _ 1) ?_
    refine V_sld Y.1 (v := x) hsa (vp_in_nI (by omega) (by omega)) (by rw [nI_clamp (by omega)]; exact hx) dL_law_1403 (rfl : _ = 1404) ?_
    refine V_cI Y (rV Y (c_X6_isOnTrip l D kA _ (a + 329) F s b v p uu tt cc n t x hC.2.1 hS.1) mi_X6_isOnTrip vi_L_235 rfl hC.2.1.1 rfl rfl (Nat.le_of_ble_eq_true rfl) ⟨Nat.le_of_ble_eq_true rfl, Nat.le_of_ble_eq_true rfl⟩ (by show _ ≤ 603072; omega) (by show _ ≤ 7194730; omega) dL_law_1404) (fun q z => Or.inr (by have z := z.1; have := hC.2.2.2.2.2.1; omega)) (rfl : _ = 1407) (fun v_1404 H1404_13 hq_1404 o_1404 => ?_)
    obtain ⟨hb2, hR2⟩ := hq_1404
    rw [hg9] at hb2 hR2
    have hb3 := hb2.symm
    subst hb3
    have ho9 := ho9.off o_1404 (fun e => by have := e.2; omega)
    have hC := hC.mod o_1404 hR2
    refine V_istore Y.1 (ls' := [(7, _), (6, _), (5, _), (4, _), (3, _), (2, _), (1, _), (0, _)]) dL_law_1407 (rfl : _ = 1409) (by decide) rfl ?_
    refine V_aload_n Y.1 5 dL_law_1409 (rfl : _ = 1410) rfl rfl ?_
    refine V_cP Y (rV Y (c_X6_thrown l D kA _ (a + 329) _ _ _ _ _ _ _ _ hC.2.1) mi_X6_thrown vi_L_159 rfl hC.2.1.1 rfl rfl (Nat.le_of_ble_eq_true rfl) ⟨Nat.le_of_ble_eq_true rfl, Nat.le_of_ble_eq_true rfl⟩ (by show _ ≤ 603072; omega) (by show _ ≤ 7194730; omega) dL_law_1410) (rfl : _ = 1413) ?_
    refine V_iload Y.1 1 dL_law_1413 (rfl : _ = 1415) rfl ?_
    refine V_icmp_eq Y.1 (tgt := 1420) dL_law_1415 (by decide) (rfl : _ = 1418) (fun _ => ?_) (fun c_n => absurd pk_us c_n)
    refine V_iload Y.1 1 dL_law_1420 (rfl : _ = 1422) rfl ?_
    refine V_if_ne Y.1 (tgt := 1444) dL_law_1422 (by decide) (rfl : _ = 1425) (fun c_n => absurd rfl c_n) (fun _ => ?_)
    refine V_aload_n Y.1 4 dL_law_1425 (rfl : _ = 1426) rfl rfl ?_
    refine V_iconst Y.1 (v := 0) dL_law_1426 (rfl : _ = 1427) (by decide) ?_
    refine V_lald Y.1 (v := (if r9 = 0 then 0 else 1)) ho9 (show ¬ ((0 : Int32) < 0 ∨ 1 ≤ (0 : Int32).toNatClampNeg) by decide) hw9 dL_law_1427 (rfl : _ = 1428) ?_
    refine V_iload Y.1 0 dL_law_1428 (rfl : _ = 1430) rfl ?_
    refine V_if_eq Y.1 (tgt := 1437) dL_law_1430 (by decide) (rfl : _ = 1433) (fun c_1430 => ?_) (fun c_1430 => ?_)
    · refine V_lconst Y.1 (v := 0) dL_law_1437 (rfl : _ = 1438) (by decide) ?_
      refine V_lcmp Y.1 dL_law_1438 (rfl : _ = 1439) ?_
      refine V_if_eq Y.1 (tgt := 1444) dL_law_1439 (by decide) (rfl : _ = 1442) (fun _ => ?_) (fun c_n => absurd (by rw [if_pos c_1430]; exact lg_self _) c_n)
      refine V_goto Y.1 (tgt := 2781) dL_law_1444 (by decide) ?_
      exact V_forget (ls' := [(5, _), (4, _), (3, _), (2, _), (1, _), (0, _)]) [2, 3, 4, 5, 6, 7] rfl (V_widen (by omega) (by omega) (kk _ ⟨_, _, _, _, _, _, _, _, _, _, _, _, _, _, _, _, _, _, _, _, _, _, _, hC, (hG.f6 _).more (by omega)⟩))
    · refine V_lconst Y.1 (v := 1) dL_law_1433 (rfl : _ = 1434) (by decide) ?_
      refine V_goto Y.1 (tgt := 1438) dL_law_1434 (by decide) ?_
      refine V_lcmp Y.1 dL_law_1438 (rfl : _ = 1439) ?_
      refine V_if_eq Y.1 (tgt := 1444) dL_law_1439 (by decide) (rfl : _ = 1442) (fun _ => ?_) (fun c_n => absurd (by rw [if_neg c_1430]; exact lg_self _) c_n)
      refine V_goto Y.1 (tgt := 2781) dL_law_1444 (by decide) ?_
      exact V_forget (ls' := [(5, _), (4, _), (3, _), (2, _), (1, _), (0, _)]) [2, 3, 4, 5, 6, 7] rfl (V_widen (by omega) (by omega) (kk _ ⟨_, _, _, _, _, _, _, _, _, _, _, _, _, _, _, _, _, _, _, _, _, _, _, hC, (hG.f6 _).more (by omega)⟩))
  · have hC := hC.out o_1392 ⟨_, ho9⟩
    obtain ⟨rfl, hx9⟩ := hX9
    have hk7 : v_1392 = 1 := hk9
    have hk8 := hk7.symm
    subst hk8
    have hg9 : (g_card s x (fun i => if ro s i 2 < 0 then 0 else 1)).1 = 1 := qa_card_n hS hx9
    refine V_istore Y.1 (ls' := [(6, _), (5, _), (4, _), (3, _), (2, _), (1, _), (0, _)]) dL_law_1395 (rfl : _ = 1397) (by decide) rfl ?_
    refine V_aload_n Y.1 4 dL_law_1397 (rfl : _ = 1398) rfl rfl ?_
    refine V_aload_n Y.1 6 dL_law_1398 (rfl : _ = 1399) rfl rfl ?_
    refine V_iload Y.1 1 dL_law_1399 (rfl : _ = 1401) rfl ?_
    refine V_iconst Y.1 (v := 1) dL_law_1401 (rfl : _ = 1402) (by decide) ?_
    refine V_iadd Y.1 dL_law_1402 (rfl : _ = 1403) ?_
    refine V_nm (v := nI (3 * j + 1)) (nI_add _ 1) ?_
    refine V_sld Y.1 (v := x) hsa (vp_in_nI (by omega) (by omega)) (by rw [nI_clamp (by omega)]; exact hx) dL_law_1403 (rfl : _ = 1404) ?_
    refine V_cI Y (rV Y (c_X6_isOnTrip l D kA _ (a + 329) F s b v p uu tt cc n t x hC.2.1 hS.1) mi_X6_isOnTrip vi_L_235 rfl hC.2.1.1 rfl rfl (Nat.le_of_ble_eq_true rfl) ⟨Nat.le_of_ble_eq_true rfl, Nat.le_of_ble_eq_true rfl⟩ (by show _ ≤ 603072; omega) (by show _ ≤ 7194730; omega) dL_law_1404) (fun q z => Or.inr (by have z := z.1; have := hC.2.2.2.2.2.1; omega)) (rfl : _ = 1407) (fun v_1404 H1404_12 hq_1404 o_1404 => ?_)
    obtain ⟨hb2, hR2⟩ := hq_1404
    rw [hg9] at hR2
    have hC := hC.mod o_1404 hR2
    refine V_istore Y.1 (ls' := [(7, _), (6, _), (5, _), (4, _), (3, _), (2, _), (1, _), (0, _)]) dL_law_1407 (rfl : _ = 1409) (by decide) rfl ?_
    refine V_aload_n Y.1 5 dL_law_1409 (rfl : _ = 1410) rfl rfl ?_
    refine V_cP Y (rV Y (c_X6_thrown l D kA _ (a + 329) _ _ _ _ _ _ _ _ hC.2.1) mi_X6_thrown vi_L_159 rfl hC.2.1.1 rfl rfl (Nat.le_of_ble_eq_true rfl) ⟨Nat.le_of_ble_eq_true rfl, Nat.le_of_ble_eq_true rfl⟩ (by show _ ≤ 603072; omega) (by show _ ≤ 7194730; omega) dL_law_1410) (rfl : _ = 1413) ?_
    refine V_iload Y.1 1 dL_law_1413 (rfl : _ = 1415) rfl ?_
    refine V_icmp_eq Y.1 (tgt := 1420) dL_law_1415 (by decide) (rfl : _ = 1418) (fun _ => ?_) (fun c_n => absurd pk_us c_n)
    refine V_iload Y.1 1 dL_law_1420 (rfl : _ = 1422) rfl ?_
    refine V_if_ne Y.1 (tgt := 1444) dL_law_1422 (by decide) (rfl : _ = 1425) (fun _ => ?_) (fun c_n => absurd c_n (by decide))
    refine V_goto Y.1 (tgt := 2781) dL_law_1444 (by decide) ?_
    exact V_forget (ls' := [(5, _), (4, _), (3, _), (2, _), (1, _), (0, _)]) [2, 3, 4, 5, 6, 7] rfl (V_widen (by omega) (by omega) (kk _ ⟨_, _, _, _, _, _, _, _, _, _, _, _, _, _, _, _, _, _, _, _, _, _, _, hC, (hG.f6 _).more (by omega)⟩))

set_option maxRecDepth 100000 in
set_option maxHeartbeats 4000000 in
theorem lc_30 (l : Launch) (D : va_G) (kA : Nat → ClassId) (Hs : Heap) (σ : SG) (hnt : l.stackTraces = false) {Pp : Program} {Ee : Env} {Ss : State} {Mm : MethodId} {Ar : Array Value} {Bl : List Frame} {Me : Method} {Cc : Code} {Q : State → Prop} (Z : Ys Pp Ss Mm Ar Me Cc cL_law 9 (some .boolean) "MetroFaresLaw" D kA (AA Hs nof) Hs σ) (sa N : Nat) (f : Nat → Int32) (hsa : va_X sa N f Ss Ss.heap ∧ sa < Ss.heap.size ∧ ¬ AA Hs nof sa) (hN : N ≤ 1536) (a j : Nat) (hj : 3 * j + 3 ≤ N) (H : Heap) (hI : Inv D kA Hs a H (61 * j)) (kk : ∀ H1, Inv D kA Hs a H1 (61 * (j + 1)) → V Pp l Ee (rmO 2048 94400 603072 7194730) Ss Mm Ar Bl Me Cc 9 (AA Hs nof) Q H1 (400 + 200 * (j + 1)) (6000 + 400 * (j + 1)) 2781 [(5, .int (nI (3 * j))), (4, .ref (a + 338)), (3, .ref (a + 337)), (2, .ref (a + 329)), (1, .ref a), (0, .ref sa)] []) : V Pp l Ee (rmO 2048 94400 603072 7194730) Ss Mm Ar Bl Me Cc 9 (AA Hs nof) Q H (400 + 200 * (j)) (6000 + 400 * (j)) 1894 [(5, .int (nI (3 * j))), (4, .ref (a + 338)), (3, .ref (a + 337)), (2, .ref (a + 329)), (1, .ref a), (0, .ref sa)] [] := by
  obtain ⟨W, π, ES, u, hs, ep, fc, no, go, vs, cs, ns, gs, F, s, b, v, p, uu, tt, cc, n, t, hC, hG⟩ := hI
  have Y := Z.1
  have hS := hG.1.1.1
  have hM9 := hG.1.1
  have hjq : j ≤ 512 := by omega
  have hu8 := hC.1.2.2.2.2.2.2.2.1
  obtain ⟨w1, ho1⟩ := hC.2.2.1
  obtain ⟨x, hx⟩ : ∃ x, f (3 * j + 1) = x := ⟨_, rfl⟩
  obtain ⟨y, hy⟩ : ∃ y, f (3 * j + 2) = y := ⟨_, rfl⟩
  refine V_aload_n Y.1 4 dL_law_1894 (rfl : _ = 1895) rfl rfl ?_
  refine V_aload_n Y.1 5 dL_law_1895 (rfl : _ = 1896) rfl rfl ?_
  refine V_iload Y.1 0 dL_law_1896 (rfl : _ = 1898) rfl ?_
  refine V_iconst Y.1 (v := 1) dL_law_1898 (rfl : _ = 1899) (by decide) ?_
  refine V_iadd Y.1 dL_law_1899 (rfl : _ = 1900) ?_
  refine V_nm (v := nI (3 * j + 1)) (nI_add _ 1) ?_
  refine V_sld Y.1 (v := x) hsa (vp_in_nI (by omega) (by omega)) (by rw [nI_clamp (by omega)]; exact hx) dL_law_1900 (rfl : _ = 1901) ?_
  refine V_aload_n Y.1 2 dL_law_1901 (rfl : _ = 1902) rfl rfl ?_
  refine V_cI Y (sW Z (c_L_leftUnderCap l D kA Hs σ _ hC.2.2.2.2.1 a W π ES u hs ep fc no go vs cs ns gs x (t / 1440) hS.day (by have := hS.t30; omega) (a + 337) w1 hC.1 hnt ho1 (by omega) (by have := hC.2.2.2.2.2.2.2; omega) (by have := hC.2.2.2.2.2.1; omega)) mh_L_leftUnderCap si_L_257 rfl rfl (Nat.le_of_ble_eq_true rfl) ⟨Nat.le_of_ble_eq_true rfl, Nat.le_of_ble_eq_true rfl⟩ (by show _ ≤ 603072; omega) (by show _ ≤ 7194730; omega) dL_law_1902) (fun q z => Or.inr (by have z : q = a + 337 := z; have h9 := hC.2.2.2.2.1.1; have := hC.2.2.2.2.2.1; omega)) (rfl : _ = 1905) (fun v_1902 H1902_8 hq_1902 o_1902 => ?_)
  rcases hq_1902 with ⟨hk9, r9, H9, w9, hP9, hst9, ho9, hw9⟩ | ⟨E9, hX9, hk9, ho9⟩
  · have hk8 := hk9.symm
    subst hk8
    have hC := hC.out o_1902 ⟨_, ho9⟩
    obtain ⟨hr9, -, hc9⟩ := hP9
    have hg9 : g_card s x (fun i => r_left s i (t / 1440)) = (0, r9) := by rw [hr9, ← qf_left hS hc9]; exact qa_card_y hS hc9
    refine V_istore Y.1 (ls' := [(6, _), (5, _), (4, _), (3, _), (2, _), (1, _), (0, _)]) dL_law_1905 (rfl : _ = 1907) (by decide) rfl ?_
    refine V_aload_n Y.1 4 dL_law_1907 (rfl : _ = 1908) rfl rfl ?_
    refine V_aload_n Y.1 6 dL_law_1908 (rfl : _ = 1909) rfl rfl ?_
    refine V_iload Y.1 1 dL_law_1909 (rfl : _ = 1911) rfl ?_
    refine V_iconst Y.1 (v := 1) dL_law_1911 (rfl : _ = 1912) (by decide) ?_
    refine V_iadd Y.1 dL_law_1912 (rfl : _ = 1913) ?_
    refine V_nm (v := nI (3 * j + 1)) (nI_add _ 1) ?_
    refine V_sld Y.1 (v := x) hsa (vp_in_nI (by omega) (by omega)) (by rw [nI_clamp (by omega)]; exact hx) dL_law_1913 (rfl : _ = 1914) ?_
    refine V_cI Y (rV Y (c_X6_leftUnderCap l D kA _ (a + 329) F s b v p uu tt cc n t x hC.2.1 hS.1) mi_X6_leftUnderCap vi_L_259 rfl hC.2.1.1 rfl rfl (Nat.le_of_ble_eq_true rfl) ⟨Nat.le_of_ble_eq_true rfl, Nat.le_of_ble_eq_true rfl⟩ (by show _ ≤ 603072; omega) (by show _ ≤ 7194730; omega) dL_law_1914) (fun q z => Or.inr (by have z := z.1; have := hC.2.2.2.2.2.1; omega)) (rfl : _ = 1917) (fun v_1914 H1914_13 hq_1914 o_1914 => ?_)
    obtain ⟨hb2, hR2⟩ := hq_1914
    rw [hg9] at hb2 hR2
    have hb3 := hb2.symm
    subst hb3
    have ho9 := ho9.off o_1914 (fun e => by have := e.2; omega)
    have hC := hC.mod o_1914 hR2
    refine V_istore Y.1 (ls' := [(7, _), (6, _), (5, _), (4, _), (3, _), (2, _), (1, _), (0, _)]) dL_law_1917 (rfl : _ = 1919) (by decide) rfl ?_
    refine V_aload_n Y.1 5 dL_law_1919 (rfl : _ = 1920) rfl rfl ?_
    refine V_cP Y (rV Y (c_X6_thrown l D kA _ (a + 329) _ _ _ _ _ _ _ _ hC.2.1) mi_X6_thrown vi_L_159 rfl hC.2.1.1 rfl rfl (Nat.le_of_ble_eq_true rfl) ⟨Nat.le_of_ble_eq_true rfl, Nat.le_of_ble_eq_true rfl⟩ (by show _ ≤ 603072; omega) (by show _ ≤ 7194730; omega) dL_law_1920) (rfl : _ = 1923) ?_
    refine V_iload Y.1 1 dL_law_1923 (rfl : _ = 1925) rfl ?_
    refine V_icmp_eq Y.1 (tgt := 1930) dL_law_1925 (by decide) (rfl : _ = 1928) (fun _ => ?_) (fun c_n => absurd pk_us c_n)
    refine V_iload Y.1 1 dL_law_1930 (rfl : _ = 1932) rfl ?_
    refine V_if_ne Y.1 (tgt := 1947) dL_law_1932 (by decide) (rfl : _ = 1935) (fun c_n => absurd rfl c_n) (fun _ => ?_)
    refine V_aload_n Y.1 4 dL_law_1935 (rfl : _ = 1936) rfl rfl ?_
    refine V_iconst Y.1 (v := 0) dL_law_1936 (rfl : _ = 1937) (by decide) ?_
    refine V_lald Y.1 (v := r9.toInt64) ho9 (show ¬ ((0 : Int32) < 0 ∨ 1 ≤ (0 : Int32).toNatClampNeg) by decide) hw9 dL_law_1937 (rfl : _ = 1938) ?_
    refine V_iload Y.1 0 dL_law_1938 (rfl : _ = 1940) rfl ?_
    refine V_i2l Y.1 dL_law_1940 (rfl : _ = 1941) rfl ?_
    refine V_lcmp Y.1 dL_law_1941 (rfl : _ = 1942) ?_
    refine V_if_eq Y.1 (tgt := 1947) dL_law_1942 (by decide) (rfl : _ = 1945) (fun _ => ?_) (fun c_n => absurd (lg_self _) c_n)
    refine V_goto Y.1 (tgt := 2781) dL_law_1947 (by decide) ?_
    exact V_forget (ls' := [(5, _), (4, _), (3, _), (2, _), (1, _), (0, _)]) [2, 3, 4, 5, 6, 7] rfl (V_widen (by omega) (by omega) (kk _ ⟨_, _, _, _, _, _, _, _, _, _, _, _, _, _, _, _, _, _, _, _, _, _, _, hC, (hG.f6 _).more (by omega)⟩))
  · have hC := hC.out o_1902 ⟨_, ho9⟩
    obtain ⟨rfl, hx9⟩ := hX9
    have hk7 : v_1902 = 1 := hk9
    have hk8 := hk7.symm
    subst hk8
    have hg9 : (g_card s x (fun i => r_left s i (t / 1440))).1 = 1 := qa_card_n hS hx9
    refine V_istore Y.1 (ls' := [(6, _), (5, _), (4, _), (3, _), (2, _), (1, _), (0, _)]) dL_law_1905 (rfl : _ = 1907) (by decide) rfl ?_
    refine V_aload_n Y.1 4 dL_law_1907 (rfl : _ = 1908) rfl rfl ?_
    refine V_aload_n Y.1 6 dL_law_1908 (rfl : _ = 1909) rfl rfl ?_
    refine V_iload Y.1 1 dL_law_1909 (rfl : _ = 1911) rfl ?_
    refine V_iconst Y.1 (v := 1) dL_law_1911 (rfl : _ = 1912) (by decide) ?_
    refine V_iadd Y.1 dL_law_1912 (rfl : _ = 1913) ?_
    refine V_nm (v := nI (3 * j + 1)) (nI_add _ 1) ?_
    refine V_sld Y.1 (v := x) hsa (vp_in_nI (by omega) (by omega)) (by rw [nI_clamp (by omega)]; exact hx) dL_law_1913 (rfl : _ = 1914) ?_
    refine V_cI Y (rV Y (c_X6_leftUnderCap l D kA _ (a + 329) F s b v p uu tt cc n t x hC.2.1 hS.1) mi_X6_leftUnderCap vi_L_259 rfl hC.2.1.1 rfl rfl (Nat.le_of_ble_eq_true rfl) ⟨Nat.le_of_ble_eq_true rfl, Nat.le_of_ble_eq_true rfl⟩ (by show _ ≤ 603072; omega) (by show _ ≤ 7194730; omega) dL_law_1914) (fun q z => Or.inr (by have z := z.1; have := hC.2.2.2.2.2.1; omega)) (rfl : _ = 1917) (fun v_1914 H1914_12 hq_1914 o_1914 => ?_)
    obtain ⟨hb2, hR2⟩ := hq_1914
    rw [hg9] at hR2
    have hC := hC.mod o_1914 hR2
    refine V_istore Y.1 (ls' := [(7, _), (6, _), (5, _), (4, _), (3, _), (2, _), (1, _), (0, _)]) dL_law_1917 (rfl : _ = 1919) (by decide) rfl ?_
    refine V_aload_n Y.1 5 dL_law_1919 (rfl : _ = 1920) rfl rfl ?_
    refine V_cP Y (rV Y (c_X6_thrown l D kA _ (a + 329) _ _ _ _ _ _ _ _ hC.2.1) mi_X6_thrown vi_L_159 rfl hC.2.1.1 rfl rfl (Nat.le_of_ble_eq_true rfl) ⟨Nat.le_of_ble_eq_true rfl, Nat.le_of_ble_eq_true rfl⟩ (by show _ ≤ 603072; omega) (by show _ ≤ 7194730; omega) dL_law_1920) (rfl : _ = 1923) ?_
    refine V_iload Y.1 1 dL_law_1923 (rfl : _ = 1925) rfl ?_
    refine V_icmp_eq Y.1 (tgt := 1930) dL_law_1925 (by decide) (rfl : _ = 1928) (fun _ => ?_) (fun c_n => absurd pk_us c_n)
    refine V_iload Y.1 1 dL_law_1930 (rfl : _ = 1932) rfl ?_
    refine V_if_ne Y.1 (tgt := 1947) dL_law_1932 (by decide) (rfl : _ = 1935) (fun _ => ?_) (fun c_n => absurd c_n (by decide))
    refine V_goto Y.1 (tgt := 2781) dL_law_1947 (by decide) ?_
    exact V_forget (ls' := [(5, _), (4, _), (3, _), (2, _), (1, _), (0, _)]) [2, 3, 4, 5, 6, 7] rfl (V_widen (by omega) (by omega) (kk _ ⟨_, _, _, _, _, _, _, _, _, _, _, _, _, _, _, _, _, _, _, _, _, _, _, hC, (hG.f6 _).more (by omega)⟩))

set_option maxRecDepth 100000 in
set_option maxHeartbeats 4000000 in
theorem lc_31 (l : Launch) (D : va_G) (kA : Nat → ClassId) (Hs : Heap) (σ : SG) (hnt : l.stackTraces = false) {Pp : Program} {Ee : Env} {Ss : State} {Mm : MethodId} {Ar : Array Value} {Bl : List Frame} {Me : Method} {Cc : Code} {Q : State → Prop} (Z : Ys Pp Ss Mm Ar Me Cc cL_law 9 (some .boolean) "MetroFaresLaw" D kA (AA Hs nof) Hs σ) (sa N : Nat) (f : Nat → Int32) (hsa : va_X sa N f Ss Ss.heap ∧ sa < Ss.heap.size ∧ ¬ AA Hs nof sa) (hN : N ≤ 1536) (a j : Nat) (hj : 3 * j + 3 ≤ N) (H : Heap) (hI : Inv D kA Hs a H (61 * j)) (kk : ∀ H1, Inv D kA Hs a H1 (61 * (j + 1)) → V Pp l Ee (rmO 2048 94400 603072 7194730) Ss Mm Ar Bl Me Cc 9 (AA Hs nof) Q H1 (400 + 200 * (j + 1)) (6000 + 400 * (j + 1)) 2781 [(5, .int (nI (3 * j))), (4, .ref (a + 338)), (3, .ref (a + 337)), (2, .ref (a + 329)), (1, .ref a), (0, .ref sa)] []) : V Pp l Ee (rmO 2048 94400 603072 7194730) Ss Mm Ar Bl Me Cc 9 (AA Hs nof) Q H (400 + 200 * (j)) (6000 + 400 * (j)) 1950 [(5, .int (nI (3 * j))), (4, .ref (a + 338)), (3, .ref (a + 337)), (2, .ref (a + 329)), (1, .ref a), (0, .ref sa)] [] := by
  obtain ⟨W, π, ES, u, hs, ep, fc, no, go, vs, cs, ns, gs, F, s, b, v, p, uu, tt, cc, n, t, hC, hG⟩ := hI
  have Y := Z.1
  have hS := hG.1.1.1
  have hM9 := hG.1.1
  have hjq : j ≤ 512 := by omega
  have hu8 := hC.1.2.2.2.2.2.2.2.1
  obtain ⟨w1, ho1⟩ := hC.2.2.1
  obtain ⟨x, hx⟩ : ∃ x, f (3 * j + 1) = x := ⟨_, rfl⟩
  obtain ⟨y, hy⟩ : ∃ y, f (3 * j + 2) = y := ⟨_, rfl⟩
  refine V_aload_n Y.1 4 dL_law_1950 (rfl : _ = 1951) rfl rfl ?_
  refine V_aload_n Y.1 5 dL_law_1951 (rfl : _ = 1952) rfl rfl ?_
  refine V_iload Y.1 0 dL_law_1952 (rfl : _ = 1954) rfl ?_
  refine V_iconst Y.1 (v := 1) dL_law_1954 (rfl : _ = 1955) (by decide) ?_
  refine V_iadd Y.1 dL_law_1955 (rfl : _ = 1956) ?_
  refine V_nm (v := nI (3 * j + 1)) (nI_add _ 1) ?_
  refine V_sld Y.1 (v := x) hsa (vp_in_nI (by omega) (by omega)) (by rw [nI_clamp (by omega)]; exact hx) dL_law_1956 (rfl : _ = 1957) ?_
  refine V_aload_n Y.1 2 dL_law_1957 (rfl : _ = 1958) rfl rfl ?_
  refine V_cI Y (sW Z (c_L_isRepairable l D kA Hs σ _ hC.2.2.2.2.1 a W π ES u hs ep fc no go vs cs ns gs x (a + 337) w1 hC.1 hnt ho1 (by omega) (by have := hC.2.2.2.2.2.2.2; omega) (by have := hC.2.2.2.2.2.1; omega)) mh_L_isRepairable si_L_260 rfl rfl (Nat.le_of_ble_eq_true rfl) ⟨Nat.le_of_ble_eq_true rfl, Nat.le_of_ble_eq_true rfl⟩ (by show _ ≤ 603072; omega) (by show _ ≤ 7194730; omega) dL_law_1958) (fun q z => Or.inr (by have z : q = a + 337 := z; have h9 := hC.2.2.2.2.1.1; have := hC.2.2.2.2.2.1; omega)) (rfl : _ = 1961) (fun v_1958 H1958_8 hq_1958 o_1958 => ?_)
  rcases hq_1958 with ⟨hk9, r9, H9, w9, hP9, hst9, ho9, hw9⟩ | ⟨E9, hX9, hk9, ho9⟩
  · have hk8 := hk9.symm
    subst hk8
    have hC := hC.out o_1958 ⟨_, ho9⟩
    obtain ⟨hr9, -, hc9⟩ := hP9
    have hg9 : g_card s x (r_rep s (t / 1440)) = (0, r9) := by rw [hr9, ← qf_rep hS hc9]; exact qa_card_y hS hc9
    refine V_istore Y.1 (ls' := [(6, _), (5, _), (4, _), (3, _), (2, _), (1, _), (0, _)]) dL_law_1961 (rfl : _ = 1963) (by decide) rfl ?_
    refine V_aload_n Y.1 4 dL_law_1963 (rfl : _ = 1964) rfl rfl ?_
    refine V_aload_n Y.1 6 dL_law_1964 (rfl : _ = 1965) rfl rfl ?_
    refine V_iload Y.1 1 dL_law_1965 (rfl : _ = 1967) rfl ?_
    refine V_iconst Y.1 (v := 1) dL_law_1967 (rfl : _ = 1968) (by decide) ?_
    refine V_iadd Y.1 dL_law_1968 (rfl : _ = 1969) ?_
    refine V_nm (v := nI (3 * j + 1)) (nI_add _ 1) ?_
    refine V_sld Y.1 (v := x) hsa (vp_in_nI (by omega) (by omega)) (by rw [nI_clamp (by omega)]; exact hx) dL_law_1969 (rfl : _ = 1970) ?_
    refine V_cI Y (rV Y (c_X6_isRepairable l D kA _ (a + 329) F s b v p uu tt cc n t x hC.2.1 hS.1) mi_X6_isRepairable vi_L_262 rfl hC.2.1.1 rfl rfl (Nat.le_of_ble_eq_true rfl) ⟨Nat.le_of_ble_eq_true rfl, Nat.le_of_ble_eq_true rfl⟩ (by show _ ≤ 603072; omega) (by show _ ≤ 7194730; omega) dL_law_1970) (fun q z => Or.inr (by have z := z.1; have := hC.2.2.2.2.2.1; omega)) (rfl : _ = 1973) (fun v_1970 H1970_13 hq_1970 o_1970 => ?_)
    obtain ⟨hb2, hR2⟩ := hq_1970
    rw [hg9] at hb2 hR2
    have hb3 := hb2.symm
    subst hb3
    have ho9 := ho9.off o_1970 (fun e => by have := e.2; omega)
    have hC := hC.mod o_1970 hR2
    refine V_istore Y.1 (ls' := [(7, _), (6, _), (5, _), (4, _), (3, _), (2, _), (1, _), (0, _)]) dL_law_1973 (rfl : _ = 1975) (by decide) rfl ?_
    refine V_aload_n Y.1 5 dL_law_1975 (rfl : _ = 1976) rfl rfl ?_
    refine V_cP Y (rV Y (c_X6_thrown l D kA _ (a + 329) _ _ _ _ _ _ _ _ hC.2.1) mi_X6_thrown vi_L_159 rfl hC.2.1.1 rfl rfl (Nat.le_of_ble_eq_true rfl) ⟨Nat.le_of_ble_eq_true rfl, Nat.le_of_ble_eq_true rfl⟩ (by show _ ≤ 603072; omega) (by show _ ≤ 7194730; omega) dL_law_1976) (rfl : _ = 1979) ?_
    refine V_iload Y.1 1 dL_law_1979 (rfl : _ = 1981) rfl ?_
    refine V_icmp_eq Y.1 (tgt := 1986) dL_law_1981 (by decide) (rfl : _ = 1984) (fun _ => ?_) (fun c_n => absurd pk_us c_n)
    refine V_iload Y.1 1 dL_law_1986 (rfl : _ = 1988) rfl ?_
    refine V_if_ne Y.1 (tgt := 2010) dL_law_1988 (by decide) (rfl : _ = 1991) (fun c_n => absurd rfl c_n) (fun _ => ?_)
    refine V_aload_n Y.1 4 dL_law_1991 (rfl : _ = 1992) rfl rfl ?_
    refine V_iconst Y.1 (v := 0) dL_law_1992 (rfl : _ = 1993) (by decide) ?_
    refine V_lald Y.1 (v := (if r9 = 0 then 0 else 1)) ho9 (show ¬ ((0 : Int32) < 0 ∨ 1 ≤ (0 : Int32).toNatClampNeg) by decide) hw9 dL_law_1993 (rfl : _ = 1994) ?_
    refine V_iload Y.1 0 dL_law_1994 (rfl : _ = 1996) rfl ?_
    refine V_if_eq Y.1 (tgt := 2003) dL_law_1996 (by decide) (rfl : _ = 1999) (fun c_1996 => ?_) (fun c_1996 => ?_)
    · refine V_lconst Y.1 (v := 0) dL_law_2003 (rfl : _ = 2004) (by decide) ?_
      refine V_lcmp Y.1 dL_law_2004 (rfl : _ = 2005) ?_
      refine V_if_eq Y.1 (tgt := 2010) dL_law_2005 (by decide) (rfl : _ = 2008) (fun _ => ?_) (fun c_n => absurd (by rw [if_pos c_1996]; exact lg_self _) c_n)
      refine V_goto Y.1 (tgt := 2781) dL_law_2010 (by decide) ?_
      exact V_forget (ls' := [(5, _), (4, _), (3, _), (2, _), (1, _), (0, _)]) [2, 3, 4, 5, 6, 7] rfl (V_widen (by omega) (by omega) (kk _ ⟨_, _, _, _, _, _, _, _, _, _, _, _, _, _, _, _, _, _, _, _, _, _, _, hC, (hG.f6 _).more (by omega)⟩))
    · refine V_lconst Y.1 (v := 1) dL_law_1999 (rfl : _ = 2000) (by decide) ?_
      refine V_goto Y.1 (tgt := 2004) dL_law_2000 (by decide) ?_
      refine V_lcmp Y.1 dL_law_2004 (rfl : _ = 2005) ?_
      refine V_if_eq Y.1 (tgt := 2010) dL_law_2005 (by decide) (rfl : _ = 2008) (fun _ => ?_) (fun c_n => absurd (by rw [if_neg c_1996]; exact lg_self _) c_n)
      refine V_goto Y.1 (tgt := 2781) dL_law_2010 (by decide) ?_
      exact V_forget (ls' := [(5, _), (4, _), (3, _), (2, _), (1, _), (0, _)]) [2, 3, 4, 5, 6, 7] rfl (V_widen (by omega) (by omega) (kk _ ⟨_, _, _, _, _, _, _, _, _, _, _, _, _, _, _, _, _, _, _, _, _, _, _, hC, (hG.f6 _).more (by omega)⟩))
  · have hC := hC.out o_1958 ⟨_, ho9⟩
    obtain ⟨rfl, hx9⟩ := hX9
    have hk7 : v_1958 = 1 := hk9
    have hk8 := hk7.symm
    subst hk8
    have hg9 : (g_card s x (r_rep s (t / 1440))).1 = 1 := qa_card_n hS hx9
    refine V_istore Y.1 (ls' := [(6, _), (5, _), (4, _), (3, _), (2, _), (1, _), (0, _)]) dL_law_1961 (rfl : _ = 1963) (by decide) rfl ?_
    refine V_aload_n Y.1 4 dL_law_1963 (rfl : _ = 1964) rfl rfl ?_
    refine V_aload_n Y.1 6 dL_law_1964 (rfl : _ = 1965) rfl rfl ?_
    refine V_iload Y.1 1 dL_law_1965 (rfl : _ = 1967) rfl ?_
    refine V_iconst Y.1 (v := 1) dL_law_1967 (rfl : _ = 1968) (by decide) ?_
    refine V_iadd Y.1 dL_law_1968 (rfl : _ = 1969) ?_
    refine V_nm (v := nI (3 * j + 1)) (nI_add _ 1) ?_
    refine V_sld Y.1 (v := x) hsa (vp_in_nI (by omega) (by omega)) (by rw [nI_clamp (by omega)]; exact hx) dL_law_1969 (rfl : _ = 1970) ?_
    refine V_cI Y (rV Y (c_X6_isRepairable l D kA _ (a + 329) F s b v p uu tt cc n t x hC.2.1 hS.1) mi_X6_isRepairable vi_L_262 rfl hC.2.1.1 rfl rfl (Nat.le_of_ble_eq_true rfl) ⟨Nat.le_of_ble_eq_true rfl, Nat.le_of_ble_eq_true rfl⟩ (by show _ ≤ 603072; omega) (by show _ ≤ 7194730; omega) dL_law_1970) (fun q z => Or.inr (by have z := z.1; have := hC.2.2.2.2.2.1; omega)) (rfl : _ = 1973) (fun v_1970 H1970_12 hq_1970 o_1970 => ?_)
    obtain ⟨hb2, hR2⟩ := hq_1970
    rw [hg9] at hR2
    have hC := hC.mod o_1970 hR2
    refine V_istore Y.1 (ls' := [(7, _), (6, _), (5, _), (4, _), (3, _), (2, _), (1, _), (0, _)]) dL_law_1973 (rfl : _ = 1975) (by decide) rfl ?_
    refine V_aload_n Y.1 5 dL_law_1975 (rfl : _ = 1976) rfl rfl ?_
    refine V_cP Y (rV Y (c_X6_thrown l D kA _ (a + 329) _ _ _ _ _ _ _ _ hC.2.1) mi_X6_thrown vi_L_159 rfl hC.2.1.1 rfl rfl (Nat.le_of_ble_eq_true rfl) ⟨Nat.le_of_ble_eq_true rfl, Nat.le_of_ble_eq_true rfl⟩ (by show _ ≤ 603072; omega) (by show _ ≤ 7194730; omega) dL_law_1976) (rfl : _ = 1979) ?_
    refine V_iload Y.1 1 dL_law_1979 (rfl : _ = 1981) rfl ?_
    refine V_icmp_eq Y.1 (tgt := 1986) dL_law_1981 (by decide) (rfl : _ = 1984) (fun _ => ?_) (fun c_n => absurd pk_us c_n)
    refine V_iload Y.1 1 dL_law_1986 (rfl : _ = 1988) rfl ?_
    refine V_if_ne Y.1 (tgt := 2010) dL_law_1988 (by decide) (rfl : _ = 1991) (fun _ => ?_) (fun c_n => absurd c_n (by decide))
    refine V_goto Y.1 (tgt := 2781) dL_law_2010 (by decide) ?_
    exact V_forget (ls' := [(5, _), (4, _), (3, _), (2, _), (1, _), (0, _)]) [2, 3, 4, 5, 6, 7] rfl (V_widen (by omega) (by omega) (kk _ ⟨_, _, _, _, _, _, _, _, _, _, _, _, _, _, _, _, _, _, _, _, _, _, _, hC, (hG.f6 _).more (by omega)⟩))

set_option maxRecDepth 100000 in
set_option maxHeartbeats 4000000 in
theorem lc_23 (l : Launch) (D : va_G) (kA : Nat → ClassId) (Hs : Heap) (σ : SG) (hnt : l.stackTraces = false) {Pp : Program} {Ee : Env} {Ss : State} {Mm : MethodId} {Ar : Array Value} {Bl : List Frame} {Me : Method} {Cc : Code} {Q : State → Prop} (Z : Ys Pp Ss Mm Ar Me Cc cL_law 9 (some .boolean) "MetroFaresLaw" D kA (AA Hs nof) Hs σ) (sa N : Nat) (f : Nat → Int32) (hsa : va_X sa N f Ss Ss.heap ∧ sa < Ss.heap.size ∧ ¬ AA Hs nof sa) (hN : N ≤ 1536) (a j : Nat) (hj : 3 * j + 3 ≤ N) (H : Heap) (hI : Inv D kA Hs a H (61 * j)) (kk : ∀ H1, Inv D kA Hs a H1 (61 * (j + 1)) → V Pp l Ee (rmO 2048 94400 603072 7194730) Ss Mm Ar Bl Me Cc 9 (AA Hs nof) Q H1 (400 + 200 * (j + 1)) (6000 + 400 * (j + 1)) 2781 [(5, .int (nI (3 * j))), (4, .ref (a + 338)), (3, .ref (a + 337)), (2, .ref (a + 329)), (1, .ref a), (0, .ref sa)] []) : V Pp l Ee (rmO 2048 94400 603072 7194730) Ss Mm Ar Bl Me Cc 9 (AA Hs nof) Q H (400 + 200 * (j)) (6000 + 400 * (j)) 1447 [(5, .int (nI (3 * j))), (4, .ref (a + 338)), (3, .ref (a + 337)), (2, .ref (a + 329)), (1, .ref a), (0, .ref sa)] [] := by
  obtain ⟨W, π, ES, u, hs, ep, fc, no, go, vs, cs, ns, gs, F, s, b, v, p, uu, tt, cc, n, t, hC, hG⟩ := hI
  have Y := Z.1
  have hS := hG.1.1.1
  have hM9 := hG.1.1
  have hjq : j ≤ 512 := by omega
  have hu8 := hC.1.2.2.2.2.2.2.2.1
  obtain ⟨w1, ho1⟩ := hC.2.2.1
  obtain ⟨x, hx⟩ : ∃ x, f (3 * j + 1) = x := ⟨_, rfl⟩
  obtain ⟨y, hy⟩ : ∃ y, f (3 * j + 2) = y := ⟨_, rfl⟩
  refine V_aload_n Y.1 4 dL_law_1447 (rfl : _ = 1448) rfl rfl ?_
  refine V_aload_n Y.1 5 dL_law_1448 (rfl : _ = 1449) rfl rfl ?_
  refine V_iload Y.1 0 dL_law_1449 (rfl : _ = 1451) rfl ?_
  refine V_iconst Y.1 (v := 1) dL_law_1451 (rfl : _ = 1452) (by decide) ?_
  refine V_iadd Y.1 dL_law_1452 (rfl : _ = 1453) ?_
  refine V_nm (v := nI (3 * j + 1)) (nI_add _ 1) ?_
  refine V_sld Y.1 (v := x) hsa (vp_in_nI (by omega) (by omega)) (by rw [nI_clamp (by omega)]; exact hx) dL_law_1453 (rfl : _ = 1454) ?_
  refine V_aload_n Y.1 2 dL_law_1454 (rfl : _ = 1455) rfl rfl ?_
  refine V_cI Y (sW Z (c_L_tripStart l D kA Hs σ _ hC.2.2.2.2.1 a W π ES u hs ep fc no go vs cs ns gs x (a + 337) w1 hC.1 hnt ho1 (by omega) (by have := hC.2.2.2.2.2.2.2; omega) (by have := hC.2.2.2.2.2.1; omega)) mh_L_tripStart si_L_236 rfl rfl (Nat.le_of_ble_eq_true rfl) ⟨Nat.le_of_ble_eq_true rfl, Nat.le_of_ble_eq_true rfl⟩ (by show _ ≤ 603072; omega) (by show _ ≤ 7194730; omega) dL_law_1455) (fun q z => Or.inr (by have z : q = a + 337 := z; have h9 := hC.2.2.2.2.1.1; have := hC.2.2.2.2.2.1; omega)) (rfl : _ = 1458) (fun v_1455 H1455_8 hq_1455 o_1455 => ?_)
  rcases hq_1455 with ⟨hk9, r9, H9, w9, hP9, hst9, ho9, hw9⟩ | ⟨E9, hX9, hk9, ho9⟩
  · have hk8 := hk9.symm
    subst hk8
    have hC := hC.out o_1455 ⟨_, ho9⟩
    obtain ⟨hr9, -, hc9, hd9⟩ := hP9
    obtain ⟨t2, t3, t4, -⟩ := hS.tri hc9 hd9
    have hg9 : g_trip s x (fun i => ro s i 2) = (0, r9) := by rw [hr9, qa_trip_y hS hc9 hd9]; rw [← t2]
    refine V_istore Y.1 (ls' := [(6, _), (5, _), (4, _), (3, _), (2, _), (1, _), (0, _)]) dL_law_1458 (rfl : _ = 1460) (by decide) rfl ?_
    refine V_aload_n Y.1 4 dL_law_1460 (rfl : _ = 1461) rfl rfl ?_
    refine V_aload_n Y.1 6 dL_law_1461 (rfl : _ = 1462) rfl rfl ?_
    refine V_iload Y.1 1 dL_law_1462 (rfl : _ = 1464) rfl ?_
    refine V_iconst Y.1 (v := 1) dL_law_1464 (rfl : _ = 1465) (by decide) ?_
    refine V_iadd Y.1 dL_law_1465 (rfl : _ = 1466) ?_
    refine V_nm (v := nI (3 * j + 1)) (nI_add _ 1) ?_
    refine V_sld Y.1 (v := x) hsa (vp_in_nI (by omega) (by omega)) (by rw [nI_clamp (by omega)]; exact hx) dL_law_1466 (rfl : _ = 1467) ?_
    refine V_cI Y (rV Y (c_X6_tripStart l D kA _ (a + 329) F s b v p uu tt cc n t x hC.2.1 hS.1) mi_X6_tripStart vi_L_238 rfl hC.2.1.1 rfl rfl (Nat.le_of_ble_eq_true rfl) ⟨Nat.le_of_ble_eq_true rfl, Nat.le_of_ble_eq_true rfl⟩ (by show _ ≤ 603072; omega) (by show _ ≤ 7194730; omega) dL_law_1467) (fun q z => Or.inr (by have z := z.1; have := hC.2.2.2.2.2.1; omega)) (rfl : _ = 1470) (fun v_1467 H1467_14 hq_1467 o_1467 => ?_)
    obtain ⟨hb2, hR2⟩ := hq_1467
    rw [hg9] at hb2 hR2
    have hb3 := hb2.symm
    subst hb3
    have ho9 := ho9.off o_1467 (fun e => by have := e.2; omega)
    have hC := hC.mod o_1467 hR2
    refine V_istore Y.1 (ls' := [(7, _), (6, _), (5, _), (4, _), (3, _), (2, _), (1, _), (0, _)]) dL_law_1470 (rfl : _ = 1472) (by decide) rfl ?_
    refine V_aload_n Y.1 5 dL_law_1472 (rfl : _ = 1473) rfl rfl ?_
    refine V_cP Y (rV Y (c_X6_thrown l D kA _ (a + 329) _ _ _ _ _ _ _ _ hC.2.1) mi_X6_thrown vi_L_159 rfl hC.2.1.1 rfl rfl (Nat.le_of_ble_eq_true rfl) ⟨Nat.le_of_ble_eq_true rfl, Nat.le_of_ble_eq_true rfl⟩ (by show _ ≤ 603072; omega) (by show _ ≤ 7194730; omega) dL_law_1473) (rfl : _ = 1476) ?_
    refine V_iload Y.1 1 dL_law_1476 (rfl : _ = 1478) rfl ?_
    refine V_icmp_eq Y.1 (tgt := 1483) dL_law_1478 (by decide) (rfl : _ = 1481) (fun _ => ?_) (fun c_n => absurd pk_us c_n)
    refine V_iload Y.1 1 dL_law_1483 (rfl : _ = 1485) rfl ?_
    refine V_if_ne Y.1 (tgt := 1500) dL_law_1485 (by decide) (rfl : _ = 1488) (fun c_n => absurd rfl c_n) (fun _ => ?_)
    refine V_aload_n Y.1 4 dL_law_1488 (rfl : _ = 1489) rfl rfl ?_
    refine V_iconst Y.1 (v := 0) dL_law_1489 (rfl : _ = 1490) (by decide) ?_
    refine V_lald Y.1 (v := r9.toInt64) ho9 (show ¬ ((0 : Int32) < 0 ∨ 1 ≤ (0 : Int32).toNatClampNeg) by decide) hw9 dL_law_1490 (rfl : _ = 1491) ?_
    refine V_iload Y.1 0 dL_law_1491 (rfl : _ = 1493) rfl ?_
    refine V_i2l Y.1 dL_law_1493 (rfl : _ = 1494) rfl ?_
    refine V_lcmp Y.1 dL_law_1494 (rfl : _ = 1495) ?_
    refine V_if_eq Y.1 (tgt := 1500) dL_law_1495 (by decide) (rfl : _ = 1498) (fun _ => ?_) (fun c_n => absurd (lg_self _) c_n)
    refine V_goto Y.1 (tgt := 2781) dL_law_1500 (by decide) ?_
    exact V_forget (ls' := [(5, _), (4, _), (3, _), (2, _), (1, _), (0, _)]) [2, 3, 4, 5, 6, 7] rfl (V_widen (by omega) (by omega) (kk _ ⟨_, _, _, _, _, _, _, _, _, _, _, _, _, _, _, _, _, _, _, _, _, _, _, hC, (hG.f6 _).more (by omega)⟩))
  · have hC := hC.out o_1455 ⟨_, ho9⟩
    rcases hX9 with ⟨rfl, hx9⟩ | ⟨rfl, hx9, hd9⟩
    · have hk7 : v_1455 = 1 := hk9.trans (by decide)
      have hk8 := hk7.symm
      subst hk8
      have hg9 : (g_trip s x (fun i => ro s i 2)).1 = 1 := (qa_go hS).1 hx9
      refine V_istore Y.1 (ls' := [(6, _), (5, _), (4, _), (3, _), (2, _), (1, _), (0, _)]) dL_law_1458 (rfl : _ = 1460) (by decide) rfl ?_
      refine V_aload_n Y.1 4 dL_law_1460 (rfl : _ = 1461) rfl rfl ?_
      refine V_aload_n Y.1 6 dL_law_1461 (rfl : _ = 1462) rfl rfl ?_
      refine V_iload Y.1 1 dL_law_1462 (rfl : _ = 1464) rfl ?_
      refine V_iconst Y.1 (v := 1) dL_law_1464 (rfl : _ = 1465) (by decide) ?_
      refine V_iadd Y.1 dL_law_1465 (rfl : _ = 1466) ?_
      refine V_nm (v := nI (3 * j + 1)) (nI_add _ 1) ?_
      refine V_sld Y.1 (v := x) hsa (vp_in_nI (by omega) (by omega)) (by rw [nI_clamp (by omega)]; exact hx) dL_law_1466 (rfl : _ = 1467) ?_
      refine V_cI Y (rV Y (c_X6_tripStart l D kA _ (a + 329) F s b v p uu tt cc n t x hC.2.1 hS.1) mi_X6_tripStart vi_L_238 rfl hC.2.1.1 rfl rfl (Nat.le_of_ble_eq_true rfl) ⟨Nat.le_of_ble_eq_true rfl, Nat.le_of_ble_eq_true rfl⟩ (by show _ ≤ 603072; omega) (by show _ ≤ 7194730; omega) dL_law_1467) (fun q z => Or.inr (by have z := z.1; have := hC.2.2.2.2.2.1; omega)) (rfl : _ = 1470) (fun v_1467 H1467_12 hq_1467 o_1467 => ?_)
      obtain ⟨hb2, hR2⟩ := hq_1467
      rw [hg9] at hR2
      have hC := hC.mod o_1467 hR2
      refine V_istore Y.1 (ls' := [(7, _), (6, _), (5, _), (4, _), (3, _), (2, _), (1, _), (0, _)]) dL_law_1470 (rfl : _ = 1472) (by decide) rfl ?_
      refine V_aload_n Y.1 5 dL_law_1472 (rfl : _ = 1473) rfl rfl ?_
      refine V_cP Y (rV Y (c_X6_thrown l D kA _ (a + 329) _ _ _ _ _ _ _ _ hC.2.1) mi_X6_thrown vi_L_159 rfl hC.2.1.1 rfl rfl (Nat.le_of_ble_eq_true rfl) ⟨Nat.le_of_ble_eq_true rfl, Nat.le_of_ble_eq_true rfl⟩ (by show _ ≤ 603072; omega) (by show _ ≤ 7194730; omega) dL_law_1473) (rfl : _ = 1476) ?_
      refine V_iload Y.1 1 dL_law_1476 (rfl : _ = 1478) rfl ?_
      refine V_icmp_eq Y.1 (tgt := 1483) dL_law_1478 (by decide) (rfl : _ = 1481) (fun _ => ?_) (fun c_n => absurd pk_us c_n)
      refine V_iload Y.1 1 dL_law_1483 (rfl : _ = 1485) rfl ?_
      refine V_if_ne Y.1 (tgt := 1500) dL_law_1485 (by decide) (rfl : _ = 1488) (fun _ => ?_) (fun c_n => absurd c_n (by decide))
      refine V_goto Y.1 (tgt := 2781) dL_law_1500 (by decide) ?_
      exact V_forget (ls' := [(5, _), (4, _), (3, _), (2, _), (1, _), (0, _)]) [2, 3, 4, 5, 6, 7] rfl (V_widen (by omega) (by omega) (kk _ ⟨_, _, _, _, _, _, _, _, _, _, _, _, _, _, _, _, _, _, _, _, _, _, _, hC, (hG.f6 _).more (by omega)⟩))
    · have hk7 : v_1455 = 2 := hk9.trans (by decide)
      have hk8 := hk7.symm
      subst hk8
      have hg9 : (g_trip s x (fun i => ro s i 2)).1 = 2 := (qa_go hS).2.1 hx9 hd9
      refine V_istore Y.1 (ls' := [(6, _), (5, _), (4, _), (3, _), (2, _), (1, _), (0, _)]) dL_law_1458 (rfl : _ = 1460) (by decide) rfl ?_
      refine V_aload_n Y.1 4 dL_law_1460 (rfl : _ = 1461) rfl rfl ?_
      refine V_aload_n Y.1 6 dL_law_1461 (rfl : _ = 1462) rfl rfl ?_
      refine V_iload Y.1 1 dL_law_1462 (rfl : _ = 1464) rfl ?_
      refine V_iconst Y.1 (v := 1) dL_law_1464 (rfl : _ = 1465) (by decide) ?_
      refine V_iadd Y.1 dL_law_1465 (rfl : _ = 1466) ?_
      refine V_nm (v := nI (3 * j + 1)) (nI_add _ 1) ?_
      refine V_sld Y.1 (v := x) hsa (vp_in_nI (by omega) (by omega)) (by rw [nI_clamp (by omega)]; exact hx) dL_law_1466 (rfl : _ = 1467) ?_
      refine V_cI Y (rV Y (c_X6_tripStart l D kA _ (a + 329) F s b v p uu tt cc n t x hC.2.1 hS.1) mi_X6_tripStart vi_L_238 rfl hC.2.1.1 rfl rfl (Nat.le_of_ble_eq_true rfl) ⟨Nat.le_of_ble_eq_true rfl, Nat.le_of_ble_eq_true rfl⟩ (by show _ ≤ 603072; omega) (by show _ ≤ 7194730; omega) dL_law_1467) (fun q z => Or.inr (by have z := z.1; have := hC.2.2.2.2.2.1; omega)) (rfl : _ = 1470) (fun v_1467 H1467_12 hq_1467 o_1467 => ?_)
      obtain ⟨hb2, hR2⟩ := hq_1467
      rw [hg9] at hR2
      have hC := hC.mod o_1467 hR2
      refine V_istore Y.1 (ls' := [(7, _), (6, _), (5, _), (4, _), (3, _), (2, _), (1, _), (0, _)]) dL_law_1470 (rfl : _ = 1472) (by decide) rfl ?_
      refine V_aload_n Y.1 5 dL_law_1472 (rfl : _ = 1473) rfl rfl ?_
      refine V_cP Y (rV Y (c_X6_thrown l D kA _ (a + 329) _ _ _ _ _ _ _ _ hC.2.1) mi_X6_thrown vi_L_159 rfl hC.2.1.1 rfl rfl (Nat.le_of_ble_eq_true rfl) ⟨Nat.le_of_ble_eq_true rfl, Nat.le_of_ble_eq_true rfl⟩ (by show _ ≤ 603072; omega) (by show _ ≤ 7194730; omega) dL_law_1473) (rfl : _ = 1476) ?_
      refine V_iload Y.1 1 dL_law_1476 (rfl : _ = 1478) rfl ?_
      refine V_icmp_eq Y.1 (tgt := 1483) dL_law_1478 (by decide) (rfl : _ = 1481) (fun _ => ?_) (fun c_n => absurd pk_us c_n)
      refine V_iload Y.1 1 dL_law_1483 (rfl : _ = 1485) rfl ?_
      refine V_if_ne Y.1 (tgt := 1500) dL_law_1485 (by decide) (rfl : _ = 1488) (fun _ => ?_) (fun c_n => absurd c_n (by decide))
      refine V_goto Y.1 (tgt := 2781) dL_law_1500 (by decide) ?_
      exact V_forget (ls' := [(5, _), (4, _), (3, _), (2, _), (1, _), (0, _)]) [2, 3, 4, 5, 6, 7] rfl (V_widen (by omega) (by omega) (kk _ ⟨_, _, _, _, _, _, _, _, _, _, _, _, _, _, _, _, _, _, _, _, _, _, _, hC, (hG.f6 _).more (by omega)⟩))

set_option maxRecDepth 100000 in
set_option maxHeartbeats 4000000 in
theorem lc_24 (l : Launch) (D : va_G) (kA : Nat → ClassId) (Hs : Heap) (σ : SG) (hnt : l.stackTraces = false) {Pp : Program} {Ee : Env} {Ss : State} {Mm : MethodId} {Ar : Array Value} {Bl : List Frame} {Me : Method} {Cc : Code} {Q : State → Prop} (Z : Ys Pp Ss Mm Ar Me Cc cL_law 9 (some .boolean) "MetroFaresLaw" D kA (AA Hs nof) Hs σ) (sa N : Nat) (f : Nat → Int32) (hsa : va_X sa N f Ss Ss.heap ∧ sa < Ss.heap.size ∧ ¬ AA Hs nof sa) (hN : N ≤ 1536) (a j : Nat) (hj : 3 * j + 3 ≤ N) (H : Heap) (hI : Inv D kA Hs a H (61 * j)) (kk : ∀ H1, Inv D kA Hs a H1 (61 * (j + 1)) → V Pp l Ee (rmO 2048 94400 603072 7194730) Ss Mm Ar Bl Me Cc 9 (AA Hs nof) Q H1 (400 + 200 * (j + 1)) (6000 + 400 * (j + 1)) 2781 [(5, .int (nI (3 * j))), (4, .ref (a + 338)), (3, .ref (a + 337)), (2, .ref (a + 329)), (1, .ref a), (0, .ref sa)] []) : V Pp l Ee (rmO 2048 94400 603072 7194730) Ss Mm Ar Bl Me Cc 9 (AA Hs nof) Q H (400 + 200 * (j)) (6000 + 400 * (j)) 1503 [(5, .int (nI (3 * j))), (4, .ref (a + 338)), (3, .ref (a + 337)), (2, .ref (a + 329)), (1, .ref a), (0, .ref sa)] [] := by
  obtain ⟨W, π, ES, u, hs, ep, fc, no, go, vs, cs, ns, gs, F, s, b, v, p, uu, tt, cc, n, t, hC, hG⟩ := hI
  have Y := Z.1
  have hS := hG.1.1.1
  have hM9 := hG.1.1
  have hjq : j ≤ 512 := by omega
  have hu8 := hC.1.2.2.2.2.2.2.2.1
  obtain ⟨w1, ho1⟩ := hC.2.2.1
  obtain ⟨x, hx⟩ : ∃ x, f (3 * j + 1) = x := ⟨_, rfl⟩
  obtain ⟨y, hy⟩ : ∃ y, f (3 * j + 2) = y := ⟨_, rfl⟩
  refine V_aload_n Y.1 4 dL_law_1503 (rfl : _ = 1504) rfl rfl ?_
  refine V_aload_n Y.1 5 dL_law_1504 (rfl : _ = 1505) rfl rfl ?_
  refine V_iload Y.1 0 dL_law_1505 (rfl : _ = 1507) rfl ?_
  refine V_iconst Y.1 (v := 1) dL_law_1507 (rfl : _ = 1508) (by decide) ?_
  refine V_iadd Y.1 dL_law_1508 (rfl : _ = 1509) ?_
  refine V_nm (v := nI (3 * j + 1)) (nI_add _ 1) ?_
  refine V_sld Y.1 (v := x) hsa (vp_in_nI (by omega) (by omega)) (by rw [nI_clamp (by omega)]; exact hx) dL_law_1509 (rfl : _ = 1510) ?_
  refine V_aload_n Y.1 2 dL_law_1510 (rfl : _ = 1511) rfl rfl ?_
  refine V_cI Y (sW Z (c_L_journeyStart l D kA Hs σ _ hC.2.2.2.2.1 a W π ES u hs ep fc no go vs cs ns gs x (a + 337) w1 hC.1 hnt ho1 (by omega) (by have := hC.2.2.2.2.2.2.2; omega) (by have := hC.2.2.2.2.2.1; omega)) mh_L_journeyStart si_L_239 rfl rfl (Nat.le_of_ble_eq_true rfl) ⟨Nat.le_of_ble_eq_true rfl, Nat.le_of_ble_eq_true rfl⟩ (by show _ ≤ 603072; omega) (by show _ ≤ 7194730; omega) dL_law_1511) (fun q z => Or.inr (by have z : q = a + 337 := z; have h9 := hC.2.2.2.2.1.1; have := hC.2.2.2.2.2.1; omega)) (rfl : _ = 1514) (fun v_1511 H1511_8 hq_1511 o_1511 => ?_)
  rcases hq_1511 with ⟨hk9, r9, H9, w9, hP9, hst9, ho9, hw9⟩ | ⟨E9, hX9, hk9, ho9⟩
  · have hk8 := hk9.symm
    subst hk8
    have hC := hC.out o_1511 ⟨_, ho9⟩
    obtain ⟨hr9, -, hc9, hd9⟩ := hP9
    obtain ⟨t2, t3, t4, -⟩ := hS.tri hc9 hd9
    have hg9 : g_trip s x (fun i => ro s i 4) = (0, r9) := by rw [hr9, qa_trip_y hS hc9 hd9]; rw [← t4]
    refine V_istore Y.1 (ls' := [(6, _), (5, _), (4, _), (3, _), (2, _), (1, _), (0, _)]) dL_law_1514 (rfl : _ = 1516) (by decide) rfl ?_
    refine V_aload_n Y.1 4 dL_law_1516 (rfl : _ = 1517) rfl rfl ?_
    refine V_aload_n Y.1 6 dL_law_1517 (rfl : _ = 1518) rfl rfl ?_
    refine V_iload Y.1 1 dL_law_1518 (rfl : _ = 1520) rfl ?_
    refine V_iconst Y.1 (v := 1) dL_law_1520 (rfl : _ = 1521) (by decide) ?_
    refine V_iadd Y.1 dL_law_1521 (rfl : _ = 1522) ?_
    refine V_nm (v := nI (3 * j + 1)) (nI_add _ 1) ?_
    refine V_sld Y.1 (v := x) hsa (vp_in_nI (by omega) (by omega)) (by rw [nI_clamp (by omega)]; exact hx) dL_law_1522 (rfl : _ = 1523) ?_
    refine V_cI Y (rV Y (c_X6_journeyStart l D kA _ (a + 329) F s b v p uu tt cc n t x hC.2.1 hS.1) mi_X6_journeyStart vi_L_241 rfl hC.2.1.1 rfl rfl (Nat.le_of_ble_eq_true rfl) ⟨Nat.le_of_ble_eq_true rfl, Nat.le_of_ble_eq_true rfl⟩ (by show _ ≤ 603072; omega) (by show _ ≤ 7194730; omega) dL_law_1523) (fun q z => Or.inr (by have z := z.1; have := hC.2.2.2.2.2.1; omega)) (rfl : _ = 1526) (fun v_1523 H1523_14 hq_1523 o_1523 => ?_)
    obtain ⟨hb2, hR2⟩ := hq_1523
    rw [hg9] at hb2 hR2
    have hb3 := hb2.symm
    subst hb3
    have ho9 := ho9.off o_1523 (fun e => by have := e.2; omega)
    have hC := hC.mod o_1523 hR2
    refine V_istore Y.1 (ls' := [(7, _), (6, _), (5, _), (4, _), (3, _), (2, _), (1, _), (0, _)]) dL_law_1526 (rfl : _ = 1528) (by decide) rfl ?_
    refine V_aload_n Y.1 5 dL_law_1528 (rfl : _ = 1529) rfl rfl ?_
    refine V_cP Y (rV Y (c_X6_thrown l D kA _ (a + 329) _ _ _ _ _ _ _ _ hC.2.1) mi_X6_thrown vi_L_159 rfl hC.2.1.1 rfl rfl (Nat.le_of_ble_eq_true rfl) ⟨Nat.le_of_ble_eq_true rfl, Nat.le_of_ble_eq_true rfl⟩ (by show _ ≤ 603072; omega) (by show _ ≤ 7194730; omega) dL_law_1529) (rfl : _ = 1532) ?_
    refine V_iload Y.1 1 dL_law_1532 (rfl : _ = 1534) rfl ?_
    refine V_icmp_eq Y.1 (tgt := 1539) dL_law_1534 (by decide) (rfl : _ = 1537) (fun _ => ?_) (fun c_n => absurd pk_us c_n)
    refine V_iload Y.1 1 dL_law_1539 (rfl : _ = 1541) rfl ?_
    refine V_if_ne Y.1 (tgt := 1556) dL_law_1541 (by decide) (rfl : _ = 1544) (fun c_n => absurd rfl c_n) (fun _ => ?_)
    refine V_aload_n Y.1 4 dL_law_1544 (rfl : _ = 1545) rfl rfl ?_
    refine V_iconst Y.1 (v := 0) dL_law_1545 (rfl : _ = 1546) (by decide) ?_
    refine V_lald Y.1 (v := r9.toInt64) ho9 (show ¬ ((0 : Int32) < 0 ∨ 1 ≤ (0 : Int32).toNatClampNeg) by decide) hw9 dL_law_1546 (rfl : _ = 1547) ?_
    refine V_iload Y.1 0 dL_law_1547 (rfl : _ = 1549) rfl ?_
    refine V_i2l Y.1 dL_law_1549 (rfl : _ = 1550) rfl ?_
    refine V_lcmp Y.1 dL_law_1550 (rfl : _ = 1551) ?_
    refine V_if_eq Y.1 (tgt := 1556) dL_law_1551 (by decide) (rfl : _ = 1554) (fun _ => ?_) (fun c_n => absurd (lg_self _) c_n)
    refine V_goto Y.1 (tgt := 2781) dL_law_1556 (by decide) ?_
    exact V_forget (ls' := [(5, _), (4, _), (3, _), (2, _), (1, _), (0, _)]) [2, 3, 4, 5, 6, 7] rfl (V_widen (by omega) (by omega) (kk _ ⟨_, _, _, _, _, _, _, _, _, _, _, _, _, _, _, _, _, _, _, _, _, _, _, hC, (hG.f6 _).more (by omega)⟩))
  · have hC := hC.out o_1511 ⟨_, ho9⟩
    rcases hX9 with ⟨rfl, hx9⟩ | ⟨rfl, hx9, hd9⟩
    · have hk7 : v_1511 = 1 := hk9.trans (by decide)
      have hk8 := hk7.symm
      subst hk8
      have hg9 : (g_trip s x (fun i => ro s i 4)).1 = 1 := (qa_go hS).1 hx9
      refine V_istore Y.1 (ls' := [(6, _), (5, _), (4, _), (3, _), (2, _), (1, _), (0, _)]) dL_law_1514 (rfl : _ = 1516) (by decide) rfl ?_
      refine V_aload_n Y.1 4 dL_law_1516 (rfl : _ = 1517) rfl rfl ?_
      refine V_aload_n Y.1 6 dL_law_1517 (rfl : _ = 1518) rfl rfl ?_
      refine V_iload Y.1 1 dL_law_1518 (rfl : _ = 1520) rfl ?_
      refine V_iconst Y.1 (v := 1) dL_law_1520 (rfl : _ = 1521) (by decide) ?_
      refine V_iadd Y.1 dL_law_1521 (rfl : _ = 1522) ?_
      refine V_nm (v := nI (3 * j + 1)) (nI_add _ 1) ?_
      refine V_sld Y.1 (v := x) hsa (vp_in_nI (by omega) (by omega)) (by rw [nI_clamp (by omega)]; exact hx) dL_law_1522 (rfl : _ = 1523) ?_
      refine V_cI Y (rV Y (c_X6_journeyStart l D kA _ (a + 329) F s b v p uu tt cc n t x hC.2.1 hS.1) mi_X6_journeyStart vi_L_241 rfl hC.2.1.1 rfl rfl (Nat.le_of_ble_eq_true rfl) ⟨Nat.le_of_ble_eq_true rfl, Nat.le_of_ble_eq_true rfl⟩ (by show _ ≤ 603072; omega) (by show _ ≤ 7194730; omega) dL_law_1523) (fun q z => Or.inr (by have z := z.1; have := hC.2.2.2.2.2.1; omega)) (rfl : _ = 1526) (fun v_1523 H1523_12 hq_1523 o_1523 => ?_)
      obtain ⟨hb2, hR2⟩ := hq_1523
      rw [hg9] at hR2
      have hC := hC.mod o_1523 hR2
      refine V_istore Y.1 (ls' := [(7, _), (6, _), (5, _), (4, _), (3, _), (2, _), (1, _), (0, _)]) dL_law_1526 (rfl : _ = 1528) (by decide) rfl ?_
      refine V_aload_n Y.1 5 dL_law_1528 (rfl : _ = 1529) rfl rfl ?_
      refine V_cP Y (rV Y (c_X6_thrown l D kA _ (a + 329) _ _ _ _ _ _ _ _ hC.2.1) mi_X6_thrown vi_L_159 rfl hC.2.1.1 rfl rfl (Nat.le_of_ble_eq_true rfl) ⟨Nat.le_of_ble_eq_true rfl, Nat.le_of_ble_eq_true rfl⟩ (by show _ ≤ 603072; omega) (by show _ ≤ 7194730; omega) dL_law_1529) (rfl : _ = 1532) ?_
      refine V_iload Y.1 1 dL_law_1532 (rfl : _ = 1534) rfl ?_
      refine V_icmp_eq Y.1 (tgt := 1539) dL_law_1534 (by decide) (rfl : _ = 1537) (fun _ => ?_) (fun c_n => absurd pk_us c_n)
      refine V_iload Y.1 1 dL_law_1539 (rfl : _ = 1541) rfl ?_
      refine V_if_ne Y.1 (tgt := 1556) dL_law_1541 (by decide) (rfl : _ = 1544) (fun _ => ?_) (fun c_n => absurd c_n (by decide))
      refine V_goto Y.1 (tgt := 2781) dL_law_1556 (by decide) ?_
      exact V_forget (ls' := [(5, _), (4, _), (3, _), (2, _), (1, _), (0, _)]) [2, 3, 4, 5, 6, 7] rfl (V_widen (by omega) (by omega) (kk _ ⟨_, _, _, _, _, _, _, _, _, _, _, _, _, _, _, _, _, _, _, _, _, _, _, hC, (hG.f6 _).more (by omega)⟩))
    · have hk7 : v_1511 = 2 := hk9.trans (by decide)
      have hk8 := hk7.symm
      subst hk8
      have hg9 : (g_trip s x (fun i => ro s i 4)).1 = 2 := (qa_go hS).2.1 hx9 hd9
      refine V_istore Y.1 (ls' := [(6, _), (5, _), (4, _), (3, _), (2, _), (1, _), (0, _)]) dL_law_1514 (rfl : _ = 1516) (by decide) rfl ?_
      refine V_aload_n Y.1 4 dL_law_1516 (rfl : _ = 1517) rfl rfl ?_
      refine V_aload_n Y.1 6 dL_law_1517 (rfl : _ = 1518) rfl rfl ?_
      refine V_iload Y.1 1 dL_law_1518 (rfl : _ = 1520) rfl ?_
      refine V_iconst Y.1 (v := 1) dL_law_1520 (rfl : _ = 1521) (by decide) ?_
      refine V_iadd Y.1 dL_law_1521 (rfl : _ = 1522) ?_
      refine V_nm (v := nI (3 * j + 1)) (nI_add _ 1) ?_
      refine V_sld Y.1 (v := x) hsa (vp_in_nI (by omega) (by omega)) (by rw [nI_clamp (by omega)]; exact hx) dL_law_1522 (rfl : _ = 1523) ?_
      refine V_cI Y (rV Y (c_X6_journeyStart l D kA _ (a + 329) F s b v p uu tt cc n t x hC.2.1 hS.1) mi_X6_journeyStart vi_L_241 rfl hC.2.1.1 rfl rfl (Nat.le_of_ble_eq_true rfl) ⟨Nat.le_of_ble_eq_true rfl, Nat.le_of_ble_eq_true rfl⟩ (by show _ ≤ 603072; omega) (by show _ ≤ 7194730; omega) dL_law_1523) (fun q z => Or.inr (by have z := z.1; have := hC.2.2.2.2.2.1; omega)) (rfl : _ = 1526) (fun v_1523 H1523_12 hq_1523 o_1523 => ?_)
      obtain ⟨hb2, hR2⟩ := hq_1523
      rw [hg9] at hR2
      have hC := hC.mod o_1523 hR2
      refine V_istore Y.1 (ls' := [(7, _), (6, _), (5, _), (4, _), (3, _), (2, _), (1, _), (0, _)]) dL_law_1526 (rfl : _ = 1528) (by decide) rfl ?_
      refine V_aload_n Y.1 5 dL_law_1528 (rfl : _ = 1529) rfl rfl ?_
      refine V_cP Y (rV Y (c_X6_thrown l D kA _ (a + 329) _ _ _ _ _ _ _ _ hC.2.1) mi_X6_thrown vi_L_159 rfl hC.2.1.1 rfl rfl (Nat.le_of_ble_eq_true rfl) ⟨Nat.le_of_ble_eq_true rfl, Nat.le_of_ble_eq_true rfl⟩ (by show _ ≤ 603072; omega) (by show _ ≤ 7194730; omega) dL_law_1529) (rfl : _ = 1532) ?_
      refine V_iload Y.1 1 dL_law_1532 (rfl : _ = 1534) rfl ?_
      refine V_icmp_eq Y.1 (tgt := 1539) dL_law_1534 (by decide) (rfl : _ = 1537) (fun _ => ?_) (fun c_n => absurd pk_us c_n)
      refine V_iload Y.1 1 dL_law_1539 (rfl : _ = 1541) rfl ?_
      refine V_if_ne Y.1 (tgt := 1556) dL_law_1541 (by decide) (rfl : _ = 1544) (fun _ => ?_) (fun c_n => absurd c_n (by decide))
      refine V_goto Y.1 (tgt := 2781) dL_law_1556 (by decide) ?_
      exact V_forget (ls' := [(5, _), (4, _), (3, _), (2, _), (1, _), (0, _)]) [2, 3, 4, 5, 6, 7] rfl (V_widen (by omega) (by omega) (kk _ ⟨_, _, _, _, _, _, _, _, _, _, _, _, _, _, _, _, _, _, _, _, _, _, _, hC, (hG.f6 _).more (by omega)⟩))

set_option maxRecDepth 100000 in
set_option maxHeartbeats 4000000 in
theorem lc_25 (l : Launch) (D : va_G) (kA : Nat → ClassId) (Hs : Heap) (σ : SG) (hnt : l.stackTraces = false) {Pp : Program} {Ee : Env} {Ss : State} {Mm : MethodId} {Ar : Array Value} {Bl : List Frame} {Me : Method} {Cc : Code} {Q : State → Prop} (Z : Ys Pp Ss Mm Ar Me Cc cL_law 9 (some .boolean) "MetroFaresLaw" D kA (AA Hs nof) Hs σ) (sa N : Nat) (f : Nat → Int32) (hsa : va_X sa N f Ss Ss.heap ∧ sa < Ss.heap.size ∧ ¬ AA Hs nof sa) (hN : N ≤ 1536) (a j : Nat) (hj : 3 * j + 3 ≤ N) (H : Heap) (hI : Inv D kA Hs a H (61 * j)) (kk : ∀ H1, Inv D kA Hs a H1 (61 * (j + 1)) → V Pp l Ee (rmO 2048 94400 603072 7194730) Ss Mm Ar Bl Me Cc 9 (AA Hs nof) Q H1 (400 + 200 * (j + 1)) (6000 + 400 * (j + 1)) 2781 [(5, .int (nI (3 * j))), (4, .ref (a + 338)), (3, .ref (a + 337)), (2, .ref (a + 329)), (1, .ref a), (0, .ref sa)] []) : V Pp l Ee (rmO 2048 94400 603072 7194730) Ss Mm Ar Bl Me Cc 9 (AA Hs nof) Q H (400 + 200 * (j)) (6000 + 400 * (j)) 1559 [(5, .int (nI (3 * j))), (4, .ref (a + 338)), (3, .ref (a + 337)), (2, .ref (a + 329)), (1, .ref a), (0, .ref sa)] [] := by
  obtain ⟨W, π, ES, u, hs, ep, fc, no, go, vs, cs, ns, gs, F, s, b, v, p, uu, tt, cc, n, t, hC, hG⟩ := hI
  have Y := Z.1
  have hS := hG.1.1.1
  have hM9 := hG.1.1
  have hjq : j ≤ 512 := by omega
  have hu8 := hC.1.2.2.2.2.2.2.2.1
  obtain ⟨w1, ho1⟩ := hC.2.2.1
  obtain ⟨x, hx⟩ : ∃ x, f (3 * j + 1) = x := ⟨_, rfl⟩
  obtain ⟨y, hy⟩ : ∃ y, f (3 * j + 2) = y := ⟨_, rfl⟩
  refine V_aload_n Y.1 4 dL_law_1559 (rfl : _ = 1560) rfl rfl ?_
  refine V_aload_n Y.1 5 dL_law_1560 (rfl : _ = 1561) rfl rfl ?_
  refine V_iload Y.1 0 dL_law_1561 (rfl : _ = 1563) rfl ?_
  refine V_iconst Y.1 (v := 1) dL_law_1563 (rfl : _ = 1564) (by decide) ?_
  refine V_iadd Y.1 dL_law_1564 (rfl : _ = 1565) ?_
  refine V_nm (v := nI (3 * j + 1)) (nI_add _ 1) ?_
  refine V_sld Y.1 (v := x) hsa (vp_in_nI (by omega) (by omega)) (by rw [nI_clamp (by omega)]; exact hx) dL_law_1565 (rfl : _ = 1566) ?_
  refine V_aload_n Y.1 2 dL_law_1566 (rfl : _ = 1567) rfl rfl ?_
  refine V_cI Y (sW Z (c_L_minutesLeft l D kA Hs σ _ hC.2.2.2.2.1 a W π ES u hs ep fc no go vs cs ns gs x (a + 337) w1 hC.1 hnt ho1 (by omega) (by have := hC.2.2.2.2.2.2.2; omega) (by have := hC.2.2.2.2.2.1; omega)) mh_L_minutesLeft si_L_242 rfl rfl (Nat.le_of_ble_eq_true rfl) ⟨Nat.le_of_ble_eq_true rfl, Nat.le_of_ble_eq_true rfl⟩ (by show _ ≤ 603072; omega) (by show _ ≤ 7194730; omega) dL_law_1567) (fun q z => Or.inr (by have z : q = a + 337 := z; have h9 := hC.2.2.2.2.1.1; have := hC.2.2.2.2.2.1; omega)) (rfl : _ = 1570) (fun v_1567 H1567_8 hq_1567 o_1567 => ?_)
  rcases hq_1567 with ⟨hk9, r9, H9, w9, hP9, hst9, ho9, hw9⟩ | ⟨E9, hX9, hk9, ho9⟩
  · have hk8 := hk9.symm
    subst hk8
    have hC := hC.out o_1567 ⟨_, ho9⟩
    obtain ⟨hr9, -, hc9, hd9⟩ := hP9
    obtain ⟨t2, t3, t4, -⟩ := hS.tri hc9 hd9
    have hg9 : g_trip s x (fun i => ro s i 3 + 180 - s 1) = (0, r9) := by rw [hr9, qa_trip_y hS hc9 hd9]; rw [← t3, ← hS.2.1.2.1]
    refine V_istore Y.1 (ls' := [(6, _), (5, _), (4, _), (3, _), (2, _), (1, _), (0, _)]) dL_law_1570 (rfl : _ = 1572) (by decide) rfl ?_
    refine V_aload_n Y.1 4 dL_law_1572 (rfl : _ = 1573) rfl rfl ?_
    refine V_aload_n Y.1 6 dL_law_1573 (rfl : _ = 1574) rfl rfl ?_
    refine V_iload Y.1 1 dL_law_1574 (rfl : _ = 1576) rfl ?_
    refine V_iconst Y.1 (v := 1) dL_law_1576 (rfl : _ = 1577) (by decide) ?_
    refine V_iadd Y.1 dL_law_1577 (rfl : _ = 1578) ?_
    refine V_nm (v := nI (3 * j + 1)) (nI_add _ 1) ?_
    refine V_sld Y.1 (v := x) hsa (vp_in_nI (by omega) (by omega)) (by rw [nI_clamp (by omega)]; exact hx) dL_law_1578 (rfl : _ = 1579) ?_
    refine V_cI Y (rV Y (c_X6_minutesLeft l D kA _ (a + 329) F s b v p uu tt cc n t x hC.2.1 hS.1) mi_X6_minutesLeft vi_L_244 rfl hC.2.1.1 rfl rfl (Nat.le_of_ble_eq_true rfl) ⟨Nat.le_of_ble_eq_true rfl, Nat.le_of_ble_eq_true rfl⟩ (by show _ ≤ 603072; omega) (by show _ ≤ 7194730; omega) dL_law_1579) (fun q z => Or.inr (by have z := z.1; have := hC.2.2.2.2.2.1; omega)) (rfl : _ = 1582) (fun v_1579 H1579_14 hq_1579 o_1579 => ?_)
    obtain ⟨hb2, hR2⟩ := hq_1579
    rw [hg9] at hb2 hR2
    have hb3 := hb2.symm
    subst hb3
    have ho9 := ho9.off o_1579 (fun e => by have := e.2; omega)
    have hC := hC.mod o_1579 hR2
    refine V_istore Y.1 (ls' := [(7, _), (6, _), (5, _), (4, _), (3, _), (2, _), (1, _), (0, _)]) dL_law_1582 (rfl : _ = 1584) (by decide) rfl ?_
    refine V_aload_n Y.1 5 dL_law_1584 (rfl : _ = 1585) rfl rfl ?_
    refine V_cP Y (rV Y (c_X6_thrown l D kA _ (a + 329) _ _ _ _ _ _ _ _ hC.2.1) mi_X6_thrown vi_L_159 rfl hC.2.1.1 rfl rfl (Nat.le_of_ble_eq_true rfl) ⟨Nat.le_of_ble_eq_true rfl, Nat.le_of_ble_eq_true rfl⟩ (by show _ ≤ 603072; omega) (by show _ ≤ 7194730; omega) dL_law_1585) (rfl : _ = 1588) ?_
    refine V_iload Y.1 1 dL_law_1588 (rfl : _ = 1590) rfl ?_
    refine V_icmp_eq Y.1 (tgt := 1595) dL_law_1590 (by decide) (rfl : _ = 1593) (fun _ => ?_) (fun c_n => absurd pk_us c_n)
    refine V_iload Y.1 1 dL_law_1595 (rfl : _ = 1597) rfl ?_
    refine V_if_ne Y.1 (tgt := 1612) dL_law_1597 (by decide) (rfl : _ = 1600) (fun c_n => absurd rfl c_n) (fun _ => ?_)
    refine V_aload_n Y.1 4 dL_law_1600 (rfl : _ = 1601) rfl rfl ?_
    refine V_iconst Y.1 (v := 0) dL_law_1601 (rfl : _ = 1602) (by decide) ?_
    refine V_lald Y.1 (v := r9.toInt64) ho9 (show ¬ ((0 : Int32) < 0 ∨ 1 ≤ (0 : Int32).toNatClampNeg) by decide) hw9 dL_law_1602 (rfl : _ = 1603) ?_
    refine V_iload Y.1 0 dL_law_1603 (rfl : _ = 1605) rfl ?_
    refine V_i2l Y.1 dL_law_1605 (rfl : _ = 1606) rfl ?_
    refine V_lcmp Y.1 dL_law_1606 (rfl : _ = 1607) ?_
    refine V_if_eq Y.1 (tgt := 1612) dL_law_1607 (by decide) (rfl : _ = 1610) (fun _ => ?_) (fun c_n => absurd (lg_self _) c_n)
    refine V_goto Y.1 (tgt := 2781) dL_law_1612 (by decide) ?_
    exact V_forget (ls' := [(5, _), (4, _), (3, _), (2, _), (1, _), (0, _)]) [2, 3, 4, 5, 6, 7] rfl (V_widen (by omega) (by omega) (kk _ ⟨_, _, _, _, _, _, _, _, _, _, _, _, _, _, _, _, _, _, _, _, _, _, _, hC, (hG.f6 _).more (by omega)⟩))
  · have hC := hC.out o_1567 ⟨_, ho9⟩
    rcases hX9 with ⟨rfl, hx9⟩ | ⟨rfl, hx9, hd9⟩
    · have hk7 : v_1567 = 1 := hk9.trans (by decide)
      have hk8 := hk7.symm
      subst hk8
      have hg9 : (g_trip s x (fun i => ro s i 3 + 180 - s 1)).1 = 1 := (qa_go hS).1 hx9
      refine V_istore Y.1 (ls' := [(6, _), (5, _), (4, _), (3, _), (2, _), (1, _), (0, _)]) dL_law_1570 (rfl : _ = 1572) (by decide) rfl ?_
      refine V_aload_n Y.1 4 dL_law_1572 (rfl : _ = 1573) rfl rfl ?_
      refine V_aload_n Y.1 6 dL_law_1573 (rfl : _ = 1574) rfl rfl ?_
      refine V_iload Y.1 1 dL_law_1574 (rfl : _ = 1576) rfl ?_
      refine V_iconst Y.1 (v := 1) dL_law_1576 (rfl : _ = 1577) (by decide) ?_
      refine V_iadd Y.1 dL_law_1577 (rfl : _ = 1578) ?_
      refine V_nm (v := nI (3 * j + 1)) (nI_add _ 1) ?_
      refine V_sld Y.1 (v := x) hsa (vp_in_nI (by omega) (by omega)) (by rw [nI_clamp (by omega)]; exact hx) dL_law_1578 (rfl : _ = 1579) ?_
      refine V_cI Y (rV Y (c_X6_minutesLeft l D kA _ (a + 329) F s b v p uu tt cc n t x hC.2.1 hS.1) mi_X6_minutesLeft vi_L_244 rfl hC.2.1.1 rfl rfl (Nat.le_of_ble_eq_true rfl) ⟨Nat.le_of_ble_eq_true rfl, Nat.le_of_ble_eq_true rfl⟩ (by show _ ≤ 603072; omega) (by show _ ≤ 7194730; omega) dL_law_1579) (fun q z => Or.inr (by have z := z.1; have := hC.2.2.2.2.2.1; omega)) (rfl : _ = 1582) (fun v_1579 H1579_12 hq_1579 o_1579 => ?_)
      obtain ⟨hb2, hR2⟩ := hq_1579
      rw [hg9] at hR2
      have hC := hC.mod o_1579 hR2
      refine V_istore Y.1 (ls' := [(7, _), (6, _), (5, _), (4, _), (3, _), (2, _), (1, _), (0, _)]) dL_law_1582 (rfl : _ = 1584) (by decide) rfl ?_
      refine V_aload_n Y.1 5 dL_law_1584 (rfl : _ = 1585) rfl rfl ?_
      refine V_cP Y (rV Y (c_X6_thrown l D kA _ (a + 329) _ _ _ _ _ _ _ _ hC.2.1) mi_X6_thrown vi_L_159 rfl hC.2.1.1 rfl rfl (Nat.le_of_ble_eq_true rfl) ⟨Nat.le_of_ble_eq_true rfl, Nat.le_of_ble_eq_true rfl⟩ (by show _ ≤ 603072; omega) (by show _ ≤ 7194730; omega) dL_law_1585) (rfl : _ = 1588) ?_
      refine V_iload Y.1 1 dL_law_1588 (rfl : _ = 1590) rfl ?_
      refine V_icmp_eq Y.1 (tgt := 1595) dL_law_1590 (by decide) (rfl : _ = 1593) (fun _ => ?_) (fun c_n => absurd pk_us c_n)
      refine V_iload Y.1 1 dL_law_1595 (rfl : _ = 1597) rfl ?_
      refine V_if_ne Y.1 (tgt := 1612) dL_law_1597 (by decide) (rfl : _ = 1600) (fun _ => ?_) (fun c_n => absurd c_n (by decide))
      refine V_goto Y.1 (tgt := 2781) dL_law_1612 (by decide) ?_
      exact V_forget (ls' := [(5, _), (4, _), (3, _), (2, _), (1, _), (0, _)]) [2, 3, 4, 5, 6, 7] rfl (V_widen (by omega) (by omega) (kk _ ⟨_, _, _, _, _, _, _, _, _, _, _, _, _, _, _, _, _, _, _, _, _, _, _, hC, (hG.f6 _).more (by omega)⟩))
    · have hk7 : v_1567 = 2 := hk9.trans (by decide)
      have hk8 := hk7.symm
      subst hk8
      have hg9 : (g_trip s x (fun i => ro s i 3 + 180 - s 1)).1 = 2 := (qa_go hS).2.1 hx9 hd9
      refine V_istore Y.1 (ls' := [(6, _), (5, _), (4, _), (3, _), (2, _), (1, _), (0, _)]) dL_law_1570 (rfl : _ = 1572) (by decide) rfl ?_
      refine V_aload_n Y.1 4 dL_law_1572 (rfl : _ = 1573) rfl rfl ?_
      refine V_aload_n Y.1 6 dL_law_1573 (rfl : _ = 1574) rfl rfl ?_
      refine V_iload Y.1 1 dL_law_1574 (rfl : _ = 1576) rfl ?_
      refine V_iconst Y.1 (v := 1) dL_law_1576 (rfl : _ = 1577) (by decide) ?_
      refine V_iadd Y.1 dL_law_1577 (rfl : _ = 1578) ?_
      refine V_nm (v := nI (3 * j + 1)) (nI_add _ 1) ?_
      refine V_sld Y.1 (v := x) hsa (vp_in_nI (by omega) (by omega)) (by rw [nI_clamp (by omega)]; exact hx) dL_law_1578 (rfl : _ = 1579) ?_
      refine V_cI Y (rV Y (c_X6_minutesLeft l D kA _ (a + 329) F s b v p uu tt cc n t x hC.2.1 hS.1) mi_X6_minutesLeft vi_L_244 rfl hC.2.1.1 rfl rfl (Nat.le_of_ble_eq_true rfl) ⟨Nat.le_of_ble_eq_true rfl, Nat.le_of_ble_eq_true rfl⟩ (by show _ ≤ 603072; omega) (by show _ ≤ 7194730; omega) dL_law_1579) (fun q z => Or.inr (by have z := z.1; have := hC.2.2.2.2.2.1; omega)) (rfl : _ = 1582) (fun v_1579 H1579_12 hq_1579 o_1579 => ?_)
      obtain ⟨hb2, hR2⟩ := hq_1579
      rw [hg9] at hR2
      have hC := hC.mod o_1579 hR2
      refine V_istore Y.1 (ls' := [(7, _), (6, _), (5, _), (4, _), (3, _), (2, _), (1, _), (0, _)]) dL_law_1582 (rfl : _ = 1584) (by decide) rfl ?_
      refine V_aload_n Y.1 5 dL_law_1584 (rfl : _ = 1585) rfl rfl ?_
      refine V_cP Y (rV Y (c_X6_thrown l D kA _ (a + 329) _ _ _ _ _ _ _ _ hC.2.1) mi_X6_thrown vi_L_159 rfl hC.2.1.1 rfl rfl (Nat.le_of_ble_eq_true rfl) ⟨Nat.le_of_ble_eq_true rfl, Nat.le_of_ble_eq_true rfl⟩ (by show _ ≤ 603072; omega) (by show _ ≤ 7194730; omega) dL_law_1585) (rfl : _ = 1588) ?_
      refine V_iload Y.1 1 dL_law_1588 (rfl : _ = 1590) rfl ?_
      refine V_icmp_eq Y.1 (tgt := 1595) dL_law_1590 (by decide) (rfl : _ = 1593) (fun _ => ?_) (fun c_n => absurd pk_us c_n)
      refine V_iload Y.1 1 dL_law_1595 (rfl : _ = 1597) rfl ?_
      refine V_if_ne Y.1 (tgt := 1612) dL_law_1597 (by decide) (rfl : _ = 1600) (fun _ => ?_) (fun c_n => absurd c_n (by decide))
      refine V_goto Y.1 (tgt := 2781) dL_law_1612 (by decide) ?_
      exact V_forget (ls' := [(5, _), (4, _), (3, _), (2, _), (1, _), (0, _)]) [2, 3, 4, 5, 6, 7] rfl (V_widen (by omega) (by omega) (kk _ ⟨_, _, _, _, _, _, _, _, _, _, _, _, _, _, _, _, _, _, _, _, _, _, _, hC, (hG.f6 _).more (by omega)⟩))

set_option maxRecDepth 100000 in
set_option maxHeartbeats 4000000 in
theorem lc_26 (l : Launch) (D : va_G) (kA : Nat → ClassId) (Hs : Heap) (σ : SG) (hnt : l.stackTraces = false) {Pp : Program} {Ee : Env} {Ss : State} {Mm : MethodId} {Ar : Array Value} {Bl : List Frame} {Me : Method} {Cc : Code} {Q : State → Prop} (Z : Ys Pp Ss Mm Ar Me Cc cL_law 9 (some .boolean) "MetroFaresLaw" D kA (AA Hs nof) Hs σ) (sa N : Nat) (f : Nat → Int32) (hsa : va_X sa N f Ss Ss.heap ∧ sa < Ss.heap.size ∧ ¬ AA Hs nof sa) (hN : N ≤ 1536) (a j : Nat) (hj : 3 * j + 3 ≤ N) (H : Heap) (hI : Inv D kA Hs a H (61 * j)) (kk : ∀ H1, Inv D kA Hs a H1 (61 * (j + 1)) → V Pp l Ee (rmO 2048 94400 603072 7194730) Ss Mm Ar Bl Me Cc 9 (AA Hs nof) Q H1 (400 + 200 * (j + 1)) (6000 + 400 * (j + 1)) 2781 [(5, .int (nI (3 * j))), (4, .ref (a + 338)), (3, .ref (a + 337)), (2, .ref (a + 329)), (1, .ref a), (0, .ref sa)] []) : V Pp l Ee (rmO 2048 94400 603072 7194730) Ss Mm Ar Bl Me Cc 9 (AA Hs nof) Q H (400 + 200 * (j)) (6000 + 400 * (j)) 1615 [(5, .int (nI (3 * j))), (4, .ref (a + 338)), (3, .ref (a + 337)), (2, .ref (a + 329)), (1, .ref a), (0, .ref sa)] [] := by
  obtain ⟨W, π, ES, u, hs, ep, fc, no, go, vs, cs, ns, gs, F, s, b, v, p, uu, tt, cc, n, t, hC, hG⟩ := hI
  have Y := Z.1
  have hS := hG.1.1.1
  have hM9 := hG.1.1
  have hjq : j ≤ 512 := by omega
  have hu8 := hC.1.2.2.2.2.2.2.2.1
  obtain ⟨w1, ho1⟩ := hC.2.2.1
  obtain ⟨x, hx⟩ : ∃ x, f (3 * j + 1) = x := ⟨_, rfl⟩
  obtain ⟨y, hy⟩ : ∃ y, f (3 * j + 2) = y := ⟨_, rfl⟩
  refine V_aload_n Y.1 4 dL_law_1615 (rfl : _ = 1616) rfl rfl ?_
  refine V_aload_n Y.1 5 dL_law_1616 (rfl : _ = 1617) rfl rfl ?_
  refine V_iload Y.1 0 dL_law_1617 (rfl : _ = 1619) rfl ?_
  refine V_iconst Y.1 (v := 1) dL_law_1619 (rfl : _ = 1620) (by decide) ?_
  refine V_iadd Y.1 dL_law_1620 (rfl : _ = 1621) ?_
  refine V_nm (v := nI (3 * j + 1)) (nI_add _ 1) ?_
  refine V_sld Y.1 (v := x) hsa (vp_in_nI (by omega) (by omega)) (by rw [nI_clamp (by omega)]; exact hx) dL_law_1621 (rfl : _ = 1622) ?_
  refine V_aload_n Y.1 5 dL_law_1622 (rfl : _ = 1623) rfl rfl ?_
  refine V_iload Y.1 0 dL_law_1623 (rfl : _ = 1625) rfl ?_
  refine V_iconst Y.1 (v := 2) dL_law_1625 (rfl : _ = 1626) (by decide) ?_
  refine V_iadd Y.1 dL_law_1626 (rfl : _ = 1627) ?_
  refine V_nm (v := nI (3 * j + 2)) (nI_add _ 2) ?_
  refine V_sld Y.1 (v := y) hsa (vp_in_nI (by omega) (by omega)) (by rw [nI_clamp (by omega)]; exact hy) dL_law_1627 (rfl : _ = 1628) ?_
  refine V_aload_n Y.1 2 dL_law_1628 (rfl : _ = 1629) rfl rfl ?_
  refine V_cI Y (sW Z (c_L_wouldContinue l D kA Hs σ _ hC.2.2.2.2.1 a W π ES u hs ep fc no go vs cs ns gs x y (a + 337) w1 hC.1 hnt ho1 (by omega) (by have := hC.2.2.2.2.2.2.2; omega) (by have := hC.2.2.2.2.2.1; omega)) mh_L_wouldContinue si_L_245 rfl rfl (Nat.le_of_ble_eq_true rfl) ⟨Nat.le_of_ble_eq_true rfl, Nat.le_of_ble_eq_true rfl⟩ (by show _ ≤ 603072; omega) (by show _ ≤ 7194730; omega) dL_law_1629) (fun q z => Or.inr (by have z : q = a + 337 := z; have h9 := hC.2.2.2.2.1.1; have := hC.2.2.2.2.2.1; omega)) (rfl : _ = 1632) (fun v_1629 H1629_14 hq_1629 o_1629 => ?_)
  rcases hq_1629 with ⟨hk9, r9, H9, w9, hP9, hst9, ho9, hw9⟩ | ⟨E9, hX9, hk9, ho9⟩
  · have hk8 := hk9.symm
    subst hk8
    have hC := hC.out o_1629 ⟨_, ho9⟩
    obtain ⟨hr9, -, hc9, hd9⟩ := hP9
    have hg9 : g_would s x y = (0, r9) := by rw [hr9]; exact qa_would_y hS hc9 hd9
    refine V_istore Y.1 (ls' := [(6, _), (5, _), (4, _), (3, _), (2, _), (1, _), (0, _)]) dL_law_1632 (rfl : _ = 1634) (by decide) rfl ?_
    refine V_aload_n Y.1 4 dL_law_1634 (rfl : _ = 1635) rfl rfl ?_
    refine V_aload_n Y.1 6 dL_law_1635 (rfl : _ = 1636) rfl rfl ?_
    refine V_iload Y.1 1 dL_law_1636 (rfl : _ = 1638) rfl ?_
    refine V_iconst Y.1 (v := 1) dL_law_1638 (rfl : _ = 1639) (by decide) ?_
    refine V_iadd Y.1 dL_law_1639 (rfl : _ = 1640) ?_
    refine V_nm (v := nI (3 * j + 1)) (nI_add _ 1) ?_
    refine V_sld Y.1 (v := x) hsa (vp_in_nI (by omega) (by omega)) (by rw [nI_clamp (by omega)]; exact hx) dL_law_1640 (rfl : _ = 1641) ?_
    refine V_aload_n Y.1 6 dL_law_1641 (rfl : _ = 1642) rfl rfl ?_
    refine V_iload Y.1 1 dL_law_1642 (rfl : _ = 1644) rfl ?_
    refine V_iconst Y.1 (v := 2) dL_law_1644 (rfl : _ = 1645) (by decide) ?_
    refine V_iadd Y.1 dL_law_1645 (rfl : _ = 1646) ?_
    refine V_nm (v := nI (3 * j + 2)) (nI_add _ 2) ?_
    refine V_sld Y.1 (v := y) hsa (vp_in_nI (by omega) (by omega)) (by rw [nI_clamp (by omega)]; exact hy) dL_law_1646 (rfl : _ = 1647) ?_
    refine V_cI Y (rV Y (c_X6_wouldContinue l D kA _ (a + 329) F s b v p uu tt cc n t x y hC.2.1 hS.1) mi_X6_wouldContinue vi_L_247 rfl hC.2.1.1 rfl rfl (Nat.le_of_ble_eq_true rfl) ⟨Nat.le_of_ble_eq_true rfl, Nat.le_of_ble_eq_true rfl⟩ (by show _ ≤ 603072; omega) (by show _ ≤ 7194730; omega) dL_law_1647) (fun q z => Or.inr (by have z := z.1; have := hC.2.2.2.2.2.1; omega)) (rfl : _ = 1650) (fun v_1647 H1647_19 hq_1647 o_1647 => ?_)
    obtain ⟨hb2, hR2⟩ := hq_1647
    rw [hg9] at hb2 hR2
    have hb3 := hb2.symm
    subst hb3
    have ho9 := ho9.off o_1647 (fun e => by have := e.2; omega)
    have hC := hC.mod o_1647 hR2
    refine V_istore Y.1 (ls' := [(7, _), (6, _), (5, _), (4, _), (3, _), (2, _), (1, _), (0, _)]) dL_law_1650 (rfl : _ = 1652) (by decide) rfl ?_
    refine V_aload_n Y.1 5 dL_law_1652 (rfl : _ = 1653) rfl rfl ?_
    refine V_cP Y (rV Y (c_X6_thrown l D kA _ (a + 329) _ _ _ _ _ _ _ _ hC.2.1) mi_X6_thrown vi_L_159 rfl hC.2.1.1 rfl rfl (Nat.le_of_ble_eq_true rfl) ⟨Nat.le_of_ble_eq_true rfl, Nat.le_of_ble_eq_true rfl⟩ (by show _ ≤ 603072; omega) (by show _ ≤ 7194730; omega) dL_law_1653) (rfl : _ = 1656) ?_
    refine V_iload Y.1 1 dL_law_1656 (rfl : _ = 1658) rfl ?_
    refine V_icmp_eq Y.1 (tgt := 1663) dL_law_1658 (by decide) (rfl : _ = 1661) (fun _ => ?_) (fun c_n => absurd pk_us c_n)
    refine V_iload Y.1 1 dL_law_1663 (rfl : _ = 1665) rfl ?_
    refine V_if_ne Y.1 (tgt := 1687) dL_law_1665 (by decide) (rfl : _ = 1668) (fun c_n => absurd rfl c_n) (fun _ => ?_)
    refine V_aload_n Y.1 4 dL_law_1668 (rfl : _ = 1669) rfl rfl ?_
    refine V_iconst Y.1 (v := 0) dL_law_1669 (rfl : _ = 1670) (by decide) ?_
    refine V_lald Y.1 (v := (if r9 = 0 then 0 else 1)) ho9 (show ¬ ((0 : Int32) < 0 ∨ 1 ≤ (0 : Int32).toNatClampNeg) by decide) hw9 dL_law_1670 (rfl : _ = 1671) ?_
    refine V_iload Y.1 0 dL_law_1671 (rfl : _ = 1673) rfl ?_
    refine V_if_eq Y.1 (tgt := 1680) dL_law_1673 (by decide) (rfl : _ = 1676) (fun c_1673 => ?_) (fun c_1673 => ?_)
    · refine V_lconst Y.1 (v := 0) dL_law_1680 (rfl : _ = 1681) (by decide) ?_
      refine V_lcmp Y.1 dL_law_1681 (rfl : _ = 1682) ?_
      refine V_if_eq Y.1 (tgt := 1687) dL_law_1682 (by decide) (rfl : _ = 1685) (fun _ => ?_) (fun c_n => absurd (by rw [if_pos c_1673]; exact lg_self _) c_n)
      refine V_goto Y.1 (tgt := 2781) dL_law_1687 (by decide) ?_
      exact V_forget (ls' := [(5, _), (4, _), (3, _), (2, _), (1, _), (0, _)]) [2, 3, 4, 5, 6, 7] rfl (V_widen (by omega) (by omega) (kk _ ⟨_, _, _, _, _, _, _, _, _, _, _, _, _, _, _, _, _, _, _, _, _, _, _, hC, (hG.f6 _).more (by omega)⟩))
    · refine V_lconst Y.1 (v := 1) dL_law_1676 (rfl : _ = 1677) (by decide) ?_
      refine V_goto Y.1 (tgt := 1681) dL_law_1677 (by decide) ?_
      refine V_lcmp Y.1 dL_law_1681 (rfl : _ = 1682) ?_
      refine V_if_eq Y.1 (tgt := 1687) dL_law_1682 (by decide) (rfl : _ = 1685) (fun _ => ?_) (fun c_n => absurd (by rw [if_neg c_1673]; exact lg_self _) c_n)
      refine V_goto Y.1 (tgt := 2781) dL_law_1687 (by decide) ?_
      exact V_forget (ls' := [(5, _), (4, _), (3, _), (2, _), (1, _), (0, _)]) [2, 3, 4, 5, 6, 7] rfl (V_widen (by omega) (by omega) (kk _ ⟨_, _, _, _, _, _, _, _, _, _, _, _, _, _, _, _, _, _, _, _, _, _, _, hC, (hG.f6 _).more (by omega)⟩))
  · have hC := hC.out o_1629 ⟨_, ho9⟩
    obtain ⟨rfl, hx9⟩ := hX9
    have hk7 : v_1629 = 1 := hk9
    have hk8 := hk7.symm
    subst hk8
    have hg9 : (g_would s x y).1 = 1 := qa_would_n hS hx9
    refine V_istore Y.1 (ls' := [(6, _), (5, _), (4, _), (3, _), (2, _), (1, _), (0, _)]) dL_law_1632 (rfl : _ = 1634) (by decide) rfl ?_
    refine V_aload_n Y.1 4 dL_law_1634 (rfl : _ = 1635) rfl rfl ?_
    refine V_aload_n Y.1 6 dL_law_1635 (rfl : _ = 1636) rfl rfl ?_
    refine V_iload Y.1 1 dL_law_1636 (rfl : _ = 1638) rfl ?_
    refine V_iconst Y.1 (v := 1) dL_law_1638 (rfl : _ = 1639) (by decide) ?_
    refine V_iadd Y.1 dL_law_1639 (rfl : _ = 1640) ?_
    refine V_nm (v := nI (3 * j + 1)) (nI_add _ 1) ?_
    refine V_sld Y.1 (v := x) hsa (vp_in_nI (by omega) (by omega)) (by rw [nI_clamp (by omega)]; exact hx) dL_law_1640 (rfl : _ = 1641) ?_
    refine V_aload_n Y.1 6 dL_law_1641 (rfl : _ = 1642) rfl rfl ?_
    refine V_iload Y.1 1 dL_law_1642 (rfl : _ = 1644) rfl ?_
    refine V_iconst Y.1 (v := 2) dL_law_1644 (rfl : _ = 1645) (by decide) ?_
    refine V_iadd Y.1 dL_law_1645 (rfl : _ = 1646) ?_
    refine V_nm (v := nI (3 * j + 2)) (nI_add _ 2) ?_
    refine V_sld Y.1 (v := y) hsa (vp_in_nI (by omega) (by omega)) (by rw [nI_clamp (by omega)]; exact hy) dL_law_1646 (rfl : _ = 1647) ?_
    refine V_cI Y (rV Y (c_X6_wouldContinue l D kA _ (a + 329) F s b v p uu tt cc n t x y hC.2.1 hS.1) mi_X6_wouldContinue vi_L_247 rfl hC.2.1.1 rfl rfl (Nat.le_of_ble_eq_true rfl) ⟨Nat.le_of_ble_eq_true rfl, Nat.le_of_ble_eq_true rfl⟩ (by show _ ≤ 603072; omega) (by show _ ≤ 7194730; omega) dL_law_1647) (fun q z => Or.inr (by have z := z.1; have := hC.2.2.2.2.2.1; omega)) (rfl : _ = 1650) (fun v_1647 H1647_18 hq_1647 o_1647 => ?_)
    obtain ⟨hb2, hR2⟩ := hq_1647
    rw [hg9] at hR2
    have hC := hC.mod o_1647 hR2
    refine V_istore Y.1 (ls' := [(7, _), (6, _), (5, _), (4, _), (3, _), (2, _), (1, _), (0, _)]) dL_law_1650 (rfl : _ = 1652) (by decide) rfl ?_
    refine V_aload_n Y.1 5 dL_law_1652 (rfl : _ = 1653) rfl rfl ?_
    refine V_cP Y (rV Y (c_X6_thrown l D kA _ (a + 329) _ _ _ _ _ _ _ _ hC.2.1) mi_X6_thrown vi_L_159 rfl hC.2.1.1 rfl rfl (Nat.le_of_ble_eq_true rfl) ⟨Nat.le_of_ble_eq_true rfl, Nat.le_of_ble_eq_true rfl⟩ (by show _ ≤ 603072; omega) (by show _ ≤ 7194730; omega) dL_law_1653) (rfl : _ = 1656) ?_
    refine V_iload Y.1 1 dL_law_1656 (rfl : _ = 1658) rfl ?_
    refine V_icmp_eq Y.1 (tgt := 1663) dL_law_1658 (by decide) (rfl : _ = 1661) (fun _ => ?_) (fun c_n => absurd pk_us c_n)
    refine V_iload Y.1 1 dL_law_1663 (rfl : _ = 1665) rfl ?_
    refine V_if_ne Y.1 (tgt := 1687) dL_law_1665 (by decide) (rfl : _ = 1668) (fun _ => ?_) (fun c_n => absurd c_n (by decide))
    refine V_goto Y.1 (tgt := 2781) dL_law_1687 (by decide) ?_
    exact V_forget (ls' := [(5, _), (4, _), (3, _), (2, _), (1, _), (0, _)]) [2, 3, 4, 5, 6, 7] rfl (V_widen (by omega) (by omega) (kk _ ⟨_, _, _, _, _, _, _, _, _, _, _, _, _, _, _, _, _, _, _, _, _, _, _, hC, (hG.f6 _).more (by omega)⟩))

set_option maxRecDepth 100000 in
set_option maxHeartbeats 4000000 in
theorem lc_27 (l : Launch) (D : va_G) (kA : Nat → ClassId) (Hs : Heap) (σ : SG) (hnt : l.stackTraces = false) {Pp : Program} {Ee : Env} {Ss : State} {Mm : MethodId} {Ar : Array Value} {Bl : List Frame} {Me : Method} {Cc : Code} {Q : State → Prop} (Z : Ys Pp Ss Mm Ar Me Cc cL_law 9 (some .boolean) "MetroFaresLaw" D kA (AA Hs nof) Hs σ) (sa N : Nat) (f : Nat → Int32) (hsa : va_X sa N f Ss Ss.heap ∧ sa < Ss.heap.size ∧ ¬ AA Hs nof sa) (hN : N ≤ 1536) (a j : Nat) (hj : 3 * j + 3 ≤ N) (H : Heap) (hI : Inv D kA Hs a H (61 * j)) (kk : ∀ H1, Inv D kA Hs a H1 (61 * (j + 1)) → V Pp l Ee (rmO 2048 94400 603072 7194730) Ss Mm Ar Bl Me Cc 9 (AA Hs nof) Q H1 (400 + 200 * (j + 1)) (6000 + 400 * (j + 1)) 2781 [(5, .int (nI (3 * j))), (4, .ref (a + 338)), (3, .ref (a + 337)), (2, .ref (a + 329)), (1, .ref a), (0, .ref sa)] []) : V Pp l Ee (rmO 2048 94400 603072 7194730) Ss Mm Ar Bl Me Cc 9 (AA Hs nof) Q H (400 + 200 * (j)) (6000 + 400 * (j)) 1690 [(5, .int (nI (3 * j))), (4, .ref (a + 338)), (3, .ref (a + 337)), (2, .ref (a + 329)), (1, .ref a), (0, .ref sa)] [] := by
  obtain ⟨W, π, ES, u, hs, ep, fc, no, go, vs, cs, ns, gs, F, s, b, v, p, uu, tt, cc, n, t, hC, hG⟩ := hI
  have Y := Z.1
  have hS := hG.1.1.1
  have hM9 := hG.1.1
  have hjq : j ≤ 512 := by omega
  have hu8 := hC.1.2.2.2.2.2.2.2.1
  obtain ⟨w1, ho1⟩ := hC.2.2.1
  obtain ⟨x, hx⟩ : ∃ x, f (3 * j + 1) = x := ⟨_, rfl⟩
  obtain ⟨y, hy⟩ : ∃ y, f (3 * j + 2) = y := ⟨_, rfl⟩
  refine V_aload_n Y.1 4 dL_law_1690 (rfl : _ = 1691) rfl rfl ?_
  refine V_aload_n Y.1 5 dL_law_1691 (rfl : _ = 1692) rfl rfl ?_
  refine V_iload Y.1 0 dL_law_1692 (rfl : _ = 1694) rfl ?_
  refine V_iconst Y.1 (v := 1) dL_law_1694 (rfl : _ = 1695) (by decide) ?_
  refine V_iadd Y.1 dL_law_1695 (rfl : _ = 1696) ?_
  refine V_nm (v := nI (3 * j + 1)) (nI_add _ 1) ?_
  refine V_sld Y.1 (v := x) hsa (vp_in_nI (by omega) (by omega)) (by rw [nI_clamp (by omega)]; exact hx) dL_law_1696 (rfl : _ = 1697) ?_
  refine V_aload_n Y.1 5 dL_law_1697 (rfl : _ = 1698) rfl rfl ?_
  refine V_iload Y.1 0 dL_law_1698 (rfl : _ = 1700) rfl ?_
  refine V_iconst Y.1 (v := 2) dL_law_1700 (rfl : _ = 1701) (by decide) ?_
  refine V_iadd Y.1 dL_law_1701 (rfl : _ = 1702) ?_
  refine V_nm (v := nI (3 * j + 2)) (nI_add _ 2) ?_
  refine V_sld Y.1 (v := y) hsa (vp_in_nI (by omega) (by omega)) (by rw [nI_clamp (by omega)]; exact hy) dL_law_1702 (rfl : _ = 1703) ?_
  refine V_aload_n Y.1 2 dL_law_1703 (rfl : _ = 1704) rfl rfl ?_
  refine V_cI Y (sW Z (c_L_chargeIfTappedOut l D kA Hs σ _ hC.2.2.2.2.1 a W π ES u hs ep fc no go vs cs ns gs x y (t / 1440) hS.day (by have := hS.t30; omega) (a + 337) w1 hC.1 hnt hM9.hjt5 ho1 (by omega) (by have := hC.2.2.2.2.2.2.2; omega) (by have := hC.2.2.2.2.2.1; omega)) mh_L_chargeIfTappedOut si_L_248 rfl rfl (Nat.le_of_ble_eq_true rfl) ⟨Nat.le_of_ble_eq_true rfl, Nat.le_of_ble_eq_true rfl⟩ (by show _ ≤ 603072; omega) (by show _ ≤ 7194730; omega) dL_law_1704) (fun q z => Or.inr (by have z : q = a + 337 := z; have h9 := hC.2.2.2.2.1.1; have := hC.2.2.2.2.2.1; omega)) (rfl : _ = 1707) (fun v_1704 H1704_14 hq_1704 o_1704 => ?_)
  rcases hq_1704 with ⟨hk9, r9, H9, w9, hP9, hst9, ho9, hw9⟩ | ⟨E9, hX9, hk9, ho9⟩
  · have hk8 := hk9.symm
    subst hk8
    have hC := hC.out o_1704 ⟨_, ho9⟩
    obtain ⟨hr9, -, hc9, hd9, he9⟩ := hP9
    have hg9 : g_ifOut s (t / 1440) x y = (0, r9) := by rw [hr9]; exact qa_ifOut_y hS hc9 hd9 he9
    refine V_istore Y.1 (ls' := [(6, _), (5, _), (4, _), (3, _), (2, _), (1, _), (0, _)]) dL_law_1707 (rfl : _ = 1709) (by decide) rfl ?_
    refine V_aload_n Y.1 4 dL_law_1709 (rfl : _ = 1710) rfl rfl ?_
    refine V_aload_n Y.1 6 dL_law_1710 (rfl : _ = 1711) rfl rfl ?_
    refine V_iload Y.1 1 dL_law_1711 (rfl : _ = 1713) rfl ?_
    refine V_iconst Y.1 (v := 1) dL_law_1713 (rfl : _ = 1714) (by decide) ?_
    refine V_iadd Y.1 dL_law_1714 (rfl : _ = 1715) ?_
    refine V_nm (v := nI (3 * j + 1)) (nI_add _ 1) ?_
    refine V_sld Y.1 (v := x) hsa (vp_in_nI (by omega) (by omega)) (by rw [nI_clamp (by omega)]; exact hx) dL_law_1715 (rfl : _ = 1716) ?_
    refine V_aload_n Y.1 6 dL_law_1716 (rfl : _ = 1717) rfl rfl ?_
    refine V_iload Y.1 1 dL_law_1717 (rfl : _ = 1719) rfl ?_
    refine V_iconst Y.1 (v := 2) dL_law_1719 (rfl : _ = 1720) (by decide) ?_
    refine V_iadd Y.1 dL_law_1720 (rfl : _ = 1721) ?_
    refine V_nm (v := nI (3 * j + 2)) (nI_add _ 2) ?_
    refine V_sld Y.1 (v := y) hsa (vp_in_nI (by omega) (by omega)) (by rw [nI_clamp (by omega)]; exact hy) dL_law_1721 (rfl : _ = 1722) ?_
    refine V_cI Y (rV Y (c_X6_chargeIfTappedOut l D kA _ (a + 329) F s b v p uu tt cc n t x y hC.2.1 hS.1) mi_X6_chargeIfTappedOut vi_L_250 rfl hC.2.1.1 rfl rfl (Nat.le_of_ble_eq_true rfl) ⟨Nat.le_of_ble_eq_true rfl, Nat.le_of_ble_eq_true rfl⟩ (by show _ ≤ 603072; omega) (by show _ ≤ 7194730; omega) dL_law_1722) (fun q z => Or.inr (by have z := z.1; have := hC.2.2.2.2.2.1; omega)) (rfl : _ = 1725) (fun v_1722 H1722_19 hq_1722 o_1722 => ?_)
    obtain ⟨hb2, hR2⟩ := hq_1722
    rw [hg9] at hb2 hR2
    have hb3 := hb2.symm
    subst hb3
    have ho9 := ho9.off o_1722 (fun e => by have := e.2; omega)
    have hC := hC.mod o_1722 hR2
    refine V_istore Y.1 (ls' := [(7, _), (6, _), (5, _), (4, _), (3, _), (2, _), (1, _), (0, _)]) dL_law_1725 (rfl : _ = 1727) (by decide) rfl ?_
    refine V_aload_n Y.1 5 dL_law_1727 (rfl : _ = 1728) rfl rfl ?_
    refine V_cP Y (rV Y (c_X6_thrown l D kA _ (a + 329) _ _ _ _ _ _ _ _ hC.2.1) mi_X6_thrown vi_L_159 rfl hC.2.1.1 rfl rfl (Nat.le_of_ble_eq_true rfl) ⟨Nat.le_of_ble_eq_true rfl, Nat.le_of_ble_eq_true rfl⟩ (by show _ ≤ 603072; omega) (by show _ ≤ 7194730; omega) dL_law_1728) (rfl : _ = 1731) ?_
    refine V_iload Y.1 1 dL_law_1731 (rfl : _ = 1733) rfl ?_
    refine V_icmp_eq Y.1 (tgt := 1738) dL_law_1733 (by decide) (rfl : _ = 1736) (fun _ => ?_) (fun c_n => absurd pk_us c_n)
    refine V_iload Y.1 1 dL_law_1738 (rfl : _ = 1740) rfl ?_
    refine V_if_ne Y.1 (tgt := 1755) dL_law_1740 (by decide) (rfl : _ = 1743) (fun c_n => absurd rfl c_n) (fun _ => ?_)
    refine V_aload_n Y.1 4 dL_law_1743 (rfl : _ = 1744) rfl rfl ?_
    refine V_iconst Y.1 (v := 0) dL_law_1744 (rfl : _ = 1745) (by decide) ?_
    refine V_lald Y.1 (v := r9.toInt64) ho9 (show ¬ ((0 : Int32) < 0 ∨ 1 ≤ (0 : Int32).toNatClampNeg) by decide) hw9 dL_law_1745 (rfl : _ = 1746) ?_
    refine V_iload Y.1 0 dL_law_1746 (rfl : _ = 1748) rfl ?_
    refine V_i2l Y.1 dL_law_1748 (rfl : _ = 1749) rfl ?_
    refine V_lcmp Y.1 dL_law_1749 (rfl : _ = 1750) ?_
    refine V_if_eq Y.1 (tgt := 1755) dL_law_1750 (by decide) (rfl : _ = 1753) (fun _ => ?_) (fun c_n => absurd (lg_self _) c_n)
    refine V_goto Y.1 (tgt := 2781) dL_law_1755 (by decide) ?_
    exact V_forget (ls' := [(5, _), (4, _), (3, _), (2, _), (1, _), (0, _)]) [2, 3, 4, 5, 6, 7] rfl (V_widen (by omega) (by omega) (kk _ ⟨_, _, _, _, _, _, _, _, _, _, _, _, _, _, _, _, _, _, _, _, _, _, _, hC, (hG.f6 _).more (by omega)⟩))
  · have hC := hC.out o_1704 ⟨_, ho9⟩
    rcases hX9 with ⟨rfl, hx9⟩ | ⟨rfl, hx9, hd9, he9⟩
    · have hk7 : v_1704 = 1 := hk9.trans (by decide)
      have hk8 := hk7.symm
      subst hk8
      have hg9 : (g_ifOut s (t / 1440) x y).1 = 1 := qa_ifOut_n hS hx9
      refine V_istore Y.1 (ls' := [(6, _), (5, _), (4, _), (3, _), (2, _), (1, _), (0, _)]) dL_law_1707 (rfl : _ = 1709) (by decide) rfl ?_
      refine V_aload_n Y.1 4 dL_law_1709 (rfl : _ = 1710) rfl rfl ?_
      refine V_aload_n Y.1 6 dL_law_1710 (rfl : _ = 1711) rfl rfl ?_
      refine V_iload Y.1 1 dL_law_1711 (rfl : _ = 1713) rfl ?_
      refine V_iconst Y.1 (v := 1) dL_law_1713 (rfl : _ = 1714) (by decide) ?_
      refine V_iadd Y.1 dL_law_1714 (rfl : _ = 1715) ?_
      refine V_nm (v := nI (3 * j + 1)) (nI_add _ 1) ?_
      refine V_sld Y.1 (v := x) hsa (vp_in_nI (by omega) (by omega)) (by rw [nI_clamp (by omega)]; exact hx) dL_law_1715 (rfl : _ = 1716) ?_
      refine V_aload_n Y.1 6 dL_law_1716 (rfl : _ = 1717) rfl rfl ?_
      refine V_iload Y.1 1 dL_law_1717 (rfl : _ = 1719) rfl ?_
      refine V_iconst Y.1 (v := 2) dL_law_1719 (rfl : _ = 1720) (by decide) ?_
      refine V_iadd Y.1 dL_law_1720 (rfl : _ = 1721) ?_
      refine V_nm (v := nI (3 * j + 2)) (nI_add _ 2) ?_
      refine V_sld Y.1 (v := y) hsa (vp_in_nI (by omega) (by omega)) (by rw [nI_clamp (by omega)]; exact hy) dL_law_1721 (rfl : _ = 1722) ?_
      refine V_cI Y (rV Y (c_X6_chargeIfTappedOut l D kA _ (a + 329) F s b v p uu tt cc n t x y hC.2.1 hS.1) mi_X6_chargeIfTappedOut vi_L_250 rfl hC.2.1.1 rfl rfl (Nat.le_of_ble_eq_true rfl) ⟨Nat.le_of_ble_eq_true rfl, Nat.le_of_ble_eq_true rfl⟩ (by show _ ≤ 603072; omega) (by show _ ≤ 7194730; omega) dL_law_1722) (fun q z => Or.inr (by have z := z.1; have := hC.2.2.2.2.2.1; omega)) (rfl : _ = 1725) (fun v_1722 H1722_18 hq_1722 o_1722 => ?_)
      obtain ⟨hb2, hR2⟩ := hq_1722
      rw [hg9] at hR2
      have hC := hC.mod o_1722 hR2
      refine V_istore Y.1 (ls' := [(7, _), (6, _), (5, _), (4, _), (3, _), (2, _), (1, _), (0, _)]) dL_law_1725 (rfl : _ = 1727) (by decide) rfl ?_
      refine V_aload_n Y.1 5 dL_law_1727 (rfl : _ = 1728) rfl rfl ?_
      refine V_cP Y (rV Y (c_X6_thrown l D kA _ (a + 329) _ _ _ _ _ _ _ _ hC.2.1) mi_X6_thrown vi_L_159 rfl hC.2.1.1 rfl rfl (Nat.le_of_ble_eq_true rfl) ⟨Nat.le_of_ble_eq_true rfl, Nat.le_of_ble_eq_true rfl⟩ (by show _ ≤ 603072; omega) (by show _ ≤ 7194730; omega) dL_law_1728) (rfl : _ = 1731) ?_
      refine V_iload Y.1 1 dL_law_1731 (rfl : _ = 1733) rfl ?_
      refine V_icmp_eq Y.1 (tgt := 1738) dL_law_1733 (by decide) (rfl : _ = 1736) (fun _ => ?_) (fun c_n => absurd pk_us c_n)
      refine V_iload Y.1 1 dL_law_1738 (rfl : _ = 1740) rfl ?_
      refine V_if_ne Y.1 (tgt := 1755) dL_law_1740 (by decide) (rfl : _ = 1743) (fun _ => ?_) (fun c_n => absurd c_n (by decide))
      refine V_goto Y.1 (tgt := 2781) dL_law_1755 (by decide) ?_
      exact V_forget (ls' := [(5, _), (4, _), (3, _), (2, _), (1, _), (0, _)]) [2, 3, 4, 5, 6, 7] rfl (V_widen (by omega) (by omega) (kk _ ⟨_, _, _, _, _, _, _, _, _, _, _, _, _, _, _, _, _, _, _, _, _, _, _, hC, (hG.f6 _).more (by omega)⟩))
    · have hk7 : v_1704 = 2 := hk9.trans (by decide)
      have hk8 := hk7.symm
      subst hk8
      have hg9 : (g_ifOut s (t / 1440) x y).1 = 2 := qa_ifOut_2 hS hx9 hd9 he9
      refine V_istore Y.1 (ls' := [(6, _), (5, _), (4, _), (3, _), (2, _), (1, _), (0, _)]) dL_law_1707 (rfl : _ = 1709) (by decide) rfl ?_
      refine V_aload_n Y.1 4 dL_law_1709 (rfl : _ = 1710) rfl rfl ?_
      refine V_aload_n Y.1 6 dL_law_1710 (rfl : _ = 1711) rfl rfl ?_
      refine V_iload Y.1 1 dL_law_1711 (rfl : _ = 1713) rfl ?_
      refine V_iconst Y.1 (v := 1) dL_law_1713 (rfl : _ = 1714) (by decide) ?_
      refine V_iadd Y.1 dL_law_1714 (rfl : _ = 1715) ?_
      refine V_nm (v := nI (3 * j + 1)) (nI_add _ 1) ?_
      refine V_sld Y.1 (v := x) hsa (vp_in_nI (by omega) (by omega)) (by rw [nI_clamp (by omega)]; exact hx) dL_law_1715 (rfl : _ = 1716) ?_
      refine V_aload_n Y.1 6 dL_law_1716 (rfl : _ = 1717) rfl rfl ?_
      refine V_iload Y.1 1 dL_law_1717 (rfl : _ = 1719) rfl ?_
      refine V_iconst Y.1 (v := 2) dL_law_1719 (rfl : _ = 1720) (by decide) ?_
      refine V_iadd Y.1 dL_law_1720 (rfl : _ = 1721) ?_
      refine V_nm (v := nI (3 * j + 2)) (nI_add _ 2) ?_
      refine V_sld Y.1 (v := y) hsa (vp_in_nI (by omega) (by omega)) (by rw [nI_clamp (by omega)]; exact hy) dL_law_1721 (rfl : _ = 1722) ?_
      refine V_cI Y (rV Y (c_X6_chargeIfTappedOut l D kA _ (a + 329) F s b v p uu tt cc n t x y hC.2.1 hS.1) mi_X6_chargeIfTappedOut vi_L_250 rfl hC.2.1.1 rfl rfl (Nat.le_of_ble_eq_true rfl) ⟨Nat.le_of_ble_eq_true rfl, Nat.le_of_ble_eq_true rfl⟩ (by show _ ≤ 603072; omega) (by show _ ≤ 7194730; omega) dL_law_1722) (fun q z => Or.inr (by have z := z.1; have := hC.2.2.2.2.2.1; omega)) (rfl : _ = 1725) (fun v_1722 H1722_18 hq_1722 o_1722 => ?_)
      obtain ⟨hb2, hR2⟩ := hq_1722
      rw [hg9] at hR2
      have hC := hC.mod o_1722 hR2
      refine V_istore Y.1 (ls' := [(7, _), (6, _), (5, _), (4, _), (3, _), (2, _), (1, _), (0, _)]) dL_law_1725 (rfl : _ = 1727) (by decide) rfl ?_
      refine V_aload_n Y.1 5 dL_law_1727 (rfl : _ = 1728) rfl rfl ?_
      refine V_cP Y (rV Y (c_X6_thrown l D kA _ (a + 329) _ _ _ _ _ _ _ _ hC.2.1) mi_X6_thrown vi_L_159 rfl hC.2.1.1 rfl rfl (Nat.le_of_ble_eq_true rfl) ⟨Nat.le_of_ble_eq_true rfl, Nat.le_of_ble_eq_true rfl⟩ (by show _ ≤ 603072; omega) (by show _ ≤ 7194730; omega) dL_law_1728) (rfl : _ = 1731) ?_
      refine V_iload Y.1 1 dL_law_1731 (rfl : _ = 1733) rfl ?_
      refine V_icmp_eq Y.1 (tgt := 1738) dL_law_1733 (by decide) (rfl : _ = 1736) (fun _ => ?_) (fun c_n => absurd pk_us c_n)
      refine V_iload Y.1 1 dL_law_1738 (rfl : _ = 1740) rfl ?_
      refine V_if_ne Y.1 (tgt := 1755) dL_law_1740 (by decide) (rfl : _ = 1743) (fun _ => ?_) (fun c_n => absurd c_n (by decide))
      refine V_goto Y.1 (tgt := 2781) dL_law_1755 (by decide) ?_
      exact V_forget (ls' := [(5, _), (4, _), (3, _), (2, _), (1, _), (0, _)]) [2, 3, 4, 5, 6, 7] rfl (V_widen (by omega) (by omega) (kk _ ⟨_, _, _, _, _, _, _, _, _, _, _, _, _, _, _, _, _, _, _, _, _, _, _, hC, (hG.f6 _).more (by omega)⟩))

set_option maxRecDepth 100000 in
set_option maxHeartbeats 4000000 in
theorem lc_28 (l : Launch) (D : va_G) (kA : Nat → ClassId) (Hs : Heap) (σ : SG) (hnt : l.stackTraces = false) {Pp : Program} {Ee : Env} {Ss : State} {Mm : MethodId} {Ar : Array Value} {Bl : List Frame} {Me : Method} {Cc : Code} {Q : State → Prop} (Z : Ys Pp Ss Mm Ar Me Cc cL_law 9 (some .boolean) "MetroFaresLaw" D kA (AA Hs nof) Hs σ) (sa N : Nat) (f : Nat → Int32) (hsa : va_X sa N f Ss Ss.heap ∧ sa < Ss.heap.size ∧ ¬ AA Hs nof sa) (hN : N ≤ 1536) (a j : Nat) (hj : 3 * j + 3 ≤ N) (H : Heap) (hI : Inv D kA Hs a H (61 * j)) (kk : ∀ H1, Inv D kA Hs a H1 (61 * (j + 1)) → V Pp l Ee (rmO 2048 94400 603072 7194730) Ss Mm Ar Bl Me Cc 9 (AA Hs nof) Q H1 (400 + 200 * (j + 1)) (6000 + 400 * (j + 1)) 2781 [(5, .int (nI (3 * j))), (4, .ref (a + 338)), (3, .ref (a + 337)), (2, .ref (a + 329)), (1, .ref a), (0, .ref sa)] []) : V Pp l Ee (rmO 2048 94400 603072 7194730) Ss Mm Ar Bl Me Cc 9 (AA Hs nof) Q H (400 + 200 * (j)) (6000 + 400 * (j)) 1758 [(5, .int (nI (3 * j))), (4, .ref (a + 338)), (3, .ref (a + 337)), (2, .ref (a + 329)), (1, .ref a), (0, .ref sa)] [] := by
  obtain ⟨W, π, ES, u, hs, ep, fc, no, go, vs, cs, ns, gs, F, s, b, v, p, uu, tt, cc, n, t, hC, hG⟩ := hI
  have Y := Z.1
  have hS := hG.1.1.1
  have hM9 := hG.1.1
  have hjq : j ≤ 512 := by omega
  have hu8 := hC.1.2.2.2.2.2.2.2.1
  obtain ⟨w1, ho1⟩ := hC.2.2.1
  obtain ⟨x, hx⟩ : ∃ x, f (3 * j + 1) = x := ⟨_, rfl⟩
  obtain ⟨y, hy⟩ : ∃ y, f (3 * j + 2) = y := ⟨_, rfl⟩
  refine V_aload_n Y.1 4 dL_law_1758 (rfl : _ = 1759) rfl rfl ?_
  refine V_aload_n Y.1 5 dL_law_1759 (rfl : _ = 1760) rfl rfl ?_
  refine V_iload Y.1 0 dL_law_1760 (rfl : _ = 1762) rfl ?_
  refine V_iconst Y.1 (v := 1) dL_law_1762 (rfl : _ = 1763) (by decide) ?_
  refine V_iadd Y.1 dL_law_1763 (rfl : _ = 1764) ?_
  refine V_nm (v := nI (3 * j + 1)) (nI_add _ 1) ?_
  refine V_sld Y.1 (v := x) hsa (vp_in_nI (by omega) (by omega)) (by rw [nI_clamp (by omega)]; exact hx) dL_law_1764 (rfl : _ = 1765) ?_
  refine V_aload_n Y.1 5 dL_law_1765 (rfl : _ = 1766) rfl rfl ?_
  refine V_iload Y.1 0 dL_law_1766 (rfl : _ = 1768) rfl ?_
  refine V_iconst Y.1 (v := 2) dL_law_1768 (rfl : _ = 1769) (by decide) ?_
  refine V_iadd Y.1 dL_law_1769 (rfl : _ = 1770) ?_
  refine V_nm (v := nI (3 * j + 2)) (nI_add _ 2) ?_
  refine V_sld Y.1 (v := y) hsa (vp_in_nI (by omega) (by omega)) (by rw [nI_clamp (by omega)]; exact hy) dL_law_1770 (rfl : _ = 1771) ?_
  refine V_aload_n Y.1 2 dL_law_1771 (rfl : _ = 1772) rfl rfl ?_
  refine V_cI Y (sW Z (c_L_chargedOn l D kA Hs σ _ hC.2.2.2.2.1 a W π ES u hs ep fc no go vs cs ns gs x y (t / 1440) hS.day (by have := hS.t30; omega) (a + 337) w1 hC.1 hnt ho1 (by omega) (by have := hC.2.2.2.2.2.2.2; omega) (by have := hC.2.2.2.2.2.1; omega)) mh_L_chargedOn si_L_251 rfl rfl (Nat.le_of_ble_eq_true rfl) ⟨Nat.le_of_ble_eq_true rfl, Nat.le_of_ble_eq_true rfl⟩ (by show _ ≤ 603072; omega) (by show _ ≤ 7194730; omega) dL_law_1772) (fun q z => Or.inr (by have z : q = a + 337 := z; have h9 := hC.2.2.2.2.1.1; have := hC.2.2.2.2.2.1; omega)) (rfl : _ = 1775) (fun v_1772 H1772_14 hq_1772 o_1772 => ?_)
  rcases hq_1772 with ⟨hk9, r9, H9, w9, hP9, hst9, ho9, hw9⟩ | ⟨E9, hX9, hk9, ho9⟩
  · have hk8 := hk9.symm
    subst hk8
    have hC := hC.out o_1772 ⟨_, ho9⟩
    obtain ⟨hr9, -, hc9, hd9⟩ := hP9
    have hg9 : g_on s (t / 1440) x y = (0, r9) := by rw [hr9]; exact (qa_on_y hS hc9 hd9).1
    refine V_istore Y.1 (ls' := [(6, _), (5, _), (4, _), (3, _), (2, _), (1, _), (0, _)]) dL_law_1775 (rfl : _ = 1777) (by decide) rfl ?_
    refine V_aload_n Y.1 4 dL_law_1777 (rfl : _ = 1778) rfl rfl ?_
    refine V_aload_n Y.1 6 dL_law_1778 (rfl : _ = 1779) rfl rfl ?_
    refine V_iload Y.1 1 dL_law_1779 (rfl : _ = 1781) rfl ?_
    refine V_iconst Y.1 (v := 1) dL_law_1781 (rfl : _ = 1782) (by decide) ?_
    refine V_iadd Y.1 dL_law_1782 (rfl : _ = 1783) ?_
    refine V_nm (v := nI (3 * j + 1)) (nI_add _ 1) ?_
    refine V_sld Y.1 (v := x) hsa (vp_in_nI (by omega) (by omega)) (by rw [nI_clamp (by omega)]; exact hx) dL_law_1783 (rfl : _ = 1784) ?_
    refine V_aload_n Y.1 6 dL_law_1784 (rfl : _ = 1785) rfl rfl ?_
    refine V_iload Y.1 1 dL_law_1785 (rfl : _ = 1787) rfl ?_
    refine V_iconst Y.1 (v := 2) dL_law_1787 (rfl : _ = 1788) (by decide) ?_
    refine V_iadd Y.1 dL_law_1788 (rfl : _ = 1789) ?_
    refine V_nm (v := nI (3 * j + 2)) (nI_add _ 2) ?_
    refine V_sld Y.1 (v := y) hsa (vp_in_nI (by omega) (by omega)) (by rw [nI_clamp (by omega)]; exact hy) dL_law_1789 (rfl : _ = 1790) ?_
    refine V_cI Y (rV Y (c_X6_chargedOn l D kA _ (a + 329) F s b v p uu tt cc n t x y hC.2.1 hS.1) mi_X6_chargedOn vi_L_253 rfl hC.2.1.1 rfl rfl (Nat.le_of_ble_eq_true rfl) ⟨Nat.le_of_ble_eq_true rfl, Nat.le_of_ble_eq_true rfl⟩ (by show _ ≤ 603072; omega) (by show _ ≤ 7194730; omega) dL_law_1790) (fun q z => Or.inr (by have z := z.1; have := hC.2.2.2.2.2.1; omega)) (rfl : _ = 1793) (fun v_1790 H1790_19 hq_1790 o_1790 => ?_)
    obtain ⟨hb2, hR2⟩ := hq_1790
    rw [hg9] at hb2 hR2
    have hb3 := hb2.symm
    subst hb3
    have ho9 := ho9.off o_1790 (fun e => by have := e.2; omega)
    have hC := hC.mod o_1790 hR2
    refine V_istore Y.1 (ls' := [(7, _), (6, _), (5, _), (4, _), (3, _), (2, _), (1, _), (0, _)]) dL_law_1793 (rfl : _ = 1795) (by decide) rfl ?_
    refine V_aload_n Y.1 5 dL_law_1795 (rfl : _ = 1796) rfl rfl ?_
    refine V_cP Y (rV Y (c_X6_thrown l D kA _ (a + 329) _ _ _ _ _ _ _ _ hC.2.1) mi_X6_thrown vi_L_159 rfl hC.2.1.1 rfl rfl (Nat.le_of_ble_eq_true rfl) ⟨Nat.le_of_ble_eq_true rfl, Nat.le_of_ble_eq_true rfl⟩ (by show _ ≤ 603072; omega) (by show _ ≤ 7194730; omega) dL_law_1796) (rfl : _ = 1799) ?_
    refine V_iload Y.1 1 dL_law_1799 (rfl : _ = 1801) rfl ?_
    refine V_icmp_eq Y.1 (tgt := 1806) dL_law_1801 (by decide) (rfl : _ = 1804) (fun _ => ?_) (fun c_n => absurd pk_us c_n)
    refine V_iload Y.1 1 dL_law_1806 (rfl : _ = 1808) rfl ?_
    refine V_if_ne Y.1 (tgt := 1823) dL_law_1808 (by decide) (rfl : _ = 1811) (fun c_n => absurd rfl c_n) (fun _ => ?_)
    refine V_aload_n Y.1 4 dL_law_1811 (rfl : _ = 1812) rfl rfl ?_
    refine V_iconst Y.1 (v := 0) dL_law_1812 (rfl : _ = 1813) (by decide) ?_
    refine V_lald Y.1 (v := r9.toInt64) ho9 (show ¬ ((0 : Int32) < 0 ∨ 1 ≤ (0 : Int32).toNatClampNeg) by decide) hw9 dL_law_1813 (rfl : _ = 1814) ?_
    refine V_iload Y.1 0 dL_law_1814 (rfl : _ = 1816) rfl ?_
    refine V_i2l Y.1 dL_law_1816 (rfl : _ = 1817) rfl ?_
    refine V_lcmp Y.1 dL_law_1817 (rfl : _ = 1818) ?_
    refine V_if_eq Y.1 (tgt := 1823) dL_law_1818 (by decide) (rfl : _ = 1821) (fun _ => ?_) (fun c_n => absurd (lg_self _) c_n)
    refine V_goto Y.1 (tgt := 2781) dL_law_1823 (by decide) ?_
    exact V_forget (ls' := [(5, _), (4, _), (3, _), (2, _), (1, _), (0, _)]) [2, 3, 4, 5, 6, 7] rfl (V_widen (by omega) (by omega) (kk _ ⟨_, _, _, _, _, _, _, _, _, _, _, _, _, _, _, _, _, _, _, _, _, _, _, hC, (hG.f6 _).more (by omega)⟩))
  · have hC := hC.out o_1772 ⟨_, ho9⟩
    rcases hX9 with ⟨rfl, hx9⟩ | ⟨rfl, hx9, hd9⟩
    · have hk7 : v_1772 = 1 := hk9.trans (by decide)
      have hk8 := hk7.symm
      subst hk8
      have hg9 : (g_on s (t / 1440) x y).1 = 1 := qa_on_1 hS hx9
      refine V_istore Y.1 (ls' := [(6, _), (5, _), (4, _), (3, _), (2, _), (1, _), (0, _)]) dL_law_1775 (rfl : _ = 1777) (by decide) rfl ?_
      refine V_aload_n Y.1 4 dL_law_1777 (rfl : _ = 1778) rfl rfl ?_
      refine V_aload_n Y.1 6 dL_law_1778 (rfl : _ = 1779) rfl rfl ?_
      refine V_iload Y.1 1 dL_law_1779 (rfl : _ = 1781) rfl ?_
      refine V_iconst Y.1 (v := 1) dL_law_1781 (rfl : _ = 1782) (by decide) ?_
      refine V_iadd Y.1 dL_law_1782 (rfl : _ = 1783) ?_
      refine V_nm (v := nI (3 * j + 1)) (nI_add _ 1) ?_
      refine V_sld Y.1 (v := x) hsa (vp_in_nI (by omega) (by omega)) (by rw [nI_clamp (by omega)]; exact hx) dL_law_1783 (rfl : _ = 1784) ?_
      refine V_aload_n Y.1 6 dL_law_1784 (rfl : _ = 1785) rfl rfl ?_
      refine V_iload Y.1 1 dL_law_1785 (rfl : _ = 1787) rfl ?_
      refine V_iconst Y.1 (v := 2) dL_law_1787 (rfl : _ = 1788) (by decide) ?_
      refine V_iadd Y.1 dL_law_1788 (rfl : _ = 1789) ?_
      refine V_nm (v := nI (3 * j + 2)) (nI_add _ 2) ?_
      refine V_sld Y.1 (v := y) hsa (vp_in_nI (by omega) (by omega)) (by rw [nI_clamp (by omega)]; exact hy) dL_law_1789 (rfl : _ = 1790) ?_
      refine V_cI Y (rV Y (c_X6_chargedOn l D kA _ (a + 329) F s b v p uu tt cc n t x y hC.2.1 hS.1) mi_X6_chargedOn vi_L_253 rfl hC.2.1.1 rfl rfl (Nat.le_of_ble_eq_true rfl) ⟨Nat.le_of_ble_eq_true rfl, Nat.le_of_ble_eq_true rfl⟩ (by show _ ≤ 603072; omega) (by show _ ≤ 7194730; omega) dL_law_1790) (fun q z => Or.inr (by have z := z.1; have := hC.2.2.2.2.2.1; omega)) (rfl : _ = 1793) (fun v_1790 H1790_18 hq_1790 o_1790 => ?_)
      obtain ⟨hb2, hR2⟩ := hq_1790
      rw [hg9] at hR2
      have hC := hC.mod o_1790 hR2
      refine V_istore Y.1 (ls' := [(7, _), (6, _), (5, _), (4, _), (3, _), (2, _), (1, _), (0, _)]) dL_law_1793 (rfl : _ = 1795) (by decide) rfl ?_
      refine V_aload_n Y.1 5 dL_law_1795 (rfl : _ = 1796) rfl rfl ?_
      refine V_cP Y (rV Y (c_X6_thrown l D kA _ (a + 329) _ _ _ _ _ _ _ _ hC.2.1) mi_X6_thrown vi_L_159 rfl hC.2.1.1 rfl rfl (Nat.le_of_ble_eq_true rfl) ⟨Nat.le_of_ble_eq_true rfl, Nat.le_of_ble_eq_true rfl⟩ (by show _ ≤ 603072; omega) (by show _ ≤ 7194730; omega) dL_law_1796) (rfl : _ = 1799) ?_
      refine V_iload Y.1 1 dL_law_1799 (rfl : _ = 1801) rfl ?_
      refine V_icmp_eq Y.1 (tgt := 1806) dL_law_1801 (by decide) (rfl : _ = 1804) (fun _ => ?_) (fun c_n => absurd pk_us c_n)
      refine V_iload Y.1 1 dL_law_1806 (rfl : _ = 1808) rfl ?_
      refine V_if_ne Y.1 (tgt := 1823) dL_law_1808 (by decide) (rfl : _ = 1811) (fun _ => ?_) (fun c_n => absurd c_n (by decide))
      refine V_goto Y.1 (tgt := 2781) dL_law_1823 (by decide) ?_
      exact V_forget (ls' := [(5, _), (4, _), (3, _), (2, _), (1, _), (0, _)]) [2, 3, 4, 5, 6, 7] rfl (V_widen (by omega) (by omega) (kk _ ⟨_, _, _, _, _, _, _, _, _, _, _, _, _, _, _, _, _, _, _, _, _, _, _, hC, (hG.f6 _).more (by omega)⟩))
    · have hk7 : v_1772 = 2 := hk9.trans (by decide)
      have hk8 := hk7.symm
      subst hk8
      have hg9 : (g_on s (t / 1440) x y).1 = 2 := qa_on_2 hS hx9 hd9
      refine V_istore Y.1 (ls' := [(6, _), (5, _), (4, _), (3, _), (2, _), (1, _), (0, _)]) dL_law_1775 (rfl : _ = 1777) (by decide) rfl ?_
      refine V_aload_n Y.1 4 dL_law_1777 (rfl : _ = 1778) rfl rfl ?_
      refine V_aload_n Y.1 6 dL_law_1778 (rfl : _ = 1779) rfl rfl ?_
      refine V_iload Y.1 1 dL_law_1779 (rfl : _ = 1781) rfl ?_
      refine V_iconst Y.1 (v := 1) dL_law_1781 (rfl : _ = 1782) (by decide) ?_
      refine V_iadd Y.1 dL_law_1782 (rfl : _ = 1783) ?_
      refine V_nm (v := nI (3 * j + 1)) (nI_add _ 1) ?_
      refine V_sld Y.1 (v := x) hsa (vp_in_nI (by omega) (by omega)) (by rw [nI_clamp (by omega)]; exact hx) dL_law_1783 (rfl : _ = 1784) ?_
      refine V_aload_n Y.1 6 dL_law_1784 (rfl : _ = 1785) rfl rfl ?_
      refine V_iload Y.1 1 dL_law_1785 (rfl : _ = 1787) rfl ?_
      refine V_iconst Y.1 (v := 2) dL_law_1787 (rfl : _ = 1788) (by decide) ?_
      refine V_iadd Y.1 dL_law_1788 (rfl : _ = 1789) ?_
      refine V_nm (v := nI (3 * j + 2)) (nI_add _ 2) ?_
      refine V_sld Y.1 (v := y) hsa (vp_in_nI (by omega) (by omega)) (by rw [nI_clamp (by omega)]; exact hy) dL_law_1789 (rfl : _ = 1790) ?_
      refine V_cI Y (rV Y (c_X6_chargedOn l D kA _ (a + 329) F s b v p uu tt cc n t x y hC.2.1 hS.1) mi_X6_chargedOn vi_L_253 rfl hC.2.1.1 rfl rfl (Nat.le_of_ble_eq_true rfl) ⟨Nat.le_of_ble_eq_true rfl, Nat.le_of_ble_eq_true rfl⟩ (by show _ ≤ 603072; omega) (by show _ ≤ 7194730; omega) dL_law_1790) (fun q z => Or.inr (by have z := z.1; have := hC.2.2.2.2.2.1; omega)) (rfl : _ = 1793) (fun v_1790 H1790_18 hq_1790 o_1790 => ?_)
      obtain ⟨hb2, hR2⟩ := hq_1790
      rw [hg9] at hR2
      have hC := hC.mod o_1790 hR2
      refine V_istore Y.1 (ls' := [(7, _), (6, _), (5, _), (4, _), (3, _), (2, _), (1, _), (0, _)]) dL_law_1793 (rfl : _ = 1795) (by decide) rfl ?_
      refine V_aload_n Y.1 5 dL_law_1795 (rfl : _ = 1796) rfl rfl ?_
      refine V_cP Y (rV Y (c_X6_thrown l D kA _ (a + 329) _ _ _ _ _ _ _ _ hC.2.1) mi_X6_thrown vi_L_159 rfl hC.2.1.1 rfl rfl (Nat.le_of_ble_eq_true rfl) ⟨Nat.le_of_ble_eq_true rfl, Nat.le_of_ble_eq_true rfl⟩ (by show _ ≤ 603072; omega) (by show _ ≤ 7194730; omega) dL_law_1796) (rfl : _ = 1799) ?_
      refine V_iload Y.1 1 dL_law_1799 (rfl : _ = 1801) rfl ?_
      refine V_icmp_eq Y.1 (tgt := 1806) dL_law_1801 (by decide) (rfl : _ = 1804) (fun _ => ?_) (fun c_n => absurd pk_us c_n)
      refine V_iload Y.1 1 dL_law_1806 (rfl : _ = 1808) rfl ?_
      refine V_if_ne Y.1 (tgt := 1823) dL_law_1808 (by decide) (rfl : _ = 1811) (fun _ => ?_) (fun c_n => absurd c_n (by decide))
      refine V_goto Y.1 (tgt := 2781) dL_law_1823 (by decide) ?_
      exact V_forget (ls' := [(5, _), (4, _), (3, _), (2, _), (1, _), (0, _)]) [2, 3, 4, 5, 6, 7] rfl (V_widen (by omega) (by omega) (kk _ ⟨_, _, _, _, _, _, _, _, _, _, _, _, _, _, _, _, _, _, _, _, _, _, _, hC, (hG.f6 _).more (by omega)⟩))

set_option maxRecDepth 100000 in
set_option maxHeartbeats 4000000 in
theorem lc_29 (l : Launch) (D : va_G) (kA : Nat → ClassId) (Hs : Heap) (σ : SG) (hnt : l.stackTraces = false) {Pp : Program} {Ee : Env} {Ss : State} {Mm : MethodId} {Ar : Array Value} {Bl : List Frame} {Me : Method} {Cc : Code} {Q : State → Prop} (Z : Ys Pp Ss Mm Ar Me Cc cL_law 9 (some .boolean) "MetroFaresLaw" D kA (AA Hs nof) Hs σ) (sa N : Nat) (f : Nat → Int32) (hsa : va_X sa N f Ss Ss.heap ∧ sa < Ss.heap.size ∧ ¬ AA Hs nof sa) (hN : N ≤ 1536) (a j : Nat) (hj : 3 * j + 3 ≤ N) (H : Heap) (hI : Inv D kA Hs a H (61 * j)) (kk : ∀ H1, Inv D kA Hs a H1 (61 * (j + 1)) → V Pp l Ee (rmO 2048 94400 603072 7194730) Ss Mm Ar Bl Me Cc 9 (AA Hs nof) Q H1 (400 + 200 * (j + 1)) (6000 + 400 * (j + 1)) 2781 [(5, .int (nI (3 * j))), (4, .ref (a + 338)), (3, .ref (a + 337)), (2, .ref (a + 329)), (1, .ref a), (0, .ref sa)] []) : V Pp l Ee (rmO 2048 94400 603072 7194730) Ss Mm Ar Bl Me Cc 9 (AA Hs nof) Q H (400 + 200 * (j)) (6000 + 400 * (j)) 1826 [(5, .int (nI (3 * j))), (4, .ref (a + 338)), (3, .ref (a + 337)), (2, .ref (a + 329)), (1, .ref a), (0, .ref sa)] [] := by
  obtain ⟨W, π, ES, u, hs, ep, fc, no, go, vs, cs, ns, gs, F, s, b, v, p, uu, tt, cc, n, t, hC, hG⟩ := hI
  have Y := Z.1
  have hS := hG.1.1.1
  have hM9 := hG.1.1
  have hjq : j ≤ 512 := by omega
  have hu8 := hC.1.2.2.2.2.2.2.2.1
  obtain ⟨w1, ho1⟩ := hC.2.2.1
  obtain ⟨x, hx⟩ : ∃ x, f (3 * j + 1) = x := ⟨_, rfl⟩
  obtain ⟨y, hy⟩ : ∃ y, f (3 * j + 2) = y := ⟨_, rfl⟩
  refine V_aload_n Y.1 4 dL_law_1826 (rfl : _ = 1827) rfl rfl ?_
  refine V_aload_n Y.1 5 dL_law_1827 (rfl : _ = 1828) rfl rfl ?_
  refine V_iload Y.1 0 dL_law_1828 (rfl : _ = 1830) rfl ?_
  refine V_iconst Y.1 (v := 1) dL_law_1830 (rfl : _ = 1831) (by decide) ?_
  refine V_iadd Y.1 dL_law_1831 (rfl : _ = 1832) ?_
  refine V_nm (v := nI (3 * j + 1)) (nI_add _ 1) ?_
  refine V_sld Y.1 (v := x) hsa (vp_in_nI (by omega) (by omega)) (by rw [nI_clamp (by omega)]; exact hx) dL_law_1832 (rfl : _ = 1833) ?_
  refine V_aload_n Y.1 5 dL_law_1833 (rfl : _ = 1834) rfl rfl ?_
  refine V_iload Y.1 0 dL_law_1834 (rfl : _ = 1836) rfl ?_
  refine V_iconst Y.1 (v := 2) dL_law_1836 (rfl : _ = 1837) (by decide) ?_
  refine V_iadd Y.1 dL_law_1837 (rfl : _ = 1838) ?_
  refine V_nm (v := nI (3 * j + 2)) (nI_add _ 2) ?_
  refine V_sld Y.1 (v := y) hsa (vp_in_nI (by omega) (by omega)) (by rw [nI_clamp (by omega)]; exact hy) dL_law_1838 (rfl : _ = 1839) ?_
  refine V_aload_n Y.1 2 dL_law_1839 (rfl : _ = 1840) rfl rfl ?_
  refine V_cI Y (sW Z (c_L_chargedOnByRecords l D kA Hs σ _ hC.2.2.2.2.1 a W π ES u hs ep fc no go vs cs ns gs x y (t / 1440) hS.day (by have := hS.t30; omega) (a + 337) w1 hC.1 hnt ho1 (by omega) (by have := hC.2.2.2.2.2.2.2; omega) (by have := hC.2.2.2.2.2.1; omega)) mh_L_chargedOnByRecords si_L_254 rfl rfl (Nat.le_of_ble_eq_true rfl) ⟨Nat.le_of_ble_eq_true rfl, Nat.le_of_ble_eq_true rfl⟩ (by show _ ≤ 603072; omega) (by show _ ≤ 7194730; omega) dL_law_1840) (fun q z => Or.inr (by have z : q = a + 337 := z; have h9 := hC.2.2.2.2.1.1; have := hC.2.2.2.2.2.1; omega)) (rfl : _ = 1843) (fun v_1840 H1840_14 hq_1840 o_1840 => ?_)
  rcases hq_1840 with ⟨hk9, r9, H9, w9, hP9, hst9, ho9, hw9⟩ | ⟨E9, hX9, hk9, ho9⟩
  · have hk8 := hk9.symm
    subst hk8
    have hC := hC.out o_1840 ⟨_, ho9⟩
    obtain ⟨hr9, -, hc9, hd9⟩ := hP9
    have hg9 : g_on s (t / 1440) x y = (0, r9) := by rw [hr9, (qa_on_y hS hc9 hd9).2]; exact (qa_on_y hS hc9 hd9).1
    refine V_istore Y.1 (ls' := [(6, _), (5, _), (4, _), (3, _), (2, _), (1, _), (0, _)]) dL_law_1843 (rfl : _ = 1845) (by decide) rfl ?_
    refine V_aload_n Y.1 4 dL_law_1845 (rfl : _ = 1846) rfl rfl ?_
    refine V_aload_n Y.1 6 dL_law_1846 (rfl : _ = 1847) rfl rfl ?_
    refine V_iload Y.1 1 dL_law_1847 (rfl : _ = 1849) rfl ?_
    refine V_iconst Y.1 (v := 1) dL_law_1849 (rfl : _ = 1850) (by decide) ?_
    refine V_iadd Y.1 dL_law_1850 (rfl : _ = 1851) ?_
    refine V_nm (v := nI (3 * j + 1)) (nI_add _ 1) ?_
    refine V_sld Y.1 (v := x) hsa (vp_in_nI (by omega) (by omega)) (by rw [nI_clamp (by omega)]; exact hx) dL_law_1851 (rfl : _ = 1852) ?_
    refine V_aload_n Y.1 6 dL_law_1852 (rfl : _ = 1853) rfl rfl ?_
    refine V_iload Y.1 1 dL_law_1853 (rfl : _ = 1855) rfl ?_
    refine V_iconst Y.1 (v := 2) dL_law_1855 (rfl : _ = 1856) (by decide) ?_
    refine V_iadd Y.1 dL_law_1856 (rfl : _ = 1857) ?_
    refine V_nm (v := nI (3 * j + 2)) (nI_add _ 2) ?_
    refine V_sld Y.1 (v := y) hsa (vp_in_nI (by omega) (by omega)) (by rw [nI_clamp (by omega)]; exact hy) dL_law_1857 (rfl : _ = 1858) ?_
    refine V_cI Y (rV Y (c_X6_chargedOnByRecords l D kA _ (a + 329) F s b v p uu tt cc n t x y hC.2.1 hS.1) mi_X6_chargedOnByRecords vi_L_256 rfl hC.2.1.1 rfl rfl (Nat.le_of_ble_eq_true rfl) ⟨Nat.le_of_ble_eq_true rfl, Nat.le_of_ble_eq_true rfl⟩ (by show _ ≤ 603072; omega) (by show _ ≤ 7194730; omega) dL_law_1858) (fun q z => Or.inr (by have z := z.1; have := hC.2.2.2.2.2.1; omega)) (rfl : _ = 1861) (fun v_1858 H1858_19 hq_1858 o_1858 => ?_)
    obtain ⟨hb2, hR2⟩ := hq_1858
    rw [hg9] at hb2 hR2
    have hb3 := hb2.symm
    subst hb3
    have ho9 := ho9.off o_1858 (fun e => by have := e.2; omega)
    have hC := hC.mod o_1858 hR2
    refine V_istore Y.1 (ls' := [(7, _), (6, _), (5, _), (4, _), (3, _), (2, _), (1, _), (0, _)]) dL_law_1861 (rfl : _ = 1863) (by decide) rfl ?_
    refine V_aload_n Y.1 5 dL_law_1863 (rfl : _ = 1864) rfl rfl ?_
    refine V_cP Y (rV Y (c_X6_thrown l D kA _ (a + 329) _ _ _ _ _ _ _ _ hC.2.1) mi_X6_thrown vi_L_159 rfl hC.2.1.1 rfl rfl (Nat.le_of_ble_eq_true rfl) ⟨Nat.le_of_ble_eq_true rfl, Nat.le_of_ble_eq_true rfl⟩ (by show _ ≤ 603072; omega) (by show _ ≤ 7194730; omega) dL_law_1864) (rfl : _ = 1867) ?_
    refine V_iload Y.1 1 dL_law_1867 (rfl : _ = 1869) rfl ?_
    refine V_icmp_eq Y.1 (tgt := 1874) dL_law_1869 (by decide) (rfl : _ = 1872) (fun _ => ?_) (fun c_n => absurd pk_us c_n)
    refine V_iload Y.1 1 dL_law_1874 (rfl : _ = 1876) rfl ?_
    refine V_if_ne Y.1 (tgt := 1891) dL_law_1876 (by decide) (rfl : _ = 1879) (fun c_n => absurd rfl c_n) (fun _ => ?_)
    refine V_aload_n Y.1 4 dL_law_1879 (rfl : _ = 1880) rfl rfl ?_
    refine V_iconst Y.1 (v := 0) dL_law_1880 (rfl : _ = 1881) (by decide) ?_
    refine V_lald Y.1 (v := r9.toInt64) ho9 (show ¬ ((0 : Int32) < 0 ∨ 1 ≤ (0 : Int32).toNatClampNeg) by decide) hw9 dL_law_1881 (rfl : _ = 1882) ?_
    refine V_iload Y.1 0 dL_law_1882 (rfl : _ = 1884) rfl ?_
    refine V_i2l Y.1 dL_law_1884 (rfl : _ = 1885) rfl ?_
    refine V_lcmp Y.1 dL_law_1885 (rfl : _ = 1886) ?_
    refine V_if_eq Y.1 (tgt := 1891) dL_law_1886 (by decide) (rfl : _ = 1889) (fun _ => ?_) (fun c_n => absurd (lg_self _) c_n)
    refine V_goto Y.1 (tgt := 2781) dL_law_1891 (by decide) ?_
    exact V_forget (ls' := [(5, _), (4, _), (3, _), (2, _), (1, _), (0, _)]) [2, 3, 4, 5, 6, 7] rfl (V_widen (by omega) (by omega) (kk _ ⟨_, _, _, _, _, _, _, _, _, _, _, _, _, _, _, _, _, _, _, _, _, _, _, hC, (hG.f6 _).more (by omega)⟩))
  · have hC := hC.out o_1840 ⟨_, ho9⟩
    rcases hX9 with ⟨rfl, hx9⟩ | ⟨rfl, hx9, hd9⟩
    · have hk7 : v_1840 = 1 := hk9.trans (by decide)
      have hk8 := hk7.symm
      subst hk8
      have hg9 : (g_on s (t / 1440) x y).1 = 1 := qa_on_1 hS hx9
      refine V_istore Y.1 (ls' := [(6, _), (5, _), (4, _), (3, _), (2, _), (1, _), (0, _)]) dL_law_1843 (rfl : _ = 1845) (by decide) rfl ?_
      refine V_aload_n Y.1 4 dL_law_1845 (rfl : _ = 1846) rfl rfl ?_
      refine V_aload_n Y.1 6 dL_law_1846 (rfl : _ = 1847) rfl rfl ?_
      refine V_iload Y.1 1 dL_law_1847 (rfl : _ = 1849) rfl ?_
      refine V_iconst Y.1 (v := 1) dL_law_1849 (rfl : _ = 1850) (by decide) ?_
      refine V_iadd Y.1 dL_law_1850 (rfl : _ = 1851) ?_
      refine V_nm (v := nI (3 * j + 1)) (nI_add _ 1) ?_
      refine V_sld Y.1 (v := x) hsa (vp_in_nI (by omega) (by omega)) (by rw [nI_clamp (by omega)]; exact hx) dL_law_1851 (rfl : _ = 1852) ?_
      refine V_aload_n Y.1 6 dL_law_1852 (rfl : _ = 1853) rfl rfl ?_
      refine V_iload Y.1 1 dL_law_1853 (rfl : _ = 1855) rfl ?_
      refine V_iconst Y.1 (v := 2) dL_law_1855 (rfl : _ = 1856) (by decide) ?_
      refine V_iadd Y.1 dL_law_1856 (rfl : _ = 1857) ?_
      refine V_nm (v := nI (3 * j + 2)) (nI_add _ 2) ?_
      refine V_sld Y.1 (v := y) hsa (vp_in_nI (by omega) (by omega)) (by rw [nI_clamp (by omega)]; exact hy) dL_law_1857 (rfl : _ = 1858) ?_
      refine V_cI Y (rV Y (c_X6_chargedOnByRecords l D kA _ (a + 329) F s b v p uu tt cc n t x y hC.2.1 hS.1) mi_X6_chargedOnByRecords vi_L_256 rfl hC.2.1.1 rfl rfl (Nat.le_of_ble_eq_true rfl) ⟨Nat.le_of_ble_eq_true rfl, Nat.le_of_ble_eq_true rfl⟩ (by show _ ≤ 603072; omega) (by show _ ≤ 7194730; omega) dL_law_1858) (fun q z => Or.inr (by have z := z.1; have := hC.2.2.2.2.2.1; omega)) (rfl : _ = 1861) (fun v_1858 H1858_18 hq_1858 o_1858 => ?_)
      obtain ⟨hb2, hR2⟩ := hq_1858
      rw [hg9] at hR2
      have hC := hC.mod o_1858 hR2
      refine V_istore Y.1 (ls' := [(7, _), (6, _), (5, _), (4, _), (3, _), (2, _), (1, _), (0, _)]) dL_law_1861 (rfl : _ = 1863) (by decide) rfl ?_
      refine V_aload_n Y.1 5 dL_law_1863 (rfl : _ = 1864) rfl rfl ?_
      refine V_cP Y (rV Y (c_X6_thrown l D kA _ (a + 329) _ _ _ _ _ _ _ _ hC.2.1) mi_X6_thrown vi_L_159 rfl hC.2.1.1 rfl rfl (Nat.le_of_ble_eq_true rfl) ⟨Nat.le_of_ble_eq_true rfl, Nat.le_of_ble_eq_true rfl⟩ (by show _ ≤ 603072; omega) (by show _ ≤ 7194730; omega) dL_law_1864) (rfl : _ = 1867) ?_
      refine V_iload Y.1 1 dL_law_1867 (rfl : _ = 1869) rfl ?_
      refine V_icmp_eq Y.1 (tgt := 1874) dL_law_1869 (by decide) (rfl : _ = 1872) (fun _ => ?_) (fun c_n => absurd pk_us c_n)
      refine V_iload Y.1 1 dL_law_1874 (rfl : _ = 1876) rfl ?_
      refine V_if_ne Y.1 (tgt := 1891) dL_law_1876 (by decide) (rfl : _ = 1879) (fun _ => ?_) (fun c_n => absurd c_n (by decide))
      refine V_goto Y.1 (tgt := 2781) dL_law_1891 (by decide) ?_
      exact V_forget (ls' := [(5, _), (4, _), (3, _), (2, _), (1, _), (0, _)]) [2, 3, 4, 5, 6, 7] rfl (V_widen (by omega) (by omega) (kk _ ⟨_, _, _, _, _, _, _, _, _, _, _, _, _, _, _, _, _, _, _, _, _, _, _, hC, (hG.f6 _).more (by omega)⟩))
    · have hk7 : v_1840 = 2 := hk9.trans (by decide)
      have hk8 := hk7.symm
      subst hk8
      have hg9 : (g_on s (t / 1440) x y).1 = 2 := qa_on_2 hS hx9 hd9
      refine V_istore Y.1 (ls' := [(6, _), (5, _), (4, _), (3, _), (2, _), (1, _), (0, _)]) dL_law_1843 (rfl : _ = 1845) (by decide) rfl ?_
      refine V_aload_n Y.1 4 dL_law_1845 (rfl : _ = 1846) rfl rfl ?_
      refine V_aload_n Y.1 6 dL_law_1846 (rfl : _ = 1847) rfl rfl ?_
      refine V_iload Y.1 1 dL_law_1847 (rfl : _ = 1849) rfl ?_
      refine V_iconst Y.1 (v := 1) dL_law_1849 (rfl : _ = 1850) (by decide) ?_
      refine V_iadd Y.1 dL_law_1850 (rfl : _ = 1851) ?_
      refine V_nm (v := nI (3 * j + 1)) (nI_add _ 1) ?_
      refine V_sld Y.1 (v := x) hsa (vp_in_nI (by omega) (by omega)) (by rw [nI_clamp (by omega)]; exact hx) dL_law_1851 (rfl : _ = 1852) ?_
      refine V_aload_n Y.1 6 dL_law_1852 (rfl : _ = 1853) rfl rfl ?_
      refine V_iload Y.1 1 dL_law_1853 (rfl : _ = 1855) rfl ?_
      refine V_iconst Y.1 (v := 2) dL_law_1855 (rfl : _ = 1856) (by decide) ?_
      refine V_iadd Y.1 dL_law_1856 (rfl : _ = 1857) ?_
      refine V_nm (v := nI (3 * j + 2)) (nI_add _ 2) ?_
      refine V_sld Y.1 (v := y) hsa (vp_in_nI (by omega) (by omega)) (by rw [nI_clamp (by omega)]; exact hy) dL_law_1857 (rfl : _ = 1858) ?_
      refine V_cI Y (rV Y (c_X6_chargedOnByRecords l D kA _ (a + 329) F s b v p uu tt cc n t x y hC.2.1 hS.1) mi_X6_chargedOnByRecords vi_L_256 rfl hC.2.1.1 rfl rfl (Nat.le_of_ble_eq_true rfl) ⟨Nat.le_of_ble_eq_true rfl, Nat.le_of_ble_eq_true rfl⟩ (by show _ ≤ 603072; omega) (by show _ ≤ 7194730; omega) dL_law_1858) (fun q z => Or.inr (by have z := z.1; have := hC.2.2.2.2.2.1; omega)) (rfl : _ = 1861) (fun v_1858 H1858_18 hq_1858 o_1858 => ?_)
      obtain ⟨hb2, hR2⟩ := hq_1858
      rw [hg9] at hR2
      have hC := hC.mod o_1858 hR2
      refine V_istore Y.1 (ls' := [(7, _), (6, _), (5, _), (4, _), (3, _), (2, _), (1, _), (0, _)]) dL_law_1861 (rfl : _ = 1863) (by decide) rfl ?_
      refine V_aload_n Y.1 5 dL_law_1863 (rfl : _ = 1864) rfl rfl ?_
      refine V_cP Y (rV Y (c_X6_thrown l D kA _ (a + 329) _ _ _ _ _ _ _ _ hC.2.1) mi_X6_thrown vi_L_159 rfl hC.2.1.1 rfl rfl (Nat.le_of_ble_eq_true rfl) ⟨Nat.le_of_ble_eq_true rfl, Nat.le_of_ble_eq_true rfl⟩ (by show _ ≤ 603072; omega) (by show _ ≤ 7194730; omega) dL_law_1864) (rfl : _ = 1867) ?_
      refine V_iload Y.1 1 dL_law_1867 (rfl : _ = 1869) rfl ?_
      refine V_icmp_eq Y.1 (tgt := 1874) dL_law_1869 (by decide) (rfl : _ = 1872) (fun _ => ?_) (fun c_n => absurd pk_us c_n)
      refine V_iload Y.1 1 dL_law_1874 (rfl : _ = 1876) rfl ?_
      refine V_if_ne Y.1 (tgt := 1891) dL_law_1876 (by decide) (rfl : _ = 1879) (fun _ => ?_) (fun c_n => absurd c_n (by decide))
      refine V_goto Y.1 (tgt := 2781) dL_law_1891 (by decide) ?_
      exact V_forget (ls' := [(5, _), (4, _), (3, _), (2, _), (1, _), (0, _)]) [2, 3, 4, 5, 6, 7] rfl (V_widen (by omega) (by omega) (kk _ ⟨_, _, _, _, _, _, _, _, _, _, _, _, _, _, _, _, _, _, _, _, _, _, _, hC, (hG.f6 _).more (by omega)⟩))

set_option maxRecDepth 100000 in
set_option maxHeartbeats 4000000 in
theorem lc_32 (l : Launch) (D : va_G) (kA : Nat → ClassId) (Hs : Heap) (σ : SG) (hnt : l.stackTraces = false) {Pp : Program} {Ee : Env} {Ss : State} {Mm : MethodId} {Ar : Array Value} {Bl : List Frame} {Me : Method} {Cc : Code} {Q : State → Prop} (Z : Ys Pp Ss Mm Ar Me Cc cL_law 9 (some .boolean) "MetroFaresLaw" D kA (AA Hs nof) Hs σ) (sa N : Nat) (f : Nat → Int32) (hsa : va_X sa N f Ss Ss.heap ∧ sa < Ss.heap.size ∧ ¬ AA Hs nof sa) (hN : N ≤ 1536) (a j : Nat) (hj : 3 * j + 3 ≤ N) (H : Heap) (hI : Inv D kA Hs a H (61 * j)) (kk : ∀ H1, Inv D kA Hs a H1 (61 * (j + 1)) → V Pp l Ee (rmO 2048 94400 603072 7194730) Ss Mm Ar Bl Me Cc 9 (AA Hs nof) Q H1 (400 + 200 * (j + 1)) (6000 + 400 * (j + 1)) 2781 [(5, .int (nI (3 * j))), (4, .ref (a + 338)), (3, .ref (a + 337)), (2, .ref (a + 329)), (1, .ref a), (0, .ref sa)] []) : V Pp l Ee (rmO 2048 94400 603072 7194730) Ss Mm Ar Bl Me Cc 9 (AA Hs nof) Q H (400 + 200 * (j)) (6000 + 400 * (j)) 2013 [(5, .int (nI (3 * j))), (4, .ref (a + 338)), (3, .ref (a + 337)), (2, .ref (a + 329)), (1, .ref a), (0, .ref sa)] [] := by
  obtain ⟨W, π, ES, u, hs, ep, fc, no, go, vs, cs, ns, gs, F, s, b, v, p, uu, tt, cc, n, t, hC, hG⟩ := hI
  have Y := Z.1
  have hS := hG.1.1.1
  have hM9 := hG.1.1
  have hjq : j ≤ 512 := by omega
  have hu8 := hC.1.2.2.2.2.2.2.2.1
  obtain ⟨w1, ho1⟩ := hC.2.2.1
  obtain ⟨x, hx⟩ : ∃ x, f (3 * j + 1) = x := ⟨_, rfl⟩
  obtain ⟨y, hy⟩ : ∃ y, f (3 * j + 2) = y := ⟨_, rfl⟩
  refine V_aload_n Y.1 4 dL_law_2013 (rfl : _ = 2014) rfl rfl ?_
  refine V_aload_n Y.1 5 dL_law_2014 (rfl : _ = 2015) rfl rfl ?_
  refine V_iload Y.1 0 dL_law_2015 (rfl : _ = 2017) rfl ?_
  refine V_iconst Y.1 (v := 1) dL_law_2017 (rfl : _ = 2018) (by decide) ?_
  refine V_iadd Y.1 dL_law_2018 (rfl : _ = 2019) ?_
  refine V_nm (v := nI (3 * j + 1)) (nI_add _ 1) ?_
  refine V_sld Y.1 (v := x) hsa (vp_in_nI (by omega) (by omega)) (by rw [nI_clamp (by omega)]; exact hx) dL_law_2019 (rfl : _ = 2020) ?_
  refine V_aload_n Y.1 2 dL_law_2020 (rfl : _ = 2021) rfl rfl ?_
  refine V_cI Y (sW Z (c_L_cardBySpending l D kA Hs σ _ hC.2.2.2.2.1 a W π ES u hs ep fc no go vs cs ns gs x n (hS.2.1.1.trans hS.1.1) hS.1.2.1 (t / 1440) hS.day (by have := hS.t30; omega) (a + 337) w1 hC.1 hnt ho1 (by omega) (by have := hC.2.2.2.2.2.2.2; omega) (by have := hC.2.2.2.2.2.1; omega)) mh_L_cardBySpending si_L_263 rfl rfl (Nat.le_of_ble_eq_true rfl) ⟨Nat.le_of_ble_eq_true rfl, Nat.le_of_ble_eq_true rfl⟩ (by show _ ≤ 603072; omega) (by show _ ≤ 7194730; omega) dL_law_2021) (fun q z => Or.inr (by have z : q = a + 337 := z; have h9 := hC.2.2.2.2.1.1; have := hC.2.2.2.2.2.1; omega)) (rfl : _ = 2024) (fun v_2021 H2021_8 hq_2021 o_2021 => ?_)
  rcases hq_2021 with ⟨hk9, r9, H9, w9, hP9, hst9, ho9, hw9⟩ | ⟨E9, hX9, hk9, ho9⟩
  · have hk8 := hk9.symm
    subst hk8
    have hC := hC.out o_2021 ⟨_, ho9⟩
    obtain ⟨-, i9, hi9, hr9, hc9, -⟩ := hP9
    have hg9 : g_ca s n (t / 1440) x = (0, r9) := by rw [hr9]; exact qa_ca_y hS hi9 hc9
    refine V_istore Y.1 (ls' := [(6, _), (5, _), (4, _), (3, _), (2, _), (1, _), (0, _)]) dL_law_2024 (rfl : _ = 2026) (by decide) rfl ?_
    refine V_aload_n Y.1 4 dL_law_2026 (rfl : _ = 2027) rfl rfl ?_
    refine V_aload_n Y.1 6 dL_law_2027 (rfl : _ = 2028) rfl rfl ?_
    refine V_iload Y.1 1 dL_law_2028 (rfl : _ = 2030) rfl ?_
    refine V_iconst Y.1 (v := 1) dL_law_2030 (rfl : _ = 2031) (by decide) ?_
    refine V_iadd Y.1 dL_law_2031 (rfl : _ = 2032) ?_
    refine V_nm (v := nI (3 * j + 1)) (nI_add _ 1) ?_
    refine V_sld Y.1 (v := x) hsa (vp_in_nI (by omega) (by omega)) (by rw [nI_clamp (by omega)]; exact hx) dL_law_2032 (rfl : _ = 2033) ?_
    refine V_cI Y (rV Y (c_X6_cardBySpending l D kA _ (a + 329) F s b v p uu tt cc n t x hC.2.1 hS.1) mi_X6_cardBySpending vi_L_265 rfl hC.2.1.1 rfl rfl (Nat.le_of_ble_eq_true rfl) ⟨Nat.le_of_ble_eq_true rfl, Nat.le_of_ble_eq_true rfl⟩ (by show _ ≤ 603072; omega) (by show _ ≤ 7194730; omega) dL_law_2033) (fun q z => Or.inr (by have z := z.1; have := hC.2.2.2.2.2.1; omega)) (rfl : _ = 2036) (fun v_2033 H2033_13 hq_2033 o_2033 => ?_)
    obtain ⟨hb2, hR2⟩ := hq_2033
    rw [hg9] at hb2 hR2
    have hb3 := hb2.symm
    subst hb3
    have ho9 := ho9.off o_2033 (fun e => by have := e.2; omega)
    have hC := hC.mod o_2033 hR2
    refine V_istore Y.1 (ls' := [(7, _), (6, _), (5, _), (4, _), (3, _), (2, _), (1, _), (0, _)]) dL_law_2036 (rfl : _ = 2038) (by decide) rfl ?_
    refine V_aload_n Y.1 5 dL_law_2038 (rfl : _ = 2039) rfl rfl ?_
    refine V_cP Y (rV Y (c_X6_thrown l D kA _ (a + 329) _ _ _ _ _ _ _ _ hC.2.1) mi_X6_thrown vi_L_159 rfl hC.2.1.1 rfl rfl (Nat.le_of_ble_eq_true rfl) ⟨Nat.le_of_ble_eq_true rfl, Nat.le_of_ble_eq_true rfl⟩ (by show _ ≤ 603072; omega) (by show _ ≤ 7194730; omega) dL_law_2039) (rfl : _ = 2042) ?_
    refine V_iload Y.1 1 dL_law_2042 (rfl : _ = 2044) rfl ?_
    refine V_icmp_eq Y.1 (tgt := 2049) dL_law_2044 (by decide) (rfl : _ = 2047) (fun _ => ?_) (fun c_n => absurd pk_us c_n)
    refine V_iload Y.1 1 dL_law_2049 (rfl : _ = 2051) rfl ?_
    refine V_if_ne Y.1 (tgt := 2066) dL_law_2051 (by decide) (rfl : _ = 2054) (fun c_n => absurd rfl c_n) (fun _ => ?_)
    refine V_aload_n Y.1 4 dL_law_2054 (rfl : _ = 2055) rfl rfl ?_
    refine V_iconst Y.1 (v := 0) dL_law_2055 (rfl : _ = 2056) (by decide) ?_
    refine V_lald Y.1 (v := r9.toInt64) ho9 (show ¬ ((0 : Int32) < 0 ∨ 1 ≤ (0 : Int32).toNatClampNeg) by decide) hw9 dL_law_2056 (rfl : _ = 2057) ?_
    refine V_iload Y.1 0 dL_law_2057 (rfl : _ = 2059) rfl ?_
    refine V_i2l Y.1 dL_law_2059 (rfl : _ = 2060) rfl ?_
    refine V_lcmp Y.1 dL_law_2060 (rfl : _ = 2061) ?_
    refine V_if_eq Y.1 (tgt := 2066) dL_law_2061 (by decide) (rfl : _ = 2064) (fun _ => ?_) (fun c_n => absurd (lg_self _) c_n)
    refine V_goto Y.1 (tgt := 2781) dL_law_2066 (by decide) ?_
    exact V_forget (ls' := [(5, _), (4, _), (3, _), (2, _), (1, _), (0, _)]) [2, 3, 4, 5, 6, 7] rfl (V_widen (by omega) (by omega) (kk _ ⟨_, _, _, _, _, _, _, _, _, _, _, _, _, _, _, _, _, _, _, _, _, _, _, hC, (hG.f6 _).more (by omega)⟩))
  · have hC := hC.out o_2021 ⟨_, ho9⟩
    obtain ⟨rfl, hx9⟩ := hX9
    have hk7 : v_2021 = 1 := hk9
    have hk8 := hk7.symm
    subst hk8
    have hg9 : (g_ca s n (t / 1440) x).1 = 1 := qa_ca_n hS hx9
    refine V_istore Y.1 (ls' := [(6, _), (5, _), (4, _), (3, _), (2, _), (1, _), (0, _)]) dL_law_2024 (rfl : _ = 2026) (by decide) rfl ?_
    refine V_aload_n Y.1 4 dL_law_2026 (rfl : _ = 2027) rfl rfl ?_
    refine V_aload_n Y.1 6 dL_law_2027 (rfl : _ = 2028) rfl rfl ?_
    refine V_iload Y.1 1 dL_law_2028 (rfl : _ = 2030) rfl ?_
    refine V_iconst Y.1 (v := 1) dL_law_2030 (rfl : _ = 2031) (by decide) ?_
    refine V_iadd Y.1 dL_law_2031 (rfl : _ = 2032) ?_
    refine V_nm (v := nI (3 * j + 1)) (nI_add _ 1) ?_
    refine V_sld Y.1 (v := x) hsa (vp_in_nI (by omega) (by omega)) (by rw [nI_clamp (by omega)]; exact hx) dL_law_2032 (rfl : _ = 2033) ?_
    refine V_cI Y (rV Y (c_X6_cardBySpending l D kA _ (a + 329) F s b v p uu tt cc n t x hC.2.1 hS.1) mi_X6_cardBySpending vi_L_265 rfl hC.2.1.1 rfl rfl (Nat.le_of_ble_eq_true rfl) ⟨Nat.le_of_ble_eq_true rfl, Nat.le_of_ble_eq_true rfl⟩ (by show _ ≤ 603072; omega) (by show _ ≤ 7194730; omega) dL_law_2033) (fun q z => Or.inr (by have z := z.1; have := hC.2.2.2.2.2.1; omega)) (rfl : _ = 2036) (fun v_2033 H2033_12 hq_2033 o_2033 => ?_)
    obtain ⟨hb2, hR2⟩ := hq_2033
    rw [hg9] at hR2
    have hC := hC.mod o_2033 hR2
    refine V_istore Y.1 (ls' := [(7, _), (6, _), (5, _), (4, _), (3, _), (2, _), (1, _), (0, _)]) dL_law_2036 (rfl : _ = 2038) (by decide) rfl ?_
    refine V_aload_n Y.1 5 dL_law_2038 (rfl : _ = 2039) rfl rfl ?_
    refine V_cP Y (rV Y (c_X6_thrown l D kA _ (a + 329) _ _ _ _ _ _ _ _ hC.2.1) mi_X6_thrown vi_L_159 rfl hC.2.1.1 rfl rfl (Nat.le_of_ble_eq_true rfl) ⟨Nat.le_of_ble_eq_true rfl, Nat.le_of_ble_eq_true rfl⟩ (by show _ ≤ 603072; omega) (by show _ ≤ 7194730; omega) dL_law_2039) (rfl : _ = 2042) ?_
    refine V_iload Y.1 1 dL_law_2042 (rfl : _ = 2044) rfl ?_
    refine V_icmp_eq Y.1 (tgt := 2049) dL_law_2044 (by decide) (rfl : _ = 2047) (fun _ => ?_) (fun c_n => absurd pk_us c_n)
    refine V_iload Y.1 1 dL_law_2049 (rfl : _ = 2051) rfl ?_
    refine V_if_ne Y.1 (tgt := 2066) dL_law_2051 (by decide) (rfl : _ = 2054) (fun _ => ?_) (fun c_n => absurd c_n (by decide))
    refine V_goto Y.1 (tgt := 2781) dL_law_2066 (by decide) ?_
    exact V_forget (ls' := [(5, _), (4, _), (3, _), (2, _), (1, _), (0, _)]) [2, 3, 4, 5, 6, 7] rfl (V_widen (by omega) (by omega) (kk _ ⟨_, _, _, _, _, _, _, _, _, _, _, _, _, _, _, _, _, _, _, _, _, _, _, hC, (hG.f6 _).more (by omega)⟩))

