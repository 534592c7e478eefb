/-! The law from its first step. -/
set_option maxRecDepth 100000 in
set_option maxHeartbeats 4000000 in
theorem law_full (l : Launch) (D : va_G) (kA : Nat → ClassId) (Hs : Heap) (σ : SG) (hnt : l.stackTraces = false) {Pp : Program} {Ee : Env} {Ss : State} {Mm : MethodId} {Ar : Array Value} {Bl : List Frame} {Me : Method} {Cc : Code} (Z : Ys Pp Ss Mm Ar Me Cc cL_law 2 (some .boolean) "MetroFaresLaw" D kA (AA Hs nof) Hs σ) (sa N : Nat) (f : Nat → Int32) (hXs : va_X sa N f Ss Hs) (hN : N ≤ 260) : V Pp l Ee (rmO 2048 94400 702177 6978764) Ss Mm Ar Bl Me Cc 2 (AA Hs nof) (QC Bl Ar Ss 702177 6978764 Hs nof (pI fun v9 H => v9 = 1)) Hs 0 0 0 [(0, .ref sa)] [] := by
  have Y := Z.1
  have hg : Ag Hs Hs := ⟨Nat.le_refl _, fun _ _ => rfl⟩
  refine V_aload_n Y.1 0 dL_law_0 (rfl : _ = 1) rfl rfl ?_
  refine V_cR Y (sA Z hXs (c_L_drawn l D kA Hs σ sa N f Hs hg hnt (by omega) rfl) mi_L_drawn si_L_187 rfl rfl (Nat.le_of_ble_eq_true rfl) ⟨Nat.le_of_ble_eq_true rfl, Nat.le_of_ble_eq_true rfl⟩ (Nat.le_of_ble_eq_true rfl) (Nat.le_of_ble_eq_true rfl) dL_law_1) (fun _ z => z.elim) (rfl : _ = 4) (fun v_1 H1_1 hq_1 o_1 => ?_)
  obtain ⟨M, s, n, t, q, u, p, hq6, hjc, hJ⟩ := hq_1
  refine V_astore_n Y.1 (ls' := [(1, _), (0, _)]) dL_law_4 (rfl : _ = 5) rfl (by decide) rfl ?_
  refine V_aload_n Y.1 0 dL_law_5 (rfl : _ = 6) rfl rfl ?_
  refine V_ifnullR Y.1 dL_law_6 (rfl : _ = 9) ?_
  refine V_aload_n Y.1 0 dL_law_9 (rfl : _ = 10) rfl rfl ?_
  refine V_cI Y (sS Z (c_L_zoned l D kA Hs σ _ hJ.ag v_1 M s n t q u p 0 (fun _ => 0) 0 (fun _ => False) hJ hnt ) mi_L_zoned si_L_191 rfl rfl (Nat.le_of_ble_eq_true rfl) ⟨Nat.le_of_ble_eq_true rfl, Nat.le_of_ble_eq_true rfl⟩ (Nat.le_of_ble_eq_true rfl) (Nat.le_of_ble_eq_true rfl) dL_law_10) (fun _ z => z.elim) (rfl : _ = 13) (fun v_10 H10_7 hq_10 o_10 => ?_)
  obtain rfl := hq_10
  have hJ := hJ.new o_10
  refine V_if_eq Y.1 (tgt := 42) dL_law_13 (by decide) (rfl : _ = 16) (fun c_n => absurd c_n (by decide)) (fun _ => ?_)
  refine V_aload_n Y.1 0 dL_law_16 (rfl : _ = 17) rfl rfl ?_
  refine V_cI Y (sS Z (c_L_carded l D kA Hs σ _ hJ.ag v_1 M s n t q u p 0 (fun _ => 0) 0 (fun _ => False) hJ hnt (fun i hi h2 => by have := hjc i hi (Or.inl h2); omega)) mi_L_carded si_L_195 rfl rfl (Nat.le_of_ble_eq_true rfl) ⟨Nat.le_of_ble_eq_true rfl, Nat.le_of_ble_eq_true rfl⟩ (Nat.le_of_ble_eq_true rfl) (Nat.le_of_ble_eq_true rfl) dL_law_17) (fun _ z => z.elim) (rfl : _ = 20) (fun v_17 H17_12 hq_17 o_17 => ?_)
  obtain rfl := hq_17
  have hJ := hJ.new o_17
  refine V_if_eq Y.1 (tgt := 42) dL_law_20 (by decide) (rfl : _ = 23) (fun c_n => absurd c_n (by decide)) (fun _ => ?_)
  refine V_aload_n Y.1 0 dL_law_23 (rfl : _ = 24) rfl rfl ?_
  refine V_cI Y (sS Z (c_L_texts l D kA Hs σ _ hJ.ag v_1 M s n t q u p 0 (fun _ => 0) 0 (fun _ => False) hJ hnt (by omega)) mi_L_texts si_L_198 rfl rfl (Nat.le_of_ble_eq_true rfl) ⟨Nat.le_of_ble_eq_true rfl, Nat.le_of_ble_eq_true rfl⟩ (Nat.le_of_ble_eq_true rfl) (Nat.le_of_ble_eq_true rfl) dL_law_24) (fun q z => Or.inr (by have := hJ.ha; omega)) (rfl : _ = 27) (fun v_24 H24_17 hq_24 o_24 => ?_)
  obtain ⟨rfl, no, go, hJ⟩ := hq_24
  refine V_if_eq Y.1 (tgt := 42) dL_law_27 (by decide) (rfl : _ = 30) (fun c_n => absurd c_n (by decide)) (fun _ => ?_)
  refine V_aload_n Y.1 1 dL_law_30 (rfl : _ = 31) rfl rfl ?_
  refine V_aload_n Y.1 0 dL_law_31 (rfl : _ = 32) rfl rfl ?_
  refine V_cI Y (sA Z hXs (c_L_undone l D kA Hs σ sa N f _ hJ.ag v_1 M s n t q u p no go 0 hJ hnt (by omega) (by omega)) mi_L_undone si_L_201 rfl rfl (Nat.le_of_ble_eq_true rfl) ⟨Nat.le_of_ble_eq_true rfl, Nat.le_of_ble_eq_true rfl⟩ (Nat.le_of_ble_eq_true rfl) (Nat.le_of_ble_eq_true rfl) dL_law_32) (fun q z => Or.inr z) (rfl : _ = 35) (fun v_32 H32_22 hq_32 o_32 => ?_)
  obtain rfl := hq_32
  refine V_if_eq Y.1 (tgt := 42) dL_law_35 (by decide) (rfl : _ = 38) (fun c_n => absurd c_n (by decide)) (fun _ => ?_)
  refine V_iconst Y.1 (v := 1) dL_law_38 (rfl : _ = 39) (by decide) ?_
  refine V_goto Y.1 (tgt := 43) dL_law_39 (by decide) ?_
  exact V_ret Y.1 dL_law_43 rfl (Nat.le_of_ble_eq_true rfl) (Nat.le_of_ble_eq_true rfl) rfl
