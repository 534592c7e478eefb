/-! A cell of the drawn array. -/
set_option maxRecDepth 100000 in
set_option maxHeartbeats 4000000 in
theorem c_L_cell (l : Launch) (D : va_G) (kA : Nat → ClassId) (Hs : Heap) (σ : SG) (sa N : Nat) (f : Nat → Int32) (H0 : Heap) (hg : Ag Hs H0) (k : Nat) (hN : N < 2 ^ 31) (hk : k < 2 ^ 31) : CtA l D kA Hs σ sa N f yL_cell cL_cell 2 (some .int) 0 0 0 0 H0 [.ref sa, .int (nI k)] (nof) (pI fun v9 H => H = H0) := by
  refine CtA.of mi_L_cell (Nat.le_of_ble_eq_true rfl) (ls0 := [(0, _), (1, _)]) rfl hg (fun _ z => z.elim) ?_
  intro Pp Ee Ss Mm Ar Bl Me Cc Z hsH hXs hsa
  have Y := Z.1
  refine V_iload_n Y.1 1 dL_cell_0 (rfl : _ = 1) rfl rfl ?_
  refine V_aload_n Y.1 0 dL_cell_1 (rfl : _ = 2) rfl rfl ?_
  refine V_slen Y.1 hsa dL_cell_2 (rfl : _ = 3) ?_
  refine V_icmp_ge Y.1 (tgt := 12) dL_cell_3 (by decide) (rfl : _ = 6) (fun c_3 => ?_) (fun c_3 => ?_)
  · refine V_ldc Y.1 cn_L_7 dL_cell_12 (rfl : _ = 14) ?_
    refine V_iload_n Y.1 1 dL_cell_14 (rfl : _ = 15) rfl rfl ?_
    refine V_imul Y.1 dL_cell_15 (rfl : _ = 16) ?_
    exact V_ret Y.1 dL_cell_16 rfl (by omega) (by omega) rfl
  · refine V_aload_n Y.1 0 dL_cell_6 (rfl : _ = 7) rfl rfl ?_
    refine V_iload_n Y.1 1 dL_cell_7 (rfl : _ = 8) rfl rfl ?_
    refine V_sld Y.1 hsa (vp_in_nI (Nat.not_le.mp (fun q9 => c_3 (nI_le q9 (by omega)))) (by omega)) rfl dL_cell_8 (rfl : _ = 9) ?_
    refine V_goto Y.1 (tgt := 16) dL_cell_9 (by decide) ?_
    exact V_ret Y.1 dL_cell_16 rfl (by omega) (by omega) rfl

