/-! The law's look at an output. -/
set_option maxRecDepth 100000 in
set_option maxHeartbeats 4000000 in
theorem c_L_spells (l : Launch) (D : va_G) (kA : Nat → ClassId) (Hs : Heap) (σ : SG) (H0 : Heap) (hg : Ag Hs H0) (a : Nat) (M : MS) (s : Nat → Int32) (n t q u : Nat) (p : Nat → Nat → Int32) (no : Nat) (go : Nat → Int32) (ns : Nat) (X : Nat → Prop) (lo hi r : Nat) (L : List Int32) (hJ : Lw D kA Hs H0 a M s n t q u p no go ns X) (hnt : l.stackTraces = false) (hR : TR D kA H0 lo hi r L) (hno : no = L.length) (hgo9 : ∀ j, j < no → go j = L.getD j 0) : CtS l D kA Hs σ yL_spells cL_spells 5 (some .boolean) 10 163 80 480 H0 [.ref a, .int (nI no), .ref r] (nof) (pI fun v9 H => v9 = 1) := by
  refine CtS.of mi_L_spells (Nat.le_of_ble_eq_true rfl) (ls0 := [(0, _), (1, _), (2, _)]) rfl hg (fun _ z => z.elim) ?_
  intro Pp Ee Ss Mm Ar Bl Me Cc Z hsH hnm
  have Y := Z.1
  have h16 := hJ.no16
  have loop : ∀ (r9 j : Nat), j + r9 = no → V Pp l Ee (rmO 10 163 80 480) Ss Mm Ar Bl Me Cc 5 (AA H0 (nof)) (QC Bl Ar Ss 80 480 H0 (nof) (pI fun v9 H => v9 = 1)) H0 (4 * j) (24 * j) 17 [(4, .int (nI j)), (3, .int 1), (2, .ref r), (1, .int (nI no)), (0, .ref a)] [] := by
    intro r9
    induction r9 with
    | zero =>
      intro j hr
      obtain rfl : no = j := by omega
      refine V_iload Y.1 0 dL_spells_17 (rfl : _ = 19) rfl ?_
      refine V_aload_n Y.1 2 dL_spells_19 (rfl : _ = 20) rfl rfl ?_
      refine V_cPk Y (sV Z (c_T_len l D kA Hs σ _ hJ.ag lo hi r L hR) mi_J0_length_8abf5 vi_L_130 rfl hR.rcv.choose_spec rfl rfl (Nat.le_of_ble_eq_true rfl) ⟨Nat.le_of_ble_eq_true rfl, Nat.le_of_ble_eq_true rfl⟩ (by show _ ≤ 80; omega) (by show _ ≤ 480; omega) dL_spells_20) (fun _ z => z.elim) (rfl : _ = 23) ?_
      refine V_nm (v := nI no) (congrArg nI hno.symm) ?_
      refine V_icmp_ge Y.1 (tgt := 57) dL_spells_23 (by decide) (rfl : _ = 26) (fun _ => ?_) (fun c_n => absurd (Int32.le_refl _) c_n)
      refine V_iload_n Y.1 1 dL_spells_57 (rfl : _ = 58) rfl rfl ?_
      refine V_if_eq Y.1 (tgt := 75) dL_spells_58 (by decide) (rfl : _ = 61) (fun c_n => absurd c_n (by decide)) (fun _ => ?_)
      refine V_aload_n Y.1 4 dL_spells_61 (rfl : _ = 62) rfl rfl ?_
      refine V_iload_n Y.1 3 dL_spells_62 (rfl : _ = 63) rfl rfl ?_
      refine V_cI Y (sW Z (c_N_outputAt l D kA Hs σ _ hJ.ag a M s n t q u p no go ns X hJ hnt) mh_L_outputAt si_L_283 rfl rfl (Nat.le_of_ble_eq_true rfl) ⟨Nat.le_of_ble_eq_true rfl, Nat.le_of_ble_eq_true rfl⟩ (by show _ ≤ 80; omega) (by show _ ≤ 480; omega) dL_spells_63) (fun _ z => z.elim) (rfl : _ = 66) (fun v_63 H63_9 hq_63 o_63 => ?_)
      obtain rfl := hq_63
      refine V_bipush Y.1 (v := -11) dL_spells_66 (rfl : _ = 68) (by decide) ?_
      refine V_icmp_ne Y.1 (tgt := 75) dL_spells_68 (by decide) (rfl : _ = 71) (fun c_n => absurd rfl c_n) (fun _ => ?_)
      refine V_iconst Y.1 (v := 1) dL_spells_71 (rfl : _ = 72) (by decide) ?_
      refine V_goto Y.1 (tgt := 76) dL_spells_72 (by decide) ?_
      exact V_ret Y.1 dL_spells_76 rfl (by omega) (by omega) rfl
    | succ r9 ih =>
      intro j hr
      have hj : j < no := by omega
      refine V_iload Y.1 0 dL_spells_17 (rfl : _ = 19) rfl ?_
      refine V_aload_n Y.1 2 dL_spells_19 (rfl : _ = 20) rfl rfl ?_
      refine V_cPk Y (sV Z (c_T_len l D kA Hs σ _ hJ.ag lo hi r L hR) mi_J0_length_8abf5 vi_L_130 rfl hR.rcv.choose_spec rfl rfl (Nat.le_of_ble_eq_true rfl) ⟨Nat.le_of_ble_eq_true rfl, Nat.le_of_ble_eq_true rfl⟩ (by show _ ≤ 80; omega) (by show _ ≤ 480; omega) dL_spells_20) (fun _ z => z.elim) (rfl : _ = 23) ?_
      refine V_nm (v := nI no) (congrArg nI hno.symm) ?_
      refine V_icmp_ge Y.1 (tgt := 57) dL_spells_23 (by decide) (rfl : _ = 26) (fun c_n => absurd c_n (fun q9 => absurd ((nI_leI (a := no) (b := j) (by omega) (by omega)).mp q9) (by omega))) (fun _ => ?_)
      refine V_iload_n Y.1 1 dL_spells_26 (rfl : _ = 27) rfl rfl ?_
      refine V_if_eq Y.1 (tgt := 57) dL_spells_27 (by decide) (rfl : _ = 30) (fun c_n => absurd c_n (by decide)) (fun _ => ?_)
      refine V_aload_n Y.1 4 dL_spells_30 (rfl : _ = 31) rfl rfl ?_
      refine V_iload Y.1 0 dL_spells_31 (rfl : _ = 33) rfl ?_
      refine V_cPk Y (sW Z (c_Y_outputAt l D kA Hs σ _ hJ.ag a M s n t q u p no go ns X j hJ hnt hj) mh_L_outputAt si_L_283 rfl rfl (Nat.le_of_ble_eq_true rfl) ⟨Nat.le_of_ble_eq_true rfl, Nat.le_of_ble_eq_true rfl⟩ (by show _ ≤ 80; omega) (by show _ ≤ 480; omega) dL_spells_33) (fun _ z => z.elim) (rfl : _ = 36) ?_
      refine V_aload_n Y.1 2 dL_spells_36 (rfl : _ = 37) rfl rfl ?_
      refine V_iload Y.1 0 dL_spells_37 (rfl : _ = 39) rfl ?_
      refine V_cPk Y (sV Z (c_T_at l D kA Hs σ _ hJ.ag lo hi r L j hR (hno ▸ hj)) mi_J0_charAt_5068e vi_L_135 rfl hR.rcv.choose_spec rfl rfl (Nat.le_of_ble_eq_true rfl) ⟨Nat.le_of_ble_eq_true rfl, Nat.le_of_ble_eq_true rfl⟩ (by show _ ≤ 80; omega) (by show _ ≤ 480; omega) dL_spells_39) (fun _ z => z.elim) (rfl : _ = 42) ?_
      refine V_icmp_ne Y.1 (tgt := 49) dL_spells_42 (by decide) (rfl : _ = 45) (fun c_n => absurd (hgo9 j hj) c_n) (fun _ => ?_)
      refine V_iconst Y.1 (v := 1) dL_spells_45 (rfl : _ = 46) (by decide) ?_
      refine V_goto Y.1 (tgt := 50) dL_spells_46 (by decide) ?_
      refine V_istore_n Y.1 (ls' := [(3, _), (4, _), (2, _), (1, _), (0, _)]) dL_spells_50 (rfl : _ = 51) rfl (by decide) rfl ?_
      refine V_iinc Y.1 (v := nI (j + 1)) (ls' := [(4, _), (3, _), (2, _), (1, _), (0, _)]) 1 dL_spells_51 (rfl : _ = 54) rfl (nI_add _ 1) (by decide) rfl ?_
      refine V_goto Y.1 (tgt := 17) dL_spells_54 (by decide) ?_
      exact V_forget (ls' := [(4, _), (3, _), (2, _), (1, _), (0, _)]) [0, 1, 2, 3, 4] rfl (V_widen (by omega) (by omega) (ih (j + 1) (by omega)))
  refine V_iload_n Y.1 1 dL_spells_0 (rfl : _ = 1) rfl rfl ?_
  refine V_aload_n Y.1 2 dL_spells_1 (rfl : _ = 2) rfl rfl ?_
  refine V_cPk Y (sV Z (c_T_len l D kA Hs σ _ hJ.ag lo hi r L hR) mi_J0_length_8abf5 vi_L_130 rfl hR.rcv.choose_spec rfl rfl (Nat.le_of_ble_eq_true rfl) ⟨Nat.le_of_ble_eq_true rfl, Nat.le_of_ble_eq_true rfl⟩ (by show _ ≤ 80; omega) (by show _ ≤ 480; omega) dL_spells_2) (fun _ z => z.elim) (rfl : _ = 5) ?_
  refine V_nm (v := nI no) (congrArg nI hno.symm) ?_
  refine V_icmp_ne Y.1 (tgt := 12) dL_spells_5 (by decide) (rfl : _ = 8) (fun c_n => absurd rfl c_n) (fun _ => ?_)
  refine V_iconst Y.1 (v := 1) dL_spells_8 (rfl : _ = 9) (by decide) ?_
  refine V_goto Y.1 (tgt := 13) dL_spells_9 (by decide) ?_
  refine V_istore_n Y.1 (ls' := [(3, _), (0, _), (1, _), (2, _)]) dL_spells_13 (rfl : _ = 14) rfl (by decide) rfl ?_
  refine V_iconst Y.1 (v := 0) dL_spells_14 (rfl : _ = 15) (by decide) ?_
  refine V_istore Y.1 (ls' := [(4, _), (3, _), (0, _), (1, _), (2, _)]) dL_spells_15 (rfl : _ = 17) (by decide) rfl ?_
  exact V_forget (ls' := [(4, _), (3, _), (2, _), (1, _), (0, _)]) [0, 1, 4, 3, 2] rfl (V_widen (by omega) (by omega) (loop no 0 (by omega)))

