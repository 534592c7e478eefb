/-! The law from its first step. -/
theorem zn_lo : ∀ (k j : Nat), (j < 9 ∨ 9 + k ≤ j) → s_zn k j = s_zn 0 j
  | 0, _, _ => rfl
  | k + 1, j, h => by
    show upd (s_zn k) (9 + k) (nI k / 2 + 1) j = _
    rw [pk_un (by omega)]
    exact zn_lo k j (by omega)
theorem zn_at : ∀ (k w : Nat), w < k → s_zn k (9 + w) = nI w / 2 + 1
  | 0, _, h => absurd h (Nat.not_lt_zero _)
  | k + 1, w, h => by
    show upd (s_zn k) (9 + k) (nI k / 2 + 1) (9 + w) = _
    by_cases e : w = k
    · subst e; rw [pk_us]
    · rw [pk_un (by omega)]
      exact zn_at k w (by omega)
theorem zn_0 {j : Nat} (h2 : j ≠ 2) (h3 : j ≠ 3) (h : j < 9 ∨ 21 ≤ j) : s_zn 12 j = 0 := by
  rw [zn_lo 12 j (by omega)]
  show upd (upd (fun _ => 0) 2 200) 3 50 j = 0
  rw [pk_un h3, pk_un h2]
theorem SQ_new : SQ m_new (s_zn 12) 0 0 0 := by
  have zr : ∀ i w, ro (s_zn 12) i w = 0 := fun i w => zn_0 (by omega) (by omega) (by omega)
  have e2 : s_zn 12 2 = 200 := by rw [zn_lo 12 2 (by omega)]; decide
  have e3 : s_zn 12 3 = 50 := by rw [zn_lo 12 3 (by omega)]; decide
  refine ⟨⟨⟨⟨zn_0 (by decide) (by decide) (by decide), by decide, zn_0 (by decide) (by decide) (by decide), by decide, fun i hi => ?_⟩, ?_, ⟨200, 50, by decide, by decide, e2, e3⟩, fun w hw => ?_, fun w hw => ?_, ⟨0, 0, 0, by decide, zn_0 (by decide) (by decide) (by decide), by decide, zn_0 (by decide) (by decide) (by decide), by decide, zn_0 (by decide) (by decide) (by decide)⟩, by decide, fun i hi => absurd hi (Nat.not_lt_zero i)⟩, fun i hi => absurd hi (Nat.not_lt_zero i)⟩, by decide⟩
  · rw [zr, zr, zr, zr]
    exact ⟨Or.inr ⟨0, by decide, rfl⟩, ⟨0, by decide, rfl⟩, Or.inr ⟨0, by decide, rfl⟩, 0, by decide, rfl⟩
  · exact ⟨(zn_0 (by decide) (by decide) (by decide)).symm, (zn_0 (by decide) (by decide) (by decide)).symm, (zn_0 (by decide) (by decide) (by decide)).symm, (zn_0 (by decide) (by decide) (by decide)).symm, (zn_0 (by decide) (by decide) (by decide)).symm, (zn_0 (by decide) (by decide) (by decide)).symm, (zn_0 (by decide) (by decide) (by decide)).symm, e2.symm, e3.symm⟩
  · have e : s_zn 12 (9 + w) = nI (w / 2 + 1) := by
      rw [zn_at 12 w hw, show (2 : Int32) = nI 2 from rfl, pk_div (by omega) (by decide) (by decide)]
      exact (nI_succ _).symm
    refine ⟨?_, w / 2 + 1, by omega, by omega, e⟩
    rw [e]
    show z_ini 12 w = _
    unfold z_ini
    rw [if_pos hw]
  · refine ⟨(zn_0 (by omega) (by omega) (by omega)).symm, 0, by decide, zn_0 (by omega) (by omega) (by omega)⟩
theorem Gp_new : Gp (fun _ => m_new) (fun j => j) 0 0 (-1) (-1) 0 (fun _ => 0) 0 (fun _ => 0) F_ini (s_zn 12) (fun _ => 0) (fun _ => 0) (fun _ => 0) (fun _ => 0) 0 0 0 :=
  ⟨SQ_new, ⟨by decide, by decide, by decide, by decide, by decide, by decide⟩, fun z => absurd z (by decide), fun k hk => absurd hk (Nat.not_lt_zero k), ⟨by decide, fun j hj => absurd hj (Nat.not_lt_zero j)⟩, ⟨by decide, fun j hj => absurd hj (Nat.not_lt_zero j)⟩, Or.inl rfl, Or.inl rfl⟩
set_option maxRecDepth 100000 in
set_option maxHeartbeats 4000000 in
theorem law_run (l : Launch) (D : va_G) (kA : Nat → ClassId) (Hs : Heap) (σ : SG) (hnt : l.stackTraces = false) {Pp : Program} {Ee : Env} {Ss : State} {Mm : MethodId} {Ar : Array Value} {Bl : List Frame} {Me : Method} {Cc : Code} {Q : State → Prop} (Z : Ys Pp Ss Mm Ar Me Cc cL_law 9 (some .boolean) "MetroFaresLaw" D kA (AA Hs nof) Hs σ) (sa N : Nat) (f : Nat → Int32) (hsa : va_X sa N f Ss Ss.heap ∧ sa < Ss.heap.size ∧ ¬ AA Hs nof sa) (hN : N ≤ 1536) (hfl : ∀ (a j : Nat) (H : Heap), Hs.size ≤ a → 3 * j + 3 ≤ N → Inv D kA Hs a H (61 * j) → (∀ H1, Inv D kA Hs a H1 (61 * (j + 1)) → V Pp l Ee (rmO 2048 94400 603072 7194730) Ss Mm Ar Bl Me Cc 9 (AA Hs nof) Q H1 (400 + 200 * (j + 1)) (6000 + 400 * (j + 1)) 2781 [(5, .int (nI (3 * j))), (4, .ref (a + 338)), (3, .ref (a + 337)), (2, .ref (a + 329)), (1, .ref a), (0, .ref sa)] []) → (V Pp l Ee (rmO 2048 94400 603072 7194730) Ss Mm Ar Bl Me Cc 9 (AA Hs nof) Q H (400 + 200 * (j)) (6000 + 400 * (j)) 2134 [(5, .int (nI (3 * j))), (4, .ref (a + 338)), (3, .ref (a + 337)), (2, .ref (a + 329)), (1, .ref a), (0, .ref sa)] []) ∧ (V Pp l Ee (rmO 2048 94400 603072 7194730) Ss Mm Ar Bl Me Cc 9 (AA Hs nof) Q H (400 + 200 * (j)) (6000 + 400 * (j)) 2199 [(5, .int (nI (3 * j))), (4, .ref (a + 338)), (3, .ref (a + 337)), (2, .ref (a + 329)), (1, .ref a), (0, .ref sa)] []) ∧ (V Pp l Ee (rmO 2048 94400 603072 7194730) Ss Mm Ar Bl Me Cc 9 (AA Hs nof) Q H (400 + 200 * (j)) (6000 + 400 * (j)) 2242 [(5, .int (nI (3 * j))), (4, .ref (a + 338)), (3, .ref (a + 337)), (2, .ref (a + 329)), (1, .ref a), (0, .ref sa)] []) ∧ (V Pp l Ee (rmO 2048 94400 603072 7194730) Ss Mm Ar Bl Me Cc 9 (AA Hs nof) Q H (400 + 200 * (j)) (6000 + 400 * (j)) 2308 [(5, .int (nI (3 * j))), (4, .ref (a + 338)), (3, .ref (a + 337)), (2, .ref (a + 329)), (1, .ref a), (0, .ref sa)] [])) (hend : ∀ (a j : Nat) (H : Heap), j ≤ 512 → Ag Hs H → V Pp l Ee (rmO 2048 94400 603072 7194730) Ss Mm Ar Bl Me Cc 9 (AA Hs nof) Q H (400 + 200 * (j)) (6000 + 400 * (j)) 2787 [(5, .int (nI (3 * j))), (4, .ref (a + 338)), (3, .ref (a + 337)), (2, .ref (a + 329)), (1, .ref a), (0, .ref sa)] []) : V Pp l Ee (rmO 2048 94400 603072 7194730) Ss Mm Ar Bl Me Cc 9 (AA Hs nof) Q Hs 0 0 0 [(0, .ref sa)] [] := by
  have Y := Z.1
  obtain ⟨a, sz⟩ : ∃ a, Hs.size = a := ⟨_, rfl⟩
  have hg : Ag Hs Hs := ⟨Nat.le_refl _, fun _ _ => rfl⟩
  refine V_new Y.1 (ci := 9) (fs := [.null, .null, .null, .null, .null, .null, .null, .int 0, .int 0, .int 0, .int 0]) rfl in_X5 tyX5_ok cl_L_8 inst_X5 ini_X5 (by decide) (Nat.le_of_ble_eq_true rfl) (Nat.le_of_ble_eq_true rfl) dL_law_0 (rfl : _ = 3) (fun H0_0 q_0 eq_0 z_0 h_new o_0 => ?_)
  have e_q0 : q_0 = a := eq_0.trans sz
  have sz : Array.size H0_0 = a + 1 := by rw [z_0, e_q0]
  have hx := h_new
  obtain rfl : a = q_0 := by omega
  have hg := hg.keep o_0 (fun _ z => z.elim)
  refine V_dup Y.1 dL_law_3 (rfl : _ = 4) rfl ?_
  refine V_cV Y (sI Z (c_X5_init l D kA Hs σ _ hg a _ hx rfl (by omega) (by omega)) mi_X5_init ii_L_149 rfl rfl (Nat.le_of_ble_eq_true rfl) ⟨Nat.le_of_ble_eq_true rfl, Nat.le_of_ble_eq_true rfl⟩ (Nat.le_of_ble_eq_true rfl) (Nat.le_of_ble_eq_true rfl) dL_law_4) (fun q z => Or.inr (by have := z.1; omega)) (rfl : _ = 7) (fun H4_7 hq_4 o_4 => ?_)
  obtain ⟨hF, z4⟩ := hq_4
  have hg := hg.keep o_4 (fun q z => by have := z.1; omega)
  have sz : Array.size H4_7 = (a + 329) := by omega
  refine V_astore_n Y.1 (ls' := [(1, _), (0, _)]) dL_law_7 (rfl : _ = 8) rfl (by decide) rfl ?_
  refine V_new Y.1 (ci := 10) (fs := [.null, .null, .null, .int 0, .null, .int 0, .int 0, .null, .int 0, .null, .int 0, .int 0, .int 0, .int 0, .int 0, .null, .int 0]) rfl in_X6 tyX6_ok cl_L_150 inst_X6 ini_X6 (by decide) (Nat.le_of_ble_eq_true rfl) (Nat.le_of_ble_eq_true rfl) dL_law_8 (rfl : _ = 11) (fun H8_12 q_8 eq_8 z_8 h_new o_8 => ?_)
  have e_q8 : q_8 = (a + 329) := eq_8.trans sz
  have sz : Array.size H8_12 = (a + 329) + 1 := by rw [z_8, e_q8]
  have hm := h_new
  obtain rfl : q_8 = a + 329 := by omega
  have hg := hg.keep o_8 (fun _ z => z.elim)
  have hF := hF.kept o_8 (fun _ _ e => e.elim) (fun e => e.elim) (fun _ _ e => e.elim)
  refine V_dup Y.1 dL_law_11 (rfl : _ = 12) rfl ?_
  refine V_cV Y (rI Y (c_X6_init l D kA _ (a + 329) _ hm rfl (by omega)) mi_X6_init ii_L_152 rfl rfl (Nat.le_of_ble_eq_true rfl) ⟨Nat.le_of_ble_eq_true rfl, Nat.le_of_ble_eq_true rfl⟩ (Nat.le_of_ble_eq_true rfl) (Nat.le_of_ble_eq_true rfl) dL_law_12) (fun q z => Or.inr (by have := z.1; omega)) (rfl : _ = 15) (fun H12_20 hq_12 o_12 => ?_)
  obtain ⟨hR, z12⟩ := hq_12
  have hg := hg.keep o_12 (fun q z => by have := z.1; omega)
  have hF := hF.kept o_12 (fun q z e => by have := z.2; have := e.1; omega) (fun e => by have := e.1; omega) (fun q z _ => z.elim)
  have sz : Array.size H12_20 = (a + 337) := by omega
  refine V_astore_n Y.1 (ls' := [(2, _), (1, _), (0, _)]) dL_law_15 (rfl : _ = 16) rfl (by decide) rfl ?_
  refine V_iconst Y.1 (v := 1) dL_law_16 (rfl : _ = 17) (by decide) ?_
  refine V_newL Y.1 (N := 1) ac_long (by decide) (by decide) (Nat.le_of_ble_eq_true rfl) (Nat.le_of_ble_eq_true rfl) (Nat.le_of_ble_eq_true rfl) dL_law_17 (rfl : _ = 19) (fun H17_27 q_17 eq_17 z_17 h_new o_17 => ?_)
  have e_q17 : q_17 = (a + 337) := eq_17.trans sz
  have sz : Array.size H17_27 = (a + 337) + 1 := by rw [z_17, e_q17]
  have ho := h_new
  obtain rfl : q_17 = a + 337 := by omega
  have hg := hg.keep o_17 (fun _ z => z.elim)
  have hF := hF.kept o_17 (fun _ _ e => e.elim) (fun e => e.elim) (fun _ _ e => e.elim)
  have hR := hR.keep o_17 (fun _ _ e => e.elim)
  refine V_astore_n Y.1 (ls' := [(3, _), (2, _), (1, _), (0, _)]) dL_law_19 (rfl : _ = 20) rfl (by decide) rfl ?_
  refine V_iconst Y.1 (v := 1) dL_law_20 (rfl : _ = 21) (by decide) ?_
  refine V_newD Y.1 (N := 1) ac_double (by decide) (by decide) (Nat.le_of_ble_eq_true rfl) (Nat.le_of_ble_eq_true rfl) (Nat.le_of_ble_eq_true rfl) dL_law_21 (rfl : _ = 23) (fun H21_37 q_21 eq_21 z_21 h_new o_21 => ?_)
  have e_q21 : q_21 = (a + 337) + 1 := eq_21.trans sz
  have sz : Array.size H21_37 = (a + 337) + 1 + 1 := by rw [z_21, e_q21]
  have ho := ho.off o_21 id
  have ho2 := h_new
  obtain rfl : q_21 = a + 338 := by omega
  have hg := hg.keep o_21 (fun _ z => z.elim)
  have hF := hF.kept o_21 (fun _ _ e => e.elim) (fun e => e.elim) (fun _ _ e => e.elim)
  have hR := hR.keep o_21 (fun _ _ e => e.elim)
  refine V_astore Y.1 (ls' := [(4, _), (3, _), (2, _), (1, _), (0, _)]) dL_law_23 (rfl : _ = 25) (by decide) rfl ?_
  refine V_iconst Y.1 (v := 0) dL_law_25 (rfl : _ = 26) (by decide) ?_
  refine V_istore Y.1 (ls' := [(5, _), (4, _), (3, _), (2, _), (1, _), (0, _)]) dL_law_26 (rfl : _ = 28) (by decide) rfl ?_
  exact V_widen (by omega) (by omega) (lp l D kA Hs σ hnt Z sa N f hsa hN a (fun j H => hfl a j H (by omega)) (fun j H => hend a j H) 513 0 _ rfl (by omega) ⟨_, _, _, _, _, _, _, _, _, _, _, _, _, _, _, _, _, _, _, _, _, _, _, ⟨hF, hR, ⟨_, ho⟩, ⟨_, ho2⟩, hg, by omega, fun _ z => z.elim, Or.inl rfl⟩, Gp_new⟩)
