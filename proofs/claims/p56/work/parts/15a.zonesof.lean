/-! The law's own: the zones by marking, prices, caps. -/
/-- new cells may change -/
theorem off.new0 {H0 H H1 : Heap} {F : Nat → Prop} (h : off nof H0 H) (o : off F H H1) (hF : ∀ q, F q → H0.size ≤ q) : off nof H0 H1 :=
  ⟨Nat.le_trans h.1 o.1, fun q hq _ => (o.2 q (Nat.lt_of_lt_of_le hq h.1) (fun z => absurd (hF q z) (Nat.not_le.mpr hq))).trans (h.2 q hq (fun z => z))⟩
theorem off.put0 {H0 H H1 : Heap} {a : Nat} (h : off nof H0 H) (o : sto a H H1) (ha : H0.size ≤ a) : off nof H0 H1 := h.new0 (o.off (F := fun q => q = a) rfl) (fun q e => e ▸ ha)
theorem ln_prs_s (z : Nat → Int32) (a n : Nat) : ln_prs z a (n + 1) = if ln_new z a (a + n) n = true then ln_prs z a n + 1 else ln_prs z a n := rfl
theorem mk_step {z : Nat → Int32} {lo j v : Nat} {g : Nat → Int32} (h1 : 1 ≤ v) (h6 : v ≤ 6) (hz : z (lo + j) = nI v) (h : ∀ w, w < 12 → ∀ y : Nat, y ≤ 6 → z w = nI y → (g y = 0 ↔ ln_new z lo w j = true)) : ∀ w, w < 12 → ∀ y : Nat, y ≤ 6 → z w = nI y → (upd g v 1 y = 0 ↔ ln_new z lo w (j + 1) = true) := by
  intro w hw y hy e
  unfold ln_new
  by_cases g9 : y = v
  · subst g9
    rw [if_pos (hz.trans e.symm), pk_us]
    exact ⟨fun q => absurd q (by decide), fun q => absurd q (by decide)⟩
  · rw [if_neg (fun q => g9 ((nI_eq (by omega) (by omega)).mp (e.symm.trans (q.symm.trans hz)))), pk_un g9]
    exact h w hw y hy e
set_option maxRecDepth 100000 in
set_option maxHeartbeats 4000000 in
theorem c_L_zonesOf (l : Launch) (D : va_G) (kA : Nat → ClassId) (Hs : Heap) (σ : SG) (H0 : Heap) (hg : Ag Hs H0) (a : Nat) (M : MS) (s : Nat → Int32) (n t q u : Nat) (p : Nat → Nat → Int32) (no : Nat) (go : Nat → Int32) (ns : Nat) (X : Nat → Prop) (f g : Nat) (hJ : Lw D kA Hs H0 a M s n t q u p no go ns X) (hnt : l.stackTraces = false) (hf : f < 12) (hg9 : g < 12) : CtS l D kA Hs σ yL_zonesOf cL_zonesOf 6 (some .int) 10 161 100 600 H0 [.ref a, .int (nI f), .int (nI g)] (nof) (pI fun v9 H => v9 = nI (ln_pairs M.2.1 f g)) := by
  refine CtS.of mi_L_zonesOf (Nat.le_of_ble_eq_true rfl) (ls0 := [(0, _), (1, _), (2, _)]) rfl hg (fun _ z => z.elim) ?_
  intro Pp Ee Ss Mm Ar Bl Me Cc Z hsH hnm
  have Y := Z.1
  have hq := hJ.sq
  have hzo : ∀ w, w < 12 → ∃ z, 1 ≤ z ∧ z ≤ 6 ∧ M.2.1 w = nI z := fun w hw => hq.1.1.zo w hw
  have lp : ∀ (r j : Nat) (H : Heap) (q9 : Nat) (g9 : Nat → Int32), min f g + j + r = max f g + 1 → H0.size ≤ q9 → off nof H0 H → hp D H q9 (eC kA 7 g9) → (∀ w, w < 12 → ∀ z : Nat, z ≤ 6 → M.2.1 w = nI z → (g9 z = 0 ↔ ln_new M.2.1 (min f g) w j = true)) → V Pp l Ee (rmO 10 161 100 600) Ss Mm Ar Bl Me Cc 6 (AA H0 (nof)) (QC Bl Ar Ss 100 600 H0 (nof) (pI fun v9 H => v9 = nI (ln_pairs M.2.1 f g))) H (1 + 8 * j) (7 + 48 * j) 15 [(5, .int (nI (min f g + j))), (4, .int (nI (ln_prs M.2.1 (min f g) j))), (3, .ref q9), (0, .ref a), (1, .int (nI f)), (2, .int (nI g))] [] := by
    intro r
    induction r with
    | zero =>
      intro j H q9 g9 hr hq9 o0 harr hmk
      refine V_iload Y.1 0 dL_zonesOf_15 (rfl : _ = 17) rfl ?_
      refine V_iload_n Y.1 4 dL_zonesOf_17 (rfl : _ = 18) rfl rfl ?_
      refine V_iload_n Y.1 5 dL_zonesOf_18 (rfl : _ = 19) rfl rfl ?_
      refine V_mmax Y.1 mw_L_175 (Nat.le_of_ble_eq_true rfl) (Nat.le_of_ble_eq_true rfl) (by show _ ≤ 100; omega) (by show _ ≤ 600; omega) dL_zonesOf_19 (rfl : _ = 22) ?_
      refine V_nm (v := nI (max f g)) (mx_nI (by omega) (by omega)) ?_
      refine V_icmp_gt Y.1 (tgt := 61) dL_zonesOf_22 (by decide) (rfl : _ = 25) (fun _ => ?_) (fun c_n => absurd (nI_lt (by omega) (by omega)) c_n)
      refine V_iload Y.1 1 dL_zonesOf_61 (rfl : _ = 63) rfl ?_
      exact V_ret Y.1 dL_zonesOf_63 rfl (by omega) (by omega) (by rw [show ln_pairs M.2.1 f g = ln_prs M.2.1 (min f g) j by unfold ln_pairs; congr 1; omega])
    | succ r ih =>
      intro j H q9 g9 hr hq9 o0 harr hmk
      have hJ1 := hJ.new o0
      have hw : min f g + j < 12 := by omega
      obtain ⟨z, hz1, hz6, hz⟩ := hzo (min f g + j) hw
      have hm := hmk _ hw z hz6 hz
      have hpl := ln_prs_le M.2.1 (min f g) j
      refine V_iload Y.1 0 dL_zonesOf_15 (rfl : _ = 17) rfl ?_
      refine V_iload_n Y.1 4 dL_zonesOf_17 (rfl : _ = 18) rfl rfl ?_
      refine V_iload_n Y.1 5 dL_zonesOf_18 (rfl : _ = 19) rfl rfl ?_
      refine V_mmax Y.1 mw_L_175 (Nat.le_of_ble_eq_true rfl) (Nat.le_of_ble_eq_true rfl) (by show _ ≤ 100; omega) (by show _ ≤ 600; omega) dL_zonesOf_19 (rfl : _ = 22) ?_
      refine V_nm (v := nI (max f g)) (mx_nI (by omega) (by omega)) ?_
      refine V_icmp_gt Y.1 (tgt := 61) dL_zonesOf_22 (by decide) (rfl : _ = 25) (fun c_n => absurd c_n (nI_nlt (by omega) (by omega))) (fun _ => ?_)
      refine V_iload Y.1 1 dL_zonesOf_25 (rfl : _ = 27) rfl ?_
      refine V_aload_n Y.1 2 dL_zonesOf_27 (rfl : _ = 28) rfl rfl ?_
      refine V_aload_n Y.1 3 dL_zonesOf_28 (rfl : _ = 29) rfl rfl ?_
      refine V_iload Y.1 0 dL_zonesOf_29 (rfl : _ = 31) rfl ?_
      refine V_cPk Y (sV Z (c_D_zone l D kA Hs σ _ hJ1.ag a M s n t q u p no go ns X (min f g + j) hJ1 hnt hw) mi_X5_zone vi_L_48 rfl hJ1.rcv.choose_spec rfl rfl (Nat.le_of_ble_eq_true rfl) ⟨Nat.le_of_ble_eq_true rfl, Nat.le_of_ble_eq_true rfl⟩ (by show _ ≤ 100; omega) (by show _ ≤ 600; omega) dL_zonesOf_31) (fun _ z => z.elim) (rfl : _ = 34) ?_
      refine V_nm (v := nI z) hz ?_
      refine V_zald Y.1 (v := (g9 z)) harr (vp_in_nI (by omega) (by decide)) (by rw [nI_clamp (by omega)]) dL_zonesOf_34 (rfl : _ = 35) ?_
      refine V_if_eq Y.1 (tgt := 42) dL_zonesOf_35 (by decide) (rfl : _ = 38) (fun c_35 => ?_) (fun c_35 => ?_)
      · refine V_iconst Y.1 (v := 1) dL_zonesOf_42 (rfl : _ = 43) (by decide) ?_
        refine V_iadd Y.1 dL_zonesOf_43 (rfl : _ = 44) ?_
        refine V_nm (v := nI (ln_prs M.2.1 (min f g) (j + 1))) (by rw [ln_prs_s]; first | (rw [if_pos (hm.mp ‹_›)]; exact nI_add _ 1) | (rw [if_neg (fun z9 => absurd (hm.mpr z9) ‹_›)]; exact Int32.add_zero _)) ?_
        refine V_istore Y.1 (ls' := [(4, _), (5, _), (3, _), (0, _), (1, _), (2, _)]) dL_zonesOf_44 (rfl : _ = 46) (by decide) rfl ?_
        refine V_aload_n Y.1 2 dL_zonesOf_46 (rfl : _ = 47) rfl rfl ?_
        refine V_aload_n Y.1 3 dL_zonesOf_47 (rfl : _ = 48) rfl rfl ?_
        refine V_iload Y.1 1 dL_zonesOf_48 (rfl : _ = 50) rfl ?_
        refine V_cPk Y (sV Z (c_D_zone l D kA Hs σ _ hJ1.ag a M s n t q u p no go ns X (min f g + j) hJ1 hnt hw) mi_X5_zone vi_L_48 rfl hJ1.rcv.choose_spec rfl rfl (Nat.le_of_ble_eq_true rfl) ⟨Nat.le_of_ble_eq_true rfl, Nat.le_of_ble_eq_true rfl⟩ (by show _ ≤ 100; omega) (by show _ ≤ 600; omega) dL_zonesOf_50) (fun _ z => z.elim) (rfl : _ = 53) ?_
        refine V_nm (v := nI z) hz ?_
        refine V_iconst Y.1 (v := 1) dL_zonesOf_53 (rfl : _ = 54) (by decide) ?_
        refine V_zast Y.1 harr (Or.inr hq9) (vp_in_nI (by omega) (by decide)) rfl dL_zonesOf_54 (rfl : _ = 55) (fun H54_24 h_new o_54 => ?_)
        have harr := h_new
        clear h_new
        rw [nI_clamp (by omega)] at harr
        refine V_iinc Y.1 (v := nI (min f g + (j + 1))) (ls' := [(5, _), (4, _), (3, _), (0, _), (1, _), (2, _)]) 1 dL_zonesOf_55 (rfl : _ = 58) rfl (nI_add _ 1) (by decide) rfl ?_
        refine V_goto Y.1 (tgt := 15) dL_zonesOf_58 (by decide) ?_
        exact V_forget (ls' := [(5, _), (4, _), (3, _), (0, _), (1, _), (2, _)]) [0, 1, 2, 3, 4, 5] rfl (V_widen (by omega) (by omega) (ih (j + 1) _ q9 _ (by omega) hq9 (o0.put0 o_54 hq9) harr (mk_step hz1 hz6 hz hmk)))
      · refine V_iconst Y.1 (v := 0) dL_zonesOf_38 (rfl : _ = 39) (by decide) ?_
        refine V_goto Y.1 (tgt := 43) dL_zonesOf_39 (by decide) ?_
        refine V_iadd Y.1 dL_zonesOf_43 (rfl : _ = 44) ?_
        refine V_nm (v := nI (ln_prs M.2.1 (min f g) (j + 1))) (by rw [ln_prs_s]; first | (rw [if_pos (hm.mp ‹_›)]; exact nI_add _ 1) | (rw [if_neg (fun z9 => absurd (hm.mpr z9) ‹_›)]; exact Int32.add_zero _)) ?_
        refine V_istore Y.1 (ls' := [(4, _), (5, _), (3, _), (0, _), (1, _), (2, _)]) dL_zonesOf_44 (rfl : _ = 46) (by decide) rfl ?_
        refine V_aload_n Y.1 2 dL_zonesOf_46 (rfl : _ = 47) rfl rfl ?_
        refine V_aload_n Y.1 3 dL_zonesOf_47 (rfl : _ = 48) rfl rfl ?_
        refine V_iload Y.1 1 dL_zonesOf_48 (rfl : _ = 50) rfl ?_
        refine V_cPk Y (sV Z (c_D_zone l D kA Hs σ _ hJ1.ag a M s n t q u p no go ns X (min f g + j) hJ1 hnt hw) mi_X5_zone vi_L_48 rfl hJ1.rcv.choose_spec rfl rfl (Nat.le_of_ble_eq_true rfl) ⟨Nat.le_of_ble_eq_true rfl, Nat.le_of_ble_eq_true rfl⟩ (by show _ ≤ 100; omega) (by show _ ≤ 600; omega) dL_zonesOf_50) (fun _ z => z.elim) (rfl : _ = 53) ?_
        refine V_nm (v := nI z) hz ?_
        refine V_iconst Y.1 (v := 1) dL_zonesOf_53 (rfl : _ = 54) (by decide) ?_
        refine V_zast Y.1 harr (Or.inr hq9) (vp_in_nI (by omega) (by decide)) rfl dL_zonesOf_54 (rfl : _ = 55) (fun H54_42 h_new o_54 => ?_)
        have harr := h_new
        clear h_new
        rw [nI_clamp (by omega)] at harr
        refine V_iinc Y.1 (v := nI (min f g + (j + 1))) (ls' := [(5, _), (4, _), (3, _), (0, _), (1, _), (2, _)]) 1 dL_zonesOf_55 (rfl : _ = 58) rfl (nI_add _ 1) (by decide) rfl ?_
        refine V_goto Y.1 (tgt := 15) dL_zonesOf_58 (by decide) ?_
        exact V_forget (ls' := [(5, _), (4, _), (3, _), (0, _), (1, _), (2, _)]) [0, 1, 2, 3, 4, 5] rfl (V_widen (by omega) (by omega) (ih (j + 1) _ q9 _ (by omega) hq9 (o0.put0 o_54 hq9) harr (mk_step hz1 hz6 hz hmk)))
  refine V_bipush Y.1 (v := 7) dL_zonesOf_0 (rfl : _ = 2) (by decide) ?_
  refine V_newZ Y.1 (N := 7) ac_boolean (by decide) (by decide) (Nat.le_of_ble_eq_true rfl) (by show _ ≤ 100; omega) (by show _ ≤ 600; omega) dL_zonesOf_2 (rfl : _ = 4) (fun H2_1 q_2 eq_2 z_2 h_new o_2 => ?_)
  have harr := h_new
  refine V_astore_n Y.1 (ls' := [(3, _), (0, _), (1, _), (2, _)]) dL_zonesOf_4 (rfl : _ = 5) rfl (by decide) rfl ?_
  refine V_iconst Y.1 (v := 0) dL_zonesOf_5 (rfl : _ = 6) (by decide) ?_
  refine V_istore Y.1 (ls' := [(4, _), (3, _), (0, _), (1, _), (2, _)]) dL_zonesOf_6 (rfl : _ = 8) (by decide) rfl ?_
  refine V_iload_n Y.1 3 dL_zonesOf_8 (rfl : _ = 9) rfl rfl ?_
  refine V_iload_n Y.1 4 dL_zonesOf_9 (rfl : _ = 10) rfl rfl ?_
  refine V_mmin Y.1 mw_L_170 (Nat.le_of_ble_eq_true rfl) (Nat.le_of_ble_eq_true rfl) (by show _ ≤ 100; omega) (by show _ ≤ 600; omega) dL_zonesOf_10 (rfl : _ = 13) ?_
  refine V_nm (v := nI (min f g)) (mn_nI (by omega) (by omega)) ?_
  refine V_istore Y.1 (ls' := [(5, _), (4, _), (3, _), (0, _), (1, _), (2, _)]) dL_zonesOf_13 (rfl : _ = 15) (by decide) rfl ?_
  exact V_forget (ls' := [(5, _), (4, _), (3, _), (0, _), (1, _), (2, _)]) [0, 1, 2, 3, 4, 5] rfl (lp (max f g + 1 - min f g) 0 _ _ _ (by omega) (by omega) o_2 harr (fun w hw z hz e => ⟨fun _ => rfl, fun _ => rfl⟩))

set_option maxRecDepth 100000 in
set_option maxHeartbeats 4000000 in
theorem c_L_price (l : Launch) (D : va_G) (kA : Nat → ClassId) (Hs : Heap) (σ : SG) (H0 : Heap) (hg : Ag Hs H0) (a : Nat) (M : MS) (s : Nat → Int32) (n t q u : Nat) (p : Nat → Nat → Int32) (no : Nat) (go : Nat → Int32) (ns : Nat) (X : Nat → Prop) (i f g : Nat) (hJ : Lw D kA Hs H0 a M s n t q u p no go ns X) (hnt : l.stackTraces = false) (hi : i < n) (hf : f < 12) (hg9 : g < 12) : CtS l D kA Hs σ yL_price cL_price 5 (some .int) 11 186 110 640 H0 [.ref a, .int (nI i), .int (nI f), .int (nI g)] (nof) (pI fun v9 H => v9 = k_price (M.2.2.2.1 i) (ln_fare M.2.1 (M.1 7) (M.1 8) f g)) := by
  refine CtS.of mi_L_price (Nat.le_of_ble_eq_true rfl) (ls0 := [(0, _), (1, _), (2, _), (3, _)]) rfl hg (fun _ z => z.elim) ?_
  intro Pp Ee Ss Mm Ar Bl Me Cc Z hsH hnm
  have Y := Z.1
  have hq := hJ.sq
  have h8 := hq.1.1.1.2.1
  have hz01 := hq.1.hok i (by rw [hq.1.1.2.1.1, hq.1.1.1.1]; exact nI_lt hi (by omega)) (by omega) 0 (Or.inl rfl)
  have efare : M.1 7 + (nI (ln_pairs M.2.1 f g) - 1) * M.1 8 = ln_fare M.2.1 (M.1 7) (M.1 8) f g := by
    unfold ln_fare
    rw [(zc hq.1.1.zo hf hg9).1, Int32.mul_comm]
  refine V_aload_n Y.1 0 dL_price_0 (rfl : _ = 1) rfl rfl ?_
  refine V_cPk Y (sV Z (c_D_baseFare l D kA Hs σ _ hJ.ag a M s n t q u p no go ns X hJ hnt) mi_X5_baseFare vi_L_178 rfl hJ.rcv.choose_spec rfl rfl (Nat.le_of_ble_eq_true rfl) ⟨Nat.le_of_ble_eq_true rfl, Nat.le_of_ble_eq_true rfl⟩ (by show _ ≤ 110; omega) (by show _ ≤ 640; omega) dL_price_1) (fun _ z => z.elim) (rfl : _ = 4) ?_
  refine V_aload_n Y.1 0 dL_price_4 (rfl : _ = 5) rfl rfl ?_
  refine V_iload_n Y.1 2 dL_price_5 (rfl : _ = 6) rfl rfl ?_
  refine V_iload_n Y.1 3 dL_price_6 (rfl : _ = 7) rfl rfl ?_
  refine V_cI Y (sS Z (c_L_zonesOf l D kA Hs σ _ hJ.ag a M s n t q u p no go ns X f g hJ hnt hf hg9) mi_L_zonesOf si_L_181 rfl rfl (Nat.le_of_ble_eq_true rfl) ⟨Nat.le_of_ble_eq_true rfl, Nat.le_of_ble_eq_true rfl⟩ (by show _ ≤ 110; omega) (by show _ ≤ 640; omega) dL_price_7) (fun _ z => z.elim) (rfl : _ = 10) (fun v_7 H7_5 hq_7 o_7 => ?_)
  obtain rfl := hq_7
  have hJ := hJ.new o_7
  refine V_iconst Y.1 (v := 1) dL_price_10 (rfl : _ = 11) (by decide) ?_
  refine V_isub Y.1 dL_price_11 (rfl : _ = 12) ?_
  refine V_aload_n Y.1 0 dL_price_12 (rfl : _ = 13) rfl rfl ?_
  refine V_cPk Y (sV Z (c_D_zoneFare l D kA Hs σ _ hJ.ag a M s n t q u p no go ns X hJ hnt) mi_X5_zoneFare vi_L_184 rfl hJ.rcv.choose_spec rfl rfl (Nat.le_of_ble_eq_true rfl) ⟨Nat.le_of_ble_eq_true rfl, Nat.le_of_ble_eq_true rfl⟩ (by show _ ≤ 110; omega) (by show _ ≤ 640; omega) dL_price_13) (fun _ z => z.elim) (rfl : _ = 16) ?_
  refine V_imul Y.1 dL_price_16 (rfl : _ = 17) ?_
  refine V_iadd Y.1 dL_price_17 (rfl : _ = 18) ?_
  refine V_nm (v := ln_fare M.2.1 (M.1 7) (M.1 8) f g) efare ?_
  refine V_istore Y.1 (ls' := [(4, _), (0, _), (1, _), (2, _), (3, _)]) dL_price_18 (rfl : _ = 20) (by decide) rfl ?_
  refine V_aload_n Y.1 1 dL_price_20 (rfl : _ = 21) rfl rfl ?_
  refine V_iload_n Y.1 2 dL_price_21 (rfl : _ = 22) rfl rfl ?_
  refine V_cPk Y (sV Z (c_D_isReduced l D kA Hs σ _ hJ.ag a M s n t q u p no go ns X i hJ hnt hi) mi_X5_isReduced vi_L_66 rfl hJ.rcv.choose_spec rfl rfl (Nat.le_of_ble_eq_true rfl) ⟨Nat.le_of_ble_eq_true rfl, Nat.le_of_ble_eq_true rfl⟩ (by show _ ≤ 110; omega) (by show _ ≤ 640; omega) dL_price_22) (fun _ z => z.elim) (rfl : _ = 25) ?_
  refine V_if_eq Y.1 (tgt := 35) dL_price_25 (by decide) (rfl : _ = 28) (fun c_25 => ?_) (fun c_25 => ?_)
  · refine V_iload Y.1 0 dL_price_35 (rfl : _ = 37) rfl ?_
    exact V_ret Y.1 dL_price_37 rfl (by omega) (by omega) (by unfold k_price; first | rw [if_pos ‹_›] | rw [if_neg ‹_›])
  · refine V_iload Y.1 0 dL_price_28 (rfl : _ = 30) rfl ?_
    refine V_iconst Y.1 (v := 2) dL_price_30 (rfl : _ = 31) (by decide) ?_
    refine V_idiv Y.1 dL_price_31 (rfl : _ = 32) (by decide) ?_
    refine V_goto Y.1 (tgt := 37) dL_price_32 (by decide) ?_
    exact V_ret Y.1 dL_price_37 rfl (by omega) (by omega) (by unfold k_price; first | rw [if_pos ‹_›] | rw [if_neg ‹_›])

set_option maxRecDepth 100000 in
set_option maxHeartbeats 4000000 in
theorem c_L_capOf (l : Launch) (D : va_G) (kA : Nat → ClassId) (Hs : Heap) (σ : SG) (H0 : Heap) (hg : Ag Hs H0) (a : Nat) (M : MS) (s : Nat → Int32) (n t q u : Nat) (p : Nat → Nat → Int32) (no : Nat) (go : Nat → Int32) (ns : Nat) (X : Nat → Prop) (i : Nat) (hJ : Lw D kA Hs H0 a M s n t q u p no go ns X) (hnt : l.stackTraces = false) (hi : i < n) : CtS l D kA Hs σ yL_capOf cL_capOf 2 (some .int) 10 162 10 60 H0 [.ref a, .int (nI i)] (nof) (pI fun v9 H => v9 = k_cap (M.2.2.2.1 i) ∧ H = H0) := by
  refine CtS.of mi_L_capOf (Nat.le_of_ble_eq_true rfl) (ls0 := [(0, _), (1, _)]) rfl hg (fun _ z => z.elim) ?_
  intro Pp Ee Ss Mm Ar Bl Me Cc Z hsH hnm
  have Y := Z.1
  refine V_aload_n Y.1 0 dL_capOf_0 (rfl : _ = 1) rfl rfl ?_
  refine V_iload_n Y.1 1 dL_capOf_1 (rfl : _ = 2) rfl rfl ?_
  refine V_cPk Y (sV Z (c_D_isReduced l D kA Hs σ _ hJ.ag a M s n t q u p no go ns X i hJ hnt hi) mi_X5_isReduced vi_L_66 rfl hJ.rcv.choose_spec rfl rfl (Nat.le_of_ble_eq_true rfl) ⟨Nat.le_of_ble_eq_true rfl, Nat.le_of_ble_eq_true rfl⟩ (by show _ ≤ 10; omega) (by show _ ≤ 60; omega) dL_capOf_2) (fun _ z => z.elim) (rfl : _ = 5) ?_
  refine V_if_eq Y.1 (tgt := 14) dL_capOf_5 (by decide) (rfl : _ = 8) (fun c_5 => ?_) (fun c_5 => ?_)
  · refine V_sipush Y.1 (v := 700) dL_capOf_14 (rfl : _ = 17) (by decide) ?_
    exact V_ret Y.1 dL_capOf_17 rfl (by omega) (by omega) ⟨by unfold k_cap; first | rw [if_pos ‹_›] | rw [if_neg ‹_›], rfl⟩
  · refine V_sipush Y.1 (v := 350) dL_capOf_8 (rfl : _ = 11) (by decide) ?_
    refine V_goto Y.1 (tgt := 17) dL_capOf_11 (by decide) ?_
    exact V_ret Y.1 dL_capOf_17 rfl (by omega) (by omega) ⟨by unfold k_cap; first | rw [if_pos ‹_›] | rw [if_neg ‹_›], rfl⟩

