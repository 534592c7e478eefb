set_option maxRecDepth 100000 in
set_option maxHeartbeats 4000000 in
theorem c_X3_enterAt (l : Launch) (D : va_G) (kA : Nat → ClassId) (H0 : Heap) (m : Nat) (M : MS) (ES : Nat → Prop) (i : Nat) (hi : i < 8) (w : Nat) (hw : w < 12) (d : Nat) (hd : M.1 1 / 1440 = nI d) (hd2 : d < 2 ^ 31) (hM : Mc D kA H0 m M ES) : Ct l D kA yX3_enterAt cX3_enterAt 4 (some .boolean) 4 93 1 3 H0 [.ref m, .int (nI i), .int (nI w)] (blk m 29) (pI fun v H => v = (m_enterAt M i w d).1 ∧ Mc D kA H m (m_enterAt M i w d).2 (gro ES H0 H)) := by
  refine Ct.of mi_X3_enterAt (Nat.le_of_ble_eq_true rfl) (ls0 := [(0, _), (1, _), (2, _)]) rfl ?_
  intro Pp Ee Ss Mm Ar Bl Me Cc Y hs hnm
  obtain ⟨E, hK⟩ := id hM
  have sz : H0.size = H0.size := rfl
  refine V_aload_n Y.1 0 dX3_enterAt_0 (rfl : _ = 1) rfl rfl ?_
  refine V_get Y.1 fi_X3_20 hK.1.1 rfl dX3_enterAt_1 (rfl : _ = 4) ?_
  refine V_iload_n Y.1 1 dX3_enterAt_4 (rfl : _ = 5) rfl rfl ?_
  refine V_aldK Y.1 (v := m_ca m i) hK.1.2.2.1 (by first | assumption | exact vp_in_nI (by omega) (by omega)) (by rw [nI_clamp (by omega)]) dX3_enterAt_5 (rfl : _ = 6) ?_
  refine V_astore_n Y.1 (ls' := [(3, _), (0, _), (1, _), (2, _)]) dX3_enterAt_6 (rfl : _ = 7) rfl (by decide) rfl ?_
  refine V_aload_n Y.1 0 dX3_enterAt_7 (rfl : _ = 8) rfl rfl ?_
  refine V_get Y.1 fi_X3_90 (hK.1.2.2.2 i hi).1 rfl dX3_enterAt_8 (rfl : _ = 11) ?_
  refine V_if_eq Y.1 (tgt := 23) dX3_enterAt_11 (by decide) (rfl : _ = 14) (fun c_11 => ?_) (fun c_11 => ?_)
  · refine V_aload_n Y.1 1 dX3_enterAt_23 (rfl : _ = 24) rfl rfl ?_
    refine V_get Y.1 fi_X3_12 hK.1.1 rfl dX3_enterAt_24 (rfl : _ = 27) ?_
    refine V_get Y.1 fi_X3_135 hK.1.2.1.1 rfl dX3_enterAt_27 (rfl : _ = 30) ?_
    refine V_iload_n Y.1 3 dX3_enterAt_30 (rfl : _ = 31) rfl rfl ?_
    refine V_dup2 Y.1 dX3_enterAt_31 (rfl : _ = 32) rfl rfl ?_
    refine V_iald Y.1 hK.1.2.1.2.2 (by first | assumption | exact vp_in_nI (by omega) (by omega)) rfl dX3_enterAt_32 (rfl : _ = 33) ?_
    refine V_iconst Y.1 (v := 1) dX3_enterAt_33 (rfl : _ = 34) (by decide) ?_
    refine V_iadd Y.1 dX3_enterAt_34 (rfl : _ = 35) ?_
    refine V_iast Y.1 hK.1.2.1.2.2 (Or.inl ⟨by omega, by omega⟩) (by first | assumption | exact vp_in_nI (by omega) (by omega)) dX3_enterAt_35 (rfl : _ = 36) (fun H35_16 h_new o_35 => ?_)
    rw [nI_clamp (by omega)] at h_new
    have hK : Mk D kA _ m (m_tap M w) _ _ := hK.line (o_35.off ⟨by omega, by omega⟩) _ _ _ ⟨hK.1.2.1.1.sto o_35 (by omega), hK.1.2.1.2.1.sto o_35 (by omega), h_new⟩ (fun _ _ => rfl)
    have sz : Array.size H35_16 = H0.size := o_35.1.trans sz
    clear h_new
    refine V_aload_n Y.1 0 dX3_enterAt_36 (rfl : _ = 37) rfl rfl ?_
    refine V_iload_n Y.1 3 dX3_enterAt_37 (rfl : _ = 38) rfl rfl ?_
    refine V_aload_n Y.1 1 dX3_enterAt_38 (rfl : _ = 39) rfl rfl ?_
    refine V_get Y.1 fi_X3_36 hK.1.1 rfl dX3_enterAt_39 (rfl : _ = 42) ?_
    refine V_cI Y (rV Y (c_X0_beginTrip l D kA _ _ _ _ (nI w) (((m_tap M w)).1 1) (hK.1.2.2.2 i hi)) mi_X0_beginTrip vi_X3_139 rfl (hK.1.2.2.2 i hi).1 rfl rfl (Nat.le_of_ble_eq_true rfl) ⟨Nat.le_of_ble_eq_true rfl, Nat.le_of_ble_eq_true rfl⟩ (Nat.le_of_ble_eq_true rfl) (Nat.le_of_ble_eq_true rfl) dX3_enterAt_42) (fun q hq => Or.inl (blk_sub (by unfold m_ca; omega) (by unfold m_ca; omega) q hq)) (rfl : _ = 45) (fun v_42 H42_25 hq_42 o_42 => ?_)
    obtain ⟨hv, hC, z42⟩ := hq_42
    have hK : Mk D kA _ m (m_card (m_tap M w) i (k_begin (((m_tap M w)).2.2.2.1 i) (nI w) (((m_tap M w)).1 1))) _ _ := hK.card hi o_42 hC
    have sz : Array.size H42_25 = H0.size := z42.trans sz
    have e9 : m_enterAt M i w d = (k_cont ((m_tap M w).2.2.2.1 i) (nI w) ((m_tap M w).1 1), m_card (m_tap M w) i (k_begin ((m_tap M w).2.2.2.1 i) (nI w) ((m_tap M w).1 1))) := by unfold m_enterAt; simp only [if_pos c_11]
    rw [e9]
    have hz1 : narrow .boolean (.int v_42) = .int v_42 := by rw [hv]; exact nb_z (by unfold k_cont; split <;> simp)
    exact V_ret Y.1 dX3_enterAt_45 hz1 (Nat.le_of_ble_eq_true rfl) (Nat.le_of_ble_eq_true rfl) ⟨hv, ⟨_, by rw [gro_z sz]; exact hK⟩⟩
  · refine V_aload_n Y.1 1 dX3_enterAt_14 (rfl : _ = 15) rfl rfl ?_
    refine V_aload_n Y.1 0 dX3_enterAt_15 (rfl : _ = 16) rfl rfl ?_
    refine V_aload_n Y.1 1 dX3_enterAt_16 (rfl : _ = 17) rfl rfl ?_
    refine V_cP Y (rV Y (c_X3_presentDay l D kA _ m M ES hM) mi_X3_presentDay vi_X3_54 rfl hK.1.1 rfl rfl (Nat.le_of_ble_eq_true rfl) ⟨Nat.le_of_ble_eq_true rfl, Nat.le_of_ble_eq_true rfl⟩ (Nat.le_of_ble_eq_true rfl) (Nat.le_of_ble_eq_true rfl) dX3_enterAt_17) (rfl : _ = 20) ?_
    refine V_nm (v := nI d) hd ?_
    refine V_cV Y (rV Y (c_X3_makeIncomplete l D kA _ m M ES i hi d hd2 hM) mi_X3_makeIncomplete vi_X3_131 rfl hK.1.1 rfl rfl (Nat.le_of_ble_eq_true rfl) ⟨Nat.le_of_ble_eq_true rfl, Nat.le_of_ble_eq_true rfl⟩ (Nat.le_of_ble_eq_true rfl) (Nat.le_of_ble_eq_true rfl) dX3_enterAt_20) (fun q hq => Or.inl hq) (rfl : _ = 23) (fun H20_35 hq_20 o_20 => ?_)
    obtain ⟨⟨E, hK⟩, z20⟩ := hq_20
    have sz : Array.size H20_35 = H0.size + 1 := z20
    refine V_aload_n Y.1 1 dX3_enterAt_23 (rfl : _ = 24) rfl rfl ?_
    refine V_get Y.1 fi_X3_12 hK.1.1 rfl dX3_enterAt_24 (rfl : _ = 27) ?_
    refine V_get Y.1 fi_X3_135 hK.1.2.1.1 rfl dX3_enterAt_27 (rfl : _ = 30) ?_
    refine V_iload_n Y.1 3 dX3_enterAt_30 (rfl : _ = 31) rfl rfl ?_
    refine V_dup2 Y.1 dX3_enterAt_31 (rfl : _ = 32) rfl rfl ?_
    refine V_iald Y.1 hK.1.2.1.2.2 (by first | assumption | exact vp_in_nI (by omega) (by omega)) rfl dX3_enterAt_32 (rfl : _ = 33) ?_
    refine V_iconst Y.1 (v := 1) dX3_enterAt_33 (rfl : _ = 34) (by decide) ?_
    refine V_iadd Y.1 dX3_enterAt_34 (rfl : _ = 35) ?_
    refine V_iast Y.1 hK.1.2.1.2.2 (Or.inl ⟨by omega, by omega⟩) (by first | assumption | exact vp_in_nI (by omega) (by omega)) dX3_enterAt_35 (rfl : _ = 36) (fun H35_46 h_new o_35 => ?_)
    rw [nI_clamp (by omega)] at h_new
    have hK : Mk D kA _ m (m_tap (m_inc M i d) w) _ _ := hK.line (o_35.off ⟨by omega, by omega⟩) _ _ _ ⟨hK.1.2.1.1.sto o_35 (by omega), hK.1.2.1.2.1.sto o_35 (by omega), h_new⟩ (fun _ _ => rfl)
    have sz : Array.size H35_46 = H0.size + 1 := o_35.1.trans sz
    clear h_new
    refine V_aload_n Y.1 0 dX3_enterAt_36 (rfl : _ = 37) rfl rfl ?_
    refine V_iload_n Y.1 3 dX3_enterAt_37 (rfl : _ = 38) rfl rfl ?_
    refine V_aload_n Y.1 1 dX3_enterAt_38 (rfl : _ = 39) rfl rfl ?_
    refine V_get Y.1 fi_X3_36 hK.1.1 rfl dX3_enterAt_39 (rfl : _ = 42) ?_
    refine V_cI Y (rV Y (c_X0_beginTrip l D kA _ _ _ _ (nI w) (((m_tap (m_inc M i d) w)).1 1) (hK.1.2.2.2 i hi)) mi_X0_beginTrip vi_X3_139 rfl (hK.1.2.2.2 i hi).1 rfl rfl (Nat.le_of_ble_eq_true rfl) ⟨Nat.le_of_ble_eq_true rfl, Nat.le_of_ble_eq_true rfl⟩ (Nat.le_of_ble_eq_true rfl) (Nat.le_of_ble_eq_true rfl) dX3_enterAt_42) (fun q hq => Or.inl (blk_sub (by unfold m_ca; omega) (by unfold m_ca; omega) q hq)) (rfl : _ = 45) (fun v_42 H42_55 hq_42 o_42 => ?_)
    obtain ⟨hv, hC, z42⟩ := hq_42
    have hK : Mk D kA _ m (m_card (m_tap (m_inc M i d) w) i (k_begin (((m_tap (m_inc M i d) w)).2.2.2.1 i) (nI w) (((m_tap (m_inc M i d) w)).1 1))) _ _ := hK.card hi o_42 hC
    have sz : Array.size H42_55 = H0.size + 1 := z42.trans sz
    have e9 : m_enterAt M i w d = (k_cont ((m_tap (m_inc M i d) w).2.2.2.1 i) (nI w) ((m_tap (m_inc M i d) w).1 1), m_card (m_tap (m_inc M i d) w) i (k_begin ((m_tap (m_inc M i d) w).2.2.2.1 i) (nI w) ((m_tap (m_inc M i d) w).1 1))) := by unfold m_enterAt; simp only [if_neg c_11]
    rw [e9]
    have hz1 : narrow .boolean (.int v_42) = .int v_42 := by rw [hv]; exact nb_z (by unfold k_cont; split <;> simp)
    exact V_ret Y.1 dX3_enterAt_45 hz1 (Nat.le_of_ble_eq_true rfl) (Nat.le_of_ble_eq_true rfl) ⟨hv, ⟨_, by rw [← gro_eq (show _ = _ from z20.trans sz.symm)]; exact hK⟩⟩

set_option maxRecDepth 100000 in
set_option maxHeartbeats 4000000 in
theorem c_X3_leaveAt (l : Launch) (D : va_G) (kA : Nat → ClassId) (H0 : Heap) (m : Nat) (M : MS) (ES : Nat → Prop) (i : Nat) (hi : i < 8) (j w : Nat) (hj : (M.2.2.2.1 i).1 5 = nI j) (hj2 : j < 12) (hw : w < 12) (d : Nat) (hd : M.1 1 / 1440 = nI d) (hd2 : d < 2 ^ 31) (hM : Mc D kA H0 m M ES) : Ct l D kA yX3_leaveAt cX3_leaveAt 5 (some .int) 4 95 1 3 H0 [.ref m, .int (nI i), .int (nI w)] (blk m 29) (pI fun v H => v = m_leaveX M i j w d ∧ Mc D kA H m (m_leave M i w d (m_leaveX M i j w d)) (gro ES H0 H)) := by
  refine Ct.of mi_X3_leaveAt (Nat.le_of_ble_eq_true rfl) (ls0 := [(0, _), (1, _), (2, _)]) rfl ?_
  intro Pp Ee Ss Mm Ar Bl Me Cc Y hs hnm
  obtain ⟨E, hK⟩ := id hM
  have sz : H0.size = H0.size := rfl
  refine V_aload_n Y.1 0 dX3_leaveAt_0 (rfl : _ = 1) rfl rfl ?_
  refine V_get Y.1 fi_X3_20 hK.1.1 rfl dX3_leaveAt_1 (rfl : _ = 4) ?_
  refine V_iload_n Y.1 1 dX3_leaveAt_4 (rfl : _ = 5) rfl rfl ?_
  refine V_aldK Y.1 (v := m_ca m i) hK.1.2.2.1 (by first | assumption | exact vp_in_nI (by omega) (by omega)) (by rw [nI_clamp (by omega)]) dX3_leaveAt_5 (rfl : _ = 6) ?_
  refine V_astore_n Y.1 (ls' := [(3, _), (0, _), (1, _), (2, _)]) dX3_leaveAt_6 (rfl : _ = 7) rfl (by decide) rfl ?_
  refine V_aload_n Y.1 0 dX3_leaveAt_7 (rfl : _ = 8) rfl rfl ?_
  refine V_aload_n Y.1 1 dX3_leaveAt_8 (rfl : _ = 9) rfl rfl ?_
  refine V_get Y.1 fi_X3_12 hK.1.1 rfl dX3_leaveAt_9 (rfl : _ = 12) ?_
  refine V_iload_n Y.1 3 dX3_leaveAt_12 (rfl : _ = 13) rfl rfl ?_
  refine V_aload_n Y.1 1 dX3_leaveAt_13 (rfl : _ = 14) rfl rfl ?_
  refine V_cP Y (rV Y (c_X3_presentDay l D kA _ m M ES hM) mi_X3_presentDay vi_X3_54 rfl hK.1.1 rfl rfl (Nat.le_of_ble_eq_true rfl) ⟨Nat.le_of_ble_eq_true rfl, Nat.le_of_ble_eq_true rfl⟩ (Nat.le_of_ble_eq_true rfl) (Nat.le_of_ble_eq_true rfl) dX3_leaveAt_14) (rfl : _ = 17) ?_
  refine V_nm (v := nI d) hd ?_
  refine V_cP Y (rV Y (c_X0_tripCharge l D kA _ _ _ _ _ _ _ _ _ j w d hd2 (hK.1.2.2.2 i hi) hK.1.2.1 hj hj2 hw) mi_X0_tripCharge vi_X3_142 rfl (hK.1.2.2.2 i hi).1 rfl rfl (Nat.le_of_ble_eq_true rfl) ⟨Nat.le_of_ble_eq_true rfl, Nat.le_of_ble_eq_true rfl⟩ (Nat.le_of_ble_eq_true rfl) (Nat.le_of_ble_eq_true rfl) dX3_leaveAt_17) (rfl : _ = 20) ?_
  refine V_nm (v := (m_leaveX M i j w d)) rfl ?_
  refine V_istore Y.1 (ls' := [(4, _), (3, _), (0, _), (1, _), (2, _)]) dX3_leaveAt_20 (rfl : _ = 22) (by decide) rfl ?_
  refine V_aload_n Y.1 1 dX3_leaveAt_22 (rfl : _ = 23) rfl rfl ?_
  refine V_aload_n Y.1 2 dX3_leaveAt_23 (rfl : _ = 24) rfl rfl ?_
  refine V_cP Y (rV Y (c_X3_presentDay l D kA _ m M ES hM) mi_X3_presentDay vi_X3_54 rfl hK.1.1 rfl rfl (Nat.le_of_ble_eq_true rfl) ⟨Nat.le_of_ble_eq_true rfl, Nat.le_of_ble_eq_true rfl⟩ (Nat.le_of_ble_eq_true rfl) (Nat.le_of_ble_eq_true rfl) dX3_leaveAt_24) (rfl : _ = 27) ?_
  refine V_nm (v := nI d) hd ?_
  refine V_iload Y.1 0 dX3_leaveAt_27 (rfl : _ = 29) rfl ?_
  refine V_cV Y (rV Y (c_X0_enter l D kA _ _ _ _ _ d hd2 (hK.1.2.2.2 i hi)) mi_X0_enter vi_X3_146 rfl (hK.1.2.2.2 i hi).1 rfl rfl (Nat.le_of_ble_eq_true rfl) ⟨Nat.le_of_ble_eq_true rfl, Nat.le_of_ble_eq_true rfl⟩ (Nat.le_of_ble_eq_true rfl) (Nat.le_of_ble_eq_true rfl) dX3_leaveAt_29) (fun q hq => Or.inl (blk_sub (by unfold m_ca; omega) (by unfold m_ca; omega) q hq)) (rfl : _ = 32) (fun H29_20 hq_29 o_29 => ?_)
  obtain ⟨z29, hC, he⟩ := hq_29
  have sz : Array.size H29_20 = H0.size + 1 := z29
  refine V_aload_n Y.1 1 dX3_leaveAt_32 (rfl : _ = 33) rfl rfl ?_
  refine V_iload_n Y.1 4 dX3_leaveAt_33 (rfl : _ = 34) rfl rfl ?_
  refine V_aload_n Y.1 2 dX3_leaveAt_34 (rfl : _ = 35) rfl rfl ?_
  refine V_get Y.1 fi_X3_36 (hK.1.1.off o_29 (fun z => by have := z.1; unfold m_ca at this; omega)) rfl dX3_leaveAt_35 (rfl : _ = 38) ?_
  refine V_iload Y.1 0 dX3_leaveAt_38 (rfl : _ = 40) rfl ?_
  refine V_cV Y (rV Y (c_X0_completeTrip l D kA _ _ _ _ _ _ _ hC) mi_X0_completeTrip vi_X3_150 rfl hC.1 rfl rfl (Nat.le_of_ble_eq_true rfl) ⟨Nat.le_of_ble_eq_true rfl, Nat.le_of_ble_eq_true rfl⟩ (Nat.le_of_ble_eq_true rfl) (Nat.le_of_ble_eq_true rfl) dX3_leaveAt_40) (fun q hq => Or.inl (blk_sub (by unfold m_ca; omega) (by unfold m_ca; omega) q hq)) (rfl : _ = 43) (fun H40_28 hq_40 o_40 => ?_)
  obtain ⟨hC, z40⟩ := hq_40
  have hK : Mk D kA _ m (m_book (m_card M i (k_complete (k_enter (M.2.2.2.1 i) d (m_leaveX M i j w d)) (nI w) (M.1 1) (m_leaveX M i j w d))) i (nI d, (m_leaveX M i j w d))) _ _ := hK.book hi (o_29.tr o_40) (by rw [z40, z29]) hC (he.off o_40 (fun z => by have := z.2; have := hK.1.1.lt; have := (hK.1.2.2.2 7 (by omega)).2.2.lt; unfold m_ca at *; omega))
  have sz : Array.size H40_28 = H0.size + 1 := z40.trans sz
  refine V_aload_n Y.1 2 dX3_leaveAt_43 (rfl : _ = 44) rfl rfl ?_
  refine V_get Y.1 fi_X3_12 hK.1.1 rfl dX3_leaveAt_44 (rfl : _ = 47) ?_
  refine V_get Y.1 fi_X3_135 hK.1.2.1.1 rfl dX3_leaveAt_47 (rfl : _ = 50) ?_
  refine V_iload_n Y.1 4 dX3_leaveAt_50 (rfl : _ = 51) rfl rfl ?_
  refine V_dup2 Y.1 dX3_leaveAt_51 (rfl : _ = 52) rfl rfl ?_
  refine V_iald Y.1 (v := M.2.2.1 w) hK.1.2.1.2.2 (by first | assumption | exact vp_in_nI (by omega) (by omega)) (by rw [nI_clamp (by omega)]; rfl) dX3_leaveAt_52 (rfl : _ = 53) ?_
  refine V_iconst Y.1 (v := 1) dX3_leaveAt_53 (rfl : _ = 54) (by decide) ?_
  refine V_iadd Y.1 dX3_leaveAt_54 (rfl : _ = 55) ?_
  refine V_iast Y.1 hK.1.2.1.2.2 (Or.inl ⟨by omega, by omega⟩) (by first | assumption | exact vp_in_nI (by omega) (by omega)) dX3_leaveAt_55 (rfl : _ = 56) (fun H55_40 h_new o_55 => ?_)
  rw [nI_clamp (by omega)] at h_new
  have hK : Mk D kA _ m (m_tap (m_book (m_card M i (k_complete (k_enter (M.2.2.2.1 i) d (m_leaveX M i j w d)) (nI w) (M.1 1) (m_leaveX M i j w d))) i (nI d, (m_leaveX M i j w d))) w) _ _ := hK.line (o_55.off ⟨by omega, by omega⟩) _ _ _ ⟨hK.1.2.1.1.sto o_55 (by omega), hK.1.2.1.2.1.sto o_55 (by omega), h_new⟩ (fun _ _ => rfl)
  have sz : Array.size H55_40 = H0.size + 1 := o_55.1.trans sz
  clear h_new
  refine V_aload_n Y.1 2 dX3_leaveAt_56 (rfl : _ = 57) rfl rfl ?_
  refine V_dup Y.1 dX3_leaveAt_57 (rfl : _ = 58) rfl ?_
  refine V_get Y.1 fi_X3_42 hK.1.1 rfl dX3_leaveAt_58 (rfl : _ = 61) ?_
  refine V_iload Y.1 0 dX3_leaveAt_61 (rfl : _ = 63) rfl ?_
  refine V_iadd Y.1 dX3_leaveAt_63 (rfl : _ = 64) ?_
  refine V_put Y.1 fi_X3_42 fw_X3 rfl rfl hK.1.1 (Or.inl ⟨by omega, by omega⟩) rfl rfl (Nat.le_of_ble_eq_true rfl) dX3_leaveAt_64 (rfl : _ = 67) (fun H64_50 h_new o_64 => ?_)
  have hK : Mk D kA _ m (m_g (m_tap (m_book (m_card M i (k_complete (k_enter (M.2.2.2.1 i) d (m_leaveX M i j w d)) (nI w) (M.1 1) (m_leaveX M i j w d))) i (nI d, (m_leaveX M i j w d))) w) 3 (M.1 3 + (m_leaveX M i j w d))) _ _ := hK.g o_64 _ h_new rfl rfl
  have sz : Array.size H64_50 = H0.size + 1 := o_64.1.trans sz
  clear h_new
  refine V_aload_n Y.1 2 dX3_leaveAt_67 (rfl : _ = 68) rfl rfl ?_
  refine V_dup Y.1 dX3_leaveAt_68 (rfl : _ = 69) rfl ?_
  refine V_get Y.1 fi_X3_48 hK.1.1 rfl dX3_leaveAt_69 (rfl : _ = 72) ?_
  refine V_iconst Y.1 (v := 1) dX3_leaveAt_72 (rfl : _ = 73) (by decide) ?_
  refine V_iadd Y.1 dX3_leaveAt_73 (rfl : _ = 74) ?_
  refine V_put Y.1 fi_X3_48 fw_X3 rfl rfl hK.1.1 (Or.inl ⟨by omega, by omega⟩) rfl rfl (Nat.le_of_ble_eq_true rfl) dX3_leaveAt_74 (rfl : _ = 77) (fun H74_59 h_new o_74 => ?_)
  have hK : Mk D kA _ m (m_g (m_g (m_tap (m_book (m_card M i (k_complete (k_enter (M.2.2.2.1 i) d (m_leaveX M i j w d)) (nI w) (M.1 1) (m_leaveX M i j w d))) i (nI d, (m_leaveX M i j w d))) w) 3 (M.1 3 + (m_leaveX M i j w d))) 5 (M.1 5 + 1)) _ _ := hK.g o_74 _ h_new rfl rfl
  have sz : Array.size H74_59 = H0.size + 1 := o_74.1.trans sz
  clear h_new
  refine V_iload Y.1 0 dX3_leaveAt_77 (rfl : _ = 79) rfl ?_
  exact V_ret Y.1 dX3_leaveAt_79 rfl (Nat.le_of_ble_eq_true rfl) (Nat.le_of_ble_eq_true rfl) ⟨rfl, ⟨_, by rw [← gro_eq (show _ = _ from (z40.trans z29).trans sz.symm)]; exact hK⟩⟩

set_option maxRecDepth 100000 in
set_option maxHeartbeats 4000000 in
theorem c_X3_payBack (l : Launch) (D : va_G) (kA : Nat → ClassId) (H0 : Heap) (m : Nat) (M : MS) (ES : Nat → Prop) (i : Nat) (hi : i < 8) (j w d : Nat) (hj : (M.2.2.2.1 i).1 11 = nI j) (hj2 : j < 12) (hw : w < 12) (hd : (M.2.2.2.1 i).1 12 = nI d) (hd2 : d < 2 ^ 31) (hM : Mc D kA H0 m M ES) : Ct l D kA yX3_payBack cX3_payBack 6 (some .int) 3 71 1 3 H0 [.ref m, .int (nI i), .int (nI w)] (blk m 29) (pI fun v H => v = m_backX M i j w ∧ Mc D kA H m (m_back M i d (m_backX M i j w)) (gro ES H0 H)) := by
  refine Ct.of mi_X3_payBack (Nat.le_of_ble_eq_true rfl) (ls0 := [(0, _), (1, _), (2, _)]) rfl ?_
  intro Pp Ee Ss Mm Ar Bl Me Cc Y hs hnm
  obtain ⟨E, hK⟩ := id hM
  have sz : H0.size = H0.size := rfl
  refine V_aload_n Y.1 0 dX3_payBack_0 (rfl : _ = 1) rfl rfl ?_
  refine V_get Y.1 fi_X3_20 hK.1.1 rfl dX3_payBack_1 (rfl : _ = 4) ?_
  refine V_iload_n Y.1 1 dX3_payBack_4 (rfl : _ = 5) rfl rfl ?_
  refine V_aldK Y.1 (v := m_ca m i) hK.1.2.2.1 (by first | assumption | exact vp_in_nI (by omega) (by omega)) (by rw [nI_clamp (by omega)]) dX3_payBack_5 (rfl : _ = 6) ?_
  refine V_astore_n Y.1 (ls' := [(3, _), (0, _), (1, _), (2, _)]) dX3_payBack_6 (rfl : _ = 7) rfl (by decide) rfl ?_
  refine V_aload_n Y.1 0 dX3_payBack_7 (rfl : _ = 8) rfl rfl ?_
  refine V_aload_n Y.1 1 dX3_payBack_8 (rfl : _ = 9) rfl rfl ?_
  refine V_get Y.1 fi_X3_12 hK.1.1 rfl dX3_payBack_9 (rfl : _ = 12) ?_
  refine V_aload_n Y.1 0 dX3_payBack_12 (rfl : _ = 13) rfl rfl ?_
  refine V_get Y.1 fi_X3_171 (hK.1.2.2.2 i hi).1 rfl dX3_payBack_13 (rfl : _ = 16) ?_
  refine V_nm (v := nI j) hj ?_
  refine V_iload_n Y.1 3 dX3_payBack_16 (rfl : _ = 17) rfl rfl ?_
  refine V_cP Y (rV Y (c_X2_fullFare l D kA _ _ _ _ _ _ j w hj2 hw hK.1.2.1) mi_X2_fullFare vi_X3_174 rfl hK.1.2.1.1 rfl rfl (Nat.le_of_ble_eq_true rfl) ⟨Nat.le_of_ble_eq_true rfl, Nat.le_of_ble_eq_true rfl⟩ (Nat.le_of_ble_eq_true rfl) (Nat.le_of_ble_eq_true rfl) dX3_payBack_17) (rfl : _ = 20) ?_
  refine V_cP Y (rV Y (c_X0_ownPrice l D kA _ _ _ _ _ (hK.1.2.2.2 i hi)) mi_X0_ownPrice vi_X3_157 rfl (hK.1.2.2.2 i hi).1 rfl rfl (Nat.le_of_ble_eq_true rfl) ⟨Nat.le_of_ble_eq_true rfl, Nat.le_of_ble_eq_true rfl⟩ (Nat.le_of_ble_eq_true rfl) (Nat.le_of_ble_eq_true rfl) dX3_payBack_20) (rfl : _ = 23) ?_
  refine V_istore Y.1 (ls' := [(4, _), (3, _), (0, _), (1, _), (2, _)]) dX3_payBack_23 (rfl : _ = 25) (by decide) rfl ?_
  refine V_aload_n Y.1 1 dX3_payBack_25 (rfl : _ = 26) rfl rfl ?_
  refine V_get Y.1 fi_X3_177 (hK.1.2.2.2 i hi).1 rfl dX3_payBack_26 (rfl : _ = 29) ?_
  refine V_iload Y.1 0 dX3_payBack_29 (rfl : _ = 31) rfl ?_
  refine V_isub Y.1 dX3_payBack_31 (rfl : _ = 32) ?_
  refine V_iconst Y.1 (v := 0) dX3_payBack_32 (rfl : _ = 33) (by decide) ?_
  refine V_mmax Y.1 mw_X3_180 (Nat.le_of_ble_eq_true rfl) (Nat.le_of_ble_eq_true rfl) (Nat.le_of_ble_eq_true rfl) (Nat.le_of_ble_eq_true rfl) dX3_payBack_33 (rfl : _ = 36) ?_
  refine V_nm (v := (m_backX M i j w)) rfl ?_
  refine V_istore Y.1 (ls' := [(5, _), (4, _), (3, _), (0, _), (1, _), (2, _)]) dX3_payBack_36 (rfl : _ = 38) (by decide) rfl ?_
  refine V_aload_n Y.1 2 dX3_payBack_38 (rfl : _ = 39) rfl rfl ?_
  refine V_aload_n Y.1 2 dX3_payBack_39 (rfl : _ = 40) rfl rfl ?_
  refine V_get Y.1 fi_X3_58 (hK.1.2.2.2 i hi).1 rfl dX3_payBack_40 (rfl : _ = 43) ?_
  refine V_nm (v := nI d) hd ?_
  refine V_iload Y.1 0 dX3_payBack_43 (rfl : _ = 45) rfl ?_
  refine V_ineg Y.1 dX3_payBack_45 (rfl : _ = 46) ?_
  refine V_cV Y (rV Y (c_X0_enter l D kA _ _ _ _ _ d hd2 (hK.1.2.2.2 i hi)) mi_X0_enter vi_X3_146 rfl (hK.1.2.2.2 i hi).1 rfl rfl (Nat.le_of_ble_eq_true rfl) ⟨Nat.le_of_ble_eq_true rfl, Nat.le_of_ble_eq_true rfl⟩ (Nat.le_of_ble_eq_true rfl) (Nat.le_of_ble_eq_true rfl) dX3_payBack_46) (fun q hq => Or.inl (blk_sub (by unfold m_ca; omega) (by unfold m_ca; omega) q hq)) (rfl : _ = 49) (fun H46_29 hq_46 o_46 => ?_)
  obtain ⟨z46, hC, he⟩ := hq_46
  have sz : Array.size H46_29 = H0.size + 1 := z46
  refine V_aload_n Y.1 2 dX3_payBack_49 (rfl : _ = 50) rfl rfl ?_
  refine V_iconst Y.1 (v := 0) dX3_payBack_50 (rfl : _ = 51) (by decide) ?_
  refine V_put Y.1 fi_X3_94 fw_X0 rfl rfl hC.1 (Or.inl ⟨by unfold m_ca; omega, by unfold m_ca; omega⟩) rfl rfl (Nat.le_of_ble_eq_true rfl) dX3_payBack_51 (rfl : _ = 54) (fun H51_34 h_new o_51 => ?_)
  have hK : Mk D kA _ m (m_book (m_card M i (upd (k_enter (M.2.2.2.1 i) d (-(m_backX M i j w))).1 10 0, (k_enter (M.2.2.2.1 i) d (-(m_backX M i j w))).2)) i (nI d, -(m_backX M i j w))) _ _ := hK.book hi (o_46.tr (o_51.off ⟨by omega, by omega⟩)) (by rw [o_51.1, z46]) (κ := (upd (k_enter (M.2.2.2.1 i) d (-(m_backX M i j w))).1 10 0, (k_enter (M.2.2.2.1 i) d (-(m_backX M i j w))).2)) ⟨h_new, hC.2.1.sto o_51 (by omega), hC.2.2.sto o_51 (by omega)⟩ (he.sto o_51 (by have := (hK.1.2.2.2 7 (by omega)).2.2.lt; unfold m_ca at *; omega))
  have sz : Array.size H51_34 = H0.size + 1 := o_51.1.trans sz
  clear h_new
  refine V_aload_n Y.1 3 dX3_payBack_54 (rfl : _ = 55) rfl rfl ?_
  refine V_dup Y.1 dX3_payBack_55 (rfl : _ = 56) rfl ?_
  refine V_get Y.1 fi_X3_45 hK.1.1 rfl dX3_payBack_56 (rfl : _ = 59) ?_
  refine V_iload Y.1 0 dX3_payBack_59 (rfl : _ = 61) rfl ?_
  refine V_iadd Y.1 dX3_payBack_61 (rfl : _ = 62) ?_
  refine V_put Y.1 fi_X3_45 fw_X3 rfl rfl hK.1.1 (Or.inl ⟨by omega, by omega⟩) rfl rfl (Nat.le_of_ble_eq_true rfl) dX3_payBack_62 (rfl : _ = 65) (fun H62_43 h_new o_62 => ?_)
  have hK : Mk D kA _ m (m_g (m_book (m_card M i (upd (k_enter (M.2.2.2.1 i) d (-(m_backX M i j w))).1 10 0, (k_enter (M.2.2.2.1 i) d (-(m_backX M i j w))).2)) i (nI d, -(m_backX M i j w))) 4 (M.1 4 + (m_backX M i j w))) _ _ := hK.g o_62 _ h_new rfl rfl
  have sz : Array.size H62_43 = H0.size + 1 := o_62.1.trans sz
  clear h_new
  refine V_iload Y.1 0 dX3_payBack_65 (rfl : _ = 67) rfl ?_
  exact V_ret Y.1 dX3_payBack_67 rfl (Nat.le_of_ble_eq_true rfl) (Nat.le_of_ble_eq_true rfl) ⟨rfl, ⟨_, by rw [gro_eq o_62.1]; exact hK⟩⟩
