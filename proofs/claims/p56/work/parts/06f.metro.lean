theorem k_cont_z (κ : KS) (st mn : Int32) : k_cont κ st mn = 0 ∨ k_cont κ st mn = 1 := by
  unfold k_cont
  split
  · exact Or.inr rfl
  · exact Or.inl rfl
theorem m_enterAt_z (M : MS) (i w d : Nat) : (m_enterAt M i w d).1 = 0 ∨ (m_enterAt M i w d).1 = 1 := by
  unfold m_enterAt
  exact k_cont_z _ _ _
def m_new : MS := (upd (upd (fun _ => 0) 7 200) 8 50, z_ini 12, fun _ => 0, fun _ => (fun _ => 0, fun _ => 0, fun _ => 0), fun _ => [])
set_option maxRecDepth 100000 in
set_option maxHeartbeats 4000000 in
theorem c_X3_perform_0 (l : Launch) (D : va_G) (kA : Nat → ClassId) (H0 : Heap) (m : Nat) (M : MS) (ES : Nat → Prop) (i : Nat) (hi : i < 8) (x y : Int32) (hM : Mc D kA H0 m M ES) (hn : M.1 0 = nI i) : Ct l D kA yX3_perform cX3_perform 4 (some .int) 5 119 0 0 H0 [.ref m, .int 0, .int x, .int y] (blk m 29) (pI fun v H => v = nI i ∧ Mc D kA H m (m_addCard M i (if x = 1 then 1 else 0)) (gro ES H0 H)) := by
  refine Ct.of mi_X3_perform (Nat.le_of_ble_eq_true rfl) (ls0 := [(0, _), (1, _), (2, _), (3, _)]) rfl ?_
  intro Pp Ee Ss Mm Ar Bl Me Cc Y hs hnm
  obtain ⟨E, hK⟩ := id hM
  have sz : H0.size = H0.size := rfl
  refine V_iload_n Y.1 1 dX3_perform_0 (rfl : _ = 1) rfl rfl ?_
  refine V_tableIn Y.1 (tgt := 44) dX3_perform_1 (by decide) (by decide) rfl (by decide) ?_
  refine V_aload_n Y.1 0 dX3_perform_44 (rfl : _ = 45) rfl rfl ?_
  refine V_iload_n Y.1 2 dX3_perform_45 (rfl : _ = 46) rfl rfl ?_
  refine V_iconst Y.1 (v := 1) dX3_perform_46 (rfl : _ = 47) (by decide) ?_
  refine V_icmp_ne Y.1 (tgt := 54) dX3_perform_47 (by decide) (rfl : _ = 50) (fun c_47 => ?_) (fun c_47 => ?_)
  · refine V_iconst Y.1 (v := 0) dX3_perform_54 (rfl : _ = 55) (by decide) ?_
    refine V_cI Y (rV Y (c_X3_addCard l D kA _ m M ES i hi 0 hM hn (by decide)) mi_X3_addCard vi_X3_100 rfl hK.1.1 rfl rfl (Nat.le_of_ble_eq_true rfl) ⟨Nat.le_of_ble_eq_true rfl, Nat.le_of_ble_eq_true rfl⟩ (Nat.le_of_ble_eq_true rfl) (Nat.le_of_ble_eq_true rfl) dX3_perform_55) (fun q hq => Or.inl hq) (rfl : _ = 58) (fun v_55 H55_7 hq_55 o_55 => ?_)
    obtain ⟨hv, hM1, hz⟩ := hq_55
    exact V_ret Y.1 dX3_perform_58 rfl (Nat.le_of_ble_eq_true rfl) (Nat.le_of_ble_eq_true rfl) ⟨hv, by rw [gro_z hz, if_neg c_47]; exact hM1⟩
  · refine V_iconst Y.1 (v := 1) dX3_perform_50 (rfl : _ = 51) (by decide) ?_
    refine V_goto Y.1 (tgt := 55) dX3_perform_51 (by decide) ?_
    refine V_cI Y (rV Y (c_X3_addCard l D kA _ m M ES i hi 1 hM hn (by decide)) mi_X3_addCard vi_X3_100 rfl hK.1.1 rfl rfl (Nat.le_of_ble_eq_true rfl) ⟨Nat.le_of_ble_eq_true rfl, Nat.le_of_ble_eq_true rfl⟩ (Nat.le_of_ble_eq_true rfl) (Nat.le_of_ble_eq_true rfl) dX3_perform_55) (fun q hq => Or.inl hq) (rfl : _ = 58) (fun v_55 H55_12 hq_55 o_55 => ?_)
    obtain ⟨hv, hM1, hz⟩ := hq_55
    exact V_ret Y.1 dX3_perform_58 rfl (Nat.le_of_ble_eq_true rfl) (Nat.le_of_ble_eq_true rfl) ⟨hv, by rw [gro_z hz, if_pos c_47]; exact hM1⟩

set_option maxRecDepth 100000 in
set_option maxHeartbeats 4000000 in
theorem c_X3_perform_1 (l : Launch) (D : va_G) (kA : Nat → ClassId) (H0 : Heap) (m : Nat) (M : MS) (ES : Nat → Prop) (i : Nat) (hi : i < 8) (x : Int32) (hM : Mc D kA H0 m M ES)  : Ct l D kA yX3_perform cX3_perform 4 (some .int) 5 119 0 0 H0 [.ref m, .int 1, .int (nI i), .int x] (blk m 29) (pI fun v H => v = (M.2.2.2.1 i).1 1 + x ∧ Mc D kA H m (m_load M i x) (gro ES H0 H)) := by
  refine Ct.of mi_X3_perform (Nat.le_of_ble_eq_true rfl) (ls0 := [(0, _), (1, _), (2, _), (3, _)]) rfl ?_
  intro Pp Ee Ss Mm Ar Bl Me Cc Y hs hnm
  obtain ⟨E, hK⟩ := id hM
  have sz : H0.size = H0.size := rfl
  refine V_iload_n Y.1 1 dX3_perform_0 (rfl : _ = 1) rfl rfl ?_
  refine V_tableIn Y.1 (tgt := 59) dX3_perform_1 (by decide) (by decide) rfl (by decide) ?_
  refine V_aload_n Y.1 0 dX3_perform_59 (rfl : _ = 60) rfl rfl ?_
  refine V_iload_n Y.1 2 dX3_perform_60 (rfl : _ = 61) rfl rfl ?_
  refine V_iload_n Y.1 3 dX3_perform_61 (rfl : _ = 62) rfl rfl ?_
  refine V_cI Y (rV Y (c_X3_addMoney l D kA _ m M ES i hi x hM) mi_X3_addMoney vi_X3_104 rfl hK.1.1 rfl rfl (Nat.le_of_ble_eq_true rfl) ⟨Nat.le_of_ble_eq_true rfl, Nat.le_of_ble_eq_true rfl⟩ (Nat.le_of_ble_eq_true rfl) (Nat.le_of_ble_eq_true rfl) dX3_perform_62) (fun q hq => Or.inl hq) (rfl : _ = 65) (fun v_62 H62_5 hq_62 o_62 => ?_)
  obtain ⟨hv, hM1, hz⟩ := hq_62
  exact V_ret Y.1 dX3_perform_65 rfl (Nat.le_of_ble_eq_true rfl) (Nat.le_of_ble_eq_true rfl) ⟨hv, by rw [gro_z hz]; exact hM1⟩

set_option maxRecDepth 100000 in
set_option maxHeartbeats 4000000 in
theorem c_X3_perform_2 (l : Launch) (D : va_G) (kA : Nat → ClassId) (H0 : Heap) (m : Nat) (M : MS) (ES : Nat → Prop) (i : Nat) (hi : i < 8) (w : Nat) (hw : w < 12) (d : Nat) (hd : M.1 1 / 1440 = nI d) (hd2 : d < 2 ^ 31) (hM : Mc D kA H0 m M ES)  : Ct l D kA yX3_perform cX3_perform 4 (some .int) 5 119 1 3 H0 [.ref m, .int 2, .int (nI i), .int (nI w)] (blk m 29) (pI fun v H => v = (m_enterAt M i w d).1 ∧ Mc D kA H m (m_enterAt M i w d).2 (gro ES H0 H)) := by
  refine Ct.of mi_X3_perform (Nat.le_of_ble_eq_true rfl) (ls0 := [(0, _), (1, _), (2, _), (3, _)]) rfl ?_
  intro Pp Ee Ss Mm Ar Bl Me Cc Y hs hnm
  obtain ⟨E, hK⟩ := id hM
  have sz : H0.size = H0.size := rfl
  refine V_iload_n Y.1 1 dX3_perform_0 (rfl : _ = 1) rfl rfl ?_
  refine V_tableIn Y.1 (tgt := 66) dX3_perform_1 (by decide) (by decide) rfl (by decide) ?_
  refine V_aload_n Y.1 0 dX3_perform_66 (rfl : _ = 67) rfl rfl ?_
  refine V_iload_n Y.1 2 dX3_perform_67 (rfl : _ = 68) rfl rfl ?_
  refine V_iload_n Y.1 3 dX3_perform_68 (rfl : _ = 69) rfl rfl ?_
  refine V_cI Y (rV Y (c_X3_enterAt l D kA _ m M ES i hi w hw d hd hd2 hM) mi_X3_enterAt vi_X3_107 rfl hK.1.1 rfl rfl (Nat.le_of_ble_eq_true rfl) ⟨Nat.le_of_ble_eq_true rfl, Nat.le_of_ble_eq_true rfl⟩ (Nat.le_of_ble_eq_true rfl) (Nat.le_of_ble_eq_true rfl) dX3_perform_69) (fun q hq => Or.inl hq) (rfl : _ = 72) (fun v_69 H69_5 hq_69 o_69 => ?_)
  obtain ⟨hv, hM1⟩ := hq_69
  refine V_if_eq Y.1 (tgt := 79) dX3_perform_72 (by decide) (rfl : _ = 75) (fun c_72 => ?_) (fun c_72 => ?_)
  · refine V_iconst Y.1 (v := 0) dX3_perform_79 (rfl : _ = 80) (by decide) ?_
    exact V_ret Y.1 dX3_perform_80 rfl (Nat.le_of_ble_eq_true rfl) (Nat.le_of_ble_eq_true rfl) ⟨by rw [← hv]; rcases m_enterAt_z M i w d with z | z <;> rw [← hv] at z <;> first | exact absurd z c_72 | exact z.symm | exact c_72.symm | (rw [z] at c_72; exact absurd c_72 (by decide)), hM1⟩
  · refine V_iconst Y.1 (v := 1) dX3_perform_75 (rfl : _ = 76) (by decide) ?_
    refine V_goto Y.1 (tgt := 80) dX3_perform_76 (by decide) ?_
    exact V_ret Y.1 dX3_perform_80 rfl (Nat.le_of_ble_eq_true rfl) (Nat.le_of_ble_eq_true rfl) ⟨by rw [← hv]; rcases m_enterAt_z M i w d with z | z <;> rw [← hv] at z <;> first | exact absurd z c_72 | exact z.symm | exact c_72.symm | (rw [z] at c_72; exact absurd c_72 (by decide)), hM1⟩

set_option maxRecDepth 100000 in
set_option maxHeartbeats 4000000 in
theorem c_X3_perform_3 (l : Launch) (D : va_G) (kA : Nat → ClassId) (H0 : Heap) (m : Nat) (M : MS) (ES : Nat → Prop) (i : Nat) (hi : i < 8) (j w : Nat) (hj : (M.2.2.2.1 i).1 5 = nI j) (hj2 : j < 12) (hw : w < 12) (d : Nat) (hd : M.1 1 / 1440 = nI d) (hd2 : d < 2 ^ 31) (hM : Mc D kA H0 m M ES)  : Ct l D kA yX3_perform cX3_perform 4 (some .int) 5 119 1 3 H0 [.ref m, .int 3, .int (nI i), .int (nI w)] (blk m 29) (pI fun v H => v = m_leaveX M i j w d ∧ Mc D kA H m (m_leave M i w d (m_leaveX M i j w d)) (gro ES H0 H)) := by
  refine Ct.of mi_X3_perform (Nat.le_of_ble_eq_true rfl) (ls0 := [(0, _), (1, _), (2, _), (3, _)]) rfl ?_
  intro Pp Ee Ss Mm Ar Bl Me Cc Y hs hnm
  obtain ⟨E, hK⟩ := id hM
  have sz : H0.size = H0.size := rfl
  refine V_iload_n Y.1 1 dX3_perform_0 (rfl : _ = 1) rfl rfl ?_
  refine V_tableIn Y.1 (tgt := 81) dX3_perform_1 (by decide) (by decide) rfl (by decide) ?_
  refine V_aload_n Y.1 0 dX3_perform_81 (rfl : _ = 82) rfl rfl ?_
  refine V_iload_n Y.1 2 dX3_perform_82 (rfl : _ = 83) rfl rfl ?_
  refine V_iload_n Y.1 3 dX3_perform_83 (rfl : _ = 84) rfl rfl ?_
  refine V_cI Y (rV Y (c_X3_leaveAt l D kA _ m M ES i hi j w hj hj2 hw d hd hd2 hM) mi_X3_leaveAt vi_X3_111 rfl hK.1.1 rfl rfl (Nat.le_of_ble_eq_true rfl) ⟨Nat.le_of_ble_eq_true rfl, Nat.le_of_ble_eq_true rfl⟩ (Nat.le_of_ble_eq_true rfl) (Nat.le_of_ble_eq_true rfl) dX3_perform_84) (fun q hq => Or.inl hq) (rfl : _ = 87) (fun v_84 H84_5 hq_84 o_84 => ?_)
  obtain ⟨hv, hM1⟩ := hq_84
  exact V_ret Y.1 dX3_perform_87 rfl (Nat.le_of_ble_eq_true rfl) (Nat.le_of_ble_eq_true rfl) ⟨hv, hM1⟩

set_option maxRecDepth 100000 in
set_option maxHeartbeats 4000000 in
theorem c_X3_perform_4 (l : Launch) (D : va_G) (kA : Nat → ClassId) (H0 : Heap) (m : Nat) (M : MS) (ES : Nat → Prop) (i : Nat) (hi : i < 8) (j w d : Nat) (hj : (M.2.2.2.1 i).1 11 = nI j) (hj2 : j < 12) (hw : w < 12) (hd : (M.2.2.2.1 i).1 12 = nI d) (hd2 : d < 2 ^ 31) (hM : Mc D kA H0 m M ES)  : Ct l D kA yX3_perform cX3_perform 4 (some .int) 5 119 1 3 H0 [.ref m, .int 4, .int (nI i), .int (nI w)] (blk m 29) (pI fun v H => v = m_backX M i j w ∧ Mc D kA H m (m_back M i d (m_backX M i j w)) (gro ES H0 H)) := by
  refine Ct.of mi_X3_perform (Nat.le_of_ble_eq_true rfl) (ls0 := [(0, _), (1, _), (2, _), (3, _)]) rfl ?_
  intro Pp Ee Ss Mm Ar Bl Me Cc Y hs hnm
  obtain ⟨E, hK⟩ := id hM
  have sz : H0.size = H0.size := rfl
  refine V_iload_n Y.1 1 dX3_perform_0 (rfl : _ = 1) rfl rfl ?_
  refine V_tableIn Y.1 (tgt := 88) dX3_perform_1 (by decide) (by decide) rfl (by decide) ?_
  refine V_aload_n Y.1 0 dX3_perform_88 (rfl : _ = 89) rfl rfl ?_
  refine V_iload_n Y.1 2 dX3_perform_89 (rfl : _ = 90) rfl rfl ?_
  refine V_iload_n Y.1 3 dX3_perform_90 (rfl : _ = 91) rfl rfl ?_
  refine V_cI Y (rV Y (c_X3_payBack l D kA _ m M ES i hi j w d hj hj2 hw hd hd2 hM) mi_X3_payBack vi_X3_114 rfl hK.1.1 rfl rfl (Nat.le_of_ble_eq_true rfl) ⟨Nat.le_of_ble_eq_true rfl, Nat.le_of_ble_eq_true rfl⟩ (Nat.le_of_ble_eq_true rfl) (Nat.le_of_ble_eq_true rfl) dX3_perform_91) (fun q hq => Or.inl hq) (rfl : _ = 94) (fun v_91 H91_5 hq_91 o_91 => ?_)
  obtain ⟨hv, hM1⟩ := hq_91
  exact V_ret Y.1 dX3_perform_94 rfl (Nat.le_of_ble_eq_true rfl) (Nat.le_of_ble_eq_true rfl) ⟨hv, hM1⟩

set_option maxRecDepth 100000 in
set_option maxHeartbeats 4000000 in
theorem c_X3_perform_5 (l : Launch) (D : va_G) (kA : Nat → ClassId) (H0 : Heap) (m : Nat) (M : MS) (ES : Nat → Prop) (w : Nat) (hw : w < 12) (x : Int32) (hM : Mc D kA H0 m M ES)  : Ct l D kA yX3_perform cX3_perform 4 (some .int) 5 119 0 0 H0 [.ref m, .int 5, .int (nI w), .int x] (blk m 29) (pI fun v H => v = M.2.1 w ∧ Mc D kA H m (m_zone M w x) (gro ES H0 H)) := by
  refine Ct.of mi_X3_perform (Nat.le_of_ble_eq_true rfl) (ls0 := [(0, _), (1, _), (2, _), (3, _)]) rfl ?_
  intro Pp Ee Ss Mm Ar Bl Me Cc Y hs hnm
  obtain ⟨E, hK⟩ := id hM
  have sz : H0.size = H0.size := rfl
  refine V_iload_n Y.1 1 dX3_perform_0 (rfl : _ = 1) rfl rfl ?_
  refine V_tableIn Y.1 (tgt := 95) dX3_perform_1 (by decide) (by decide) rfl (by decide) ?_
  refine V_aload_n Y.1 0 dX3_perform_95 (rfl : _ = 96) rfl rfl ?_
  refine V_iload_n Y.1 2 dX3_perform_96 (rfl : _ = 97) rfl rfl ?_
  refine V_iload_n Y.1 3 dX3_perform_97 (rfl : _ = 98) rfl rfl ?_
  refine V_cI Y (rV Y (c_X3_changeZone l D kA _ m M ES w hw x hM) mi_X3_changeZone vi_X3_117 rfl hK.1.1 rfl rfl (Nat.le_of_ble_eq_true rfl) ⟨Nat.le_of_ble_eq_true rfl, Nat.le_of_ble_eq_true rfl⟩ (Nat.le_of_ble_eq_true rfl) (Nat.le_of_ble_eq_true rfl) dX3_perform_98) (fun q hq => Or.inl hq) (rfl : _ = 101) (fun v_98 H98_5 hq_98 o_98 => ?_)
  obtain ⟨hv, hM1, hz⟩ := hq_98
  exact V_ret Y.1 dX3_perform_101 rfl (Nat.le_of_ble_eq_true rfl) (Nat.le_of_ble_eq_true rfl) ⟨hv, by rw [gro_z hz]; exact hM1⟩

set_option maxRecDepth 100000 in
set_option maxHeartbeats 4000000 in
theorem c_X3_perform_6 (l : Launch) (D : va_G) (kA : Nat → ClassId) (H0 : Heap) (m : Nat) (M : MS) (ES : Nat → Prop) (x y : Int32) (hM : Mc D kA H0 m M ES)  : Ct l D kA yX3_perform cX3_perform 4 (some .int) 5 119 0 0 H0 [.ref m, .int 6, .int x, .int y] (blk m 29) (pI fun v H => v = M.1 7 ∧ Mc D kA H m (m_fares M x y) (gro ES H0 H)) := by
  refine Ct.of mi_X3_perform (Nat.le_of_ble_eq_true rfl) (ls0 := [(0, _), (1, _), (2, _), (3, _)]) rfl ?_
  intro Pp Ee Ss Mm Ar Bl Me Cc Y hs hnm
  obtain ⟨E, hK⟩ := id hM
  have sz : H0.size = H0.size := rfl
  refine V_iload_n Y.1 1 dX3_perform_0 (rfl : _ = 1) rfl rfl ?_
  refine V_tableIn Y.1 (tgt := 102) dX3_perform_1 (by decide) (by decide) rfl (by decide) ?_
  refine V_aload_n Y.1 0 dX3_perform_102 (rfl : _ = 103) rfl rfl ?_
  refine V_iload_n Y.1 2 dX3_perform_103 (rfl : _ = 104) rfl rfl ?_
  refine V_iload_n Y.1 3 dX3_perform_104 (rfl : _ = 105) rfl rfl ?_
  refine V_cI Y (rV Y (c_X3_changeFares l D kA _ m M ES x y hM) mi_X3_changeFares vi_X3_120 rfl hK.1.1 rfl rfl (Nat.le_of_ble_eq_true rfl) ⟨Nat.le_of_ble_eq_true rfl, Nat.le_of_ble_eq_true rfl⟩ (Nat.le_of_ble_eq_true rfl) (Nat.le_of_ble_eq_true rfl) dX3_perform_105) (fun q hq => Or.inl hq) (rfl : _ = 108) (fun v_105 H105_5 hq_105 o_105 => ?_)
  obtain ⟨hv, hM1, hz⟩ := hq_105
  exact V_ret Y.1 dX3_perform_108 rfl (Nat.le_of_ble_eq_true rfl) (Nat.le_of_ble_eq_true rfl) ⟨hv, by rw [gro_z hz]; exact hM1⟩

set_option maxRecDepth 100000 in
set_option maxHeartbeats 4000000 in
theorem c_X3_perform_7 (l : Launch) (D : va_G) (kA : Nat → ClassId) (H0 : Heap) (m : Nat) (M : MS) (ES : Nat → Prop) (x y : Int32) (n : Nat) (hn : M.1 0 = nI n) (hn8 : n ≤ 8) (hM : Mc D kA H0 m M ES) (ht : ∀ i, i < n → ¬ (M.2.2.2.1 i).1 2 = 0 → ∃ a : Nat, (M.2.2.2.1 i).1 4 = nI a ∧ a < 2 ^ 30) : Ct l D kA yX3_perform cX3_perform 4 (some .int) 5 119 8 24 H0 [.ref m, .int 7, .int x, .int y] (blk m 29) (pI fun v H => v = nI (m_pass M x n).1 ∧ Mc D kA H m (m_pass M x n).2 (gro ES H0 H)) := by
  refine Ct.of mi_X3_perform (Nat.le_of_ble_eq_true rfl) (ls0 := [(0, _), (1, _), (2, _), (3, _)]) rfl ?_
  intro Pp Ee Ss Mm Ar Bl Me Cc Y hs hnm
  obtain ⟨E, hK⟩ := id hM
  have sz : H0.size = H0.size := rfl
  refine V_iload_n Y.1 1 dX3_perform_0 (rfl : _ = 1) rfl rfl ?_
  refine V_tableOut Y.1 (tgt := 109) dX3_perform_1 (by decide) (by decide) ?_
  refine V_aload_n Y.1 0 dX3_perform_109 (rfl : _ = 110) rfl rfl ?_
  refine V_iload_n Y.1 2 dX3_perform_110 (rfl : _ = 111) rfl rfl ?_
  refine V_cI Y (rV Y (c_X3_passTime l D kA _ m M ES x n hn hn8 hM ht) mi_X3_passTime vi_X3_123 rfl hK.1.1 rfl rfl (Nat.le_of_ble_eq_true rfl) ⟨Nat.le_of_ble_eq_true rfl, Nat.le_of_ble_eq_true rfl⟩ (Nat.le_of_ble_eq_true rfl) (Nat.le_of_ble_eq_true rfl) dX3_perform_111) (fun q hq => Or.inl hq) (rfl : _ = 114) (fun v_111 H111_4 hq_111 o_111 => ?_)
  obtain ⟨hv, hM1⟩ := hq_111
  exact V_ret Y.1 dX3_perform_114 rfl (Nat.le_of_ble_eq_true rfl) (Nat.le_of_ble_eq_true rfl) ⟨hv, hM1⟩

set_option maxRecDepth 100000 in
set_option maxHeartbeats 4000000 in
theorem c_X3_init (l : Launch) (D : va_G) (kA : Nat → ClassId) (H0 : Heap) (m : Nat) (fs : List Value) (h0 : hp D H0 m (eO 7 fs)) (hf : fs = [.null, .null, .int 0, .int 0, .int 0, .int 0, .int 0, .int 0, .int 0]) (hsz : H0.size = m + 1) : Ct l D kA yX3_init cX3_init 2 none 2 45 28 220 H0 [.ref m] (blk m 29) (pV fun H => Mt D kA H m m_new (fun _ => none) ∧ H.size = m + 29) := by
  refine Ct.of mi_X3_init (Nat.le_of_ble_eq_true rfl) (ls0 := [(0, _)]) rfl ?_
  intro Pp Ee Ss Mm Ar Bl Me Cc Y hs hnm
  subst hf
  have sz : H0.size = H0.size := rfl
  refine V_aload_n Y.1 0 dX3_init_0 (rfl : _ = 1) rfl rfl ?_
  refine V_objInit Y.1 ow_X3_3 dX3_init_1 (rfl : _ = 4) (Nat.le_of_ble_eq_true rfl) (Nat.le_of_ble_eq_true rfl) (Nat.le_of_ble_eq_true rfl) (Nat.le_of_ble_eq_true rfl) ?_
  refine V_aload_n Y.1 0 dX3_init_4 (rfl : _ = 5) rfl rfl ?_
  refine V_new Y.1 (ci := 6) (fs := [.null, .null, .int 0, .int 0]) rfl in_X2 tyX2_ok cl_X3_9 inst_X2 ini_X2 (by decide) (Nat.le_of_ble_eq_true rfl) (Nat.le_of_ble_eq_true rfl) dX3_init_5 (rfl : _ = 8) (fun H5_3 q_5 eq_5 z_5 h_new o_5 => ?_)
  have e_q5 : q_5 = H0.size := eq_5.trans sz
  have sz : Array.size H5_3 = H0.size + 1 := by rw [z_5, e_q5]
  have h0 := h0.off o_5 id
  have hl := h_new
  obtain rfl : q_5 = m + 1 := by omega
  refine V_dup Y.1 dX3_init_8 (rfl : _ = 9) rfl ?_
  refine V_cV Y (rI Y (c_X2_init l D kA _ _ _ hl rfl (by omega)) mi_X2_init ii_X3_11 rfl rfl (Nat.le_of_ble_eq_true rfl) ⟨Nat.le_of_ble_eq_true rfl, Nat.le_of_ble_eq_true rfl⟩ (Nat.le_of_ble_eq_true rfl) (Nat.le_of_ble_eq_true rfl) dX3_init_9) (fun q hq => Or.inl (blk_sub (by omega) (by omega) q hq)) (rfl : _ = 12) (fun H9_10 hq_9 o_9 => ?_)
  obtain ⟨hL, z9⟩ := hq_9
  have h0 := h0.off o_9 (fun z => by have := z.1; omega)
  have sz : Array.size H9_10 = m + 4 := z9
  refine V_putF Y.1 fi_X3_12 fw_X3 rfl (by rw [hnm]; rfl) rfl rfl h0 (Or.inl ⟨by omega, by omega⟩) rfl rfl (Nat.le_of_ble_eq_true rfl) dX3_init_12 (rfl : _ = 15) (fun H12_14 h_new o_12 => ?_)
  have h0 : hp D _ _ (.inr (7, [_, _, _, _, _, _, _, _, _])) := h_new
  have sz : Array.size H12_14 = m + 4 := o_12.1.trans sz
  clear h_new
  have hL := hL.off (o_12.off (F := fun q => q = m) rfl) (fun q h1 h2 => by have := h1.1; omega)
  refine V_aload_n Y.1 0 dX3_init_15 (rfl : _ = 16) rfl rfl ?_
  refine V_bipush Y.1 (v := 8) dX3_init_16 (rfl : _ = 18) (by decide) ?_
  refine V_newK Y.1 (N := 8) cl_X3_18 Y.2.1 (by decide) (by decide) (Nat.le_of_ble_eq_true rfl) (Nat.le_of_ble_eq_true rfl) (Nat.le_of_ble_eq_true rfl) dX3_init_18 (rfl : _ = 21) (fun H18_21 q_18 eq_18 z_18 h_new o_18 => ?_)
  have e_q18 : q_18 = m + 4 := eq_18.trans sz
  have sz : Array.size H18_21 = m + 4 + 1 := by rw [z_18, e_q18]
  have h0 := h0.off o_18 id
  have hc := h_new
  have e18 : q_18 = m + 4 := e_q18
  subst e18
  have hL := hL.off (o_18.mono (G := fun _ => False) (fun q _ z => z.elim)) (fun _ _ z => z)
  refine V_putF Y.1 fi_X3_20 fw_X3 rfl (by rw [hnm]; rfl) rfl rfl h0 (Or.inl ⟨by omega, by omega⟩) rfl rfl (Nat.le_of_ble_eq_true rfl) dX3_init_21 (rfl : _ = 24) (fun H21_29 h_new o_21 => ?_)
  have h0 : hp D _ _ (.inr (7, [_, _, _, _, _, _, _, _, _])) := h_new
  have hc := hc.sto o_21 (by omega)
  have sz : Array.size H21_29 = m + 4 + 1 := o_21.1.trans sz
  clear h_new
  have hL := hL.off (o_21.off (F := fun q => q = m) rfl) (fun q h1 h2 => by have := h1.1; omega)
  refine V_iconst Y.1 (v := 0) dX3_init_24 (rfl : _ = 25) (by decide) ?_
  refine V_istore_n Y.1 (ls' := [(1, _), (0, _)]) dX3_init_25 (rfl : _ = 26) rfl (by decide) rfl ?_
  have lp : ∀ (n9 j : Nat) (H : Heap) (f : Nat → Option Nat), j + n9 = 8 → hp D H m (eO 7 (mF m (fun _ => 0))) → Ln D kA H (m + 1) (z_ini 12) (fun _ => 0) 200 50 → hp D H (m + 4) (eR kA 6 8 f) → (∀ i, i < j → f i = some (m_ca m i)) → (∀ i, i < j → Cd D kA H (m_ca m i) ((fun _ => 0, fun _ => 0, fun _ => 0) : KS) none) → H.size = m + 5 + 3 * j → V Pp l Ee (rmO 2 45 28 220) Ss Mm Ar Bl Me Cc 2 (AA H0 (blk m 29)) (QC Bl Ar Ss 28 220 H0 (blk m 29) (pV fun H => Mt D kA H m m_new (fun _ => none) ∧ H.size = m + 29)) H (4 + 3 * j) (36 + 23 * j) 26 [(1, .int (nI j)), (0, .ref m)] [] := by
    intro n9
    induction n9 with
    | zero =>
      intro j H f hj h0 hL hc hf hC sz
      obtain rfl : j = 8 := by omega
      refine V_iload_n Y.1 0 dX3_init_26 (rfl : _ = 27) rfl rfl ?_
      refine V_bipush Y.1 (v := 8) dX3_init_27 (rfl : _ = 29) (by decide) ?_
      refine V_icmp_ge Y.1 (tgt := 51) dX3_init_29 (by decide) (rfl : _ = 32) (fun _ => ?_) (fun c_n => absurd (by simp (disch := omega) only [Int32.lt_iff_toInt_lt, Int32.le_iff_toInt_le, ge_iff_le, gt_iff_lt, nI_toInt, Int32.reduceToInt] ; omega) c_n)
      exact V_retV Y.1 dX3_init_51 (Nat.le_of_ble_eq_true rfl) (Nat.le_of_ble_eq_true rfl) ⟨⟨h0, hL, hc.congR hf, hC⟩, sz⟩
    | succ n9 ih =>
      intro j H f hj h0 hL hc hf hC sz
      refine V_iload_n Y.1 0 dX3_init_26 (rfl : _ = 27) rfl rfl ?_
      refine V_bipush Y.1 (v := 8) dX3_init_27 (rfl : _ = 29) (by decide) ?_
      refine V_icmp_ge Y.1 (tgt := 51) dX3_init_29 (by decide) (rfl : _ = 32) (fun c_n => absurd c_n (by simp (disch := omega) only [Int32.lt_iff_toInt_lt, Int32.le_iff_toInt_le, ge_iff_le, gt_iff_lt, nI_toInt, Int32.reduceToInt] ; omega)) (fun _ => ?_)
      refine V_aload_n Y.1 1 dX3_init_32 (rfl : _ = 33) rfl rfl ?_
      refine V_get Y.1 fi_X3_20 h0 rfl dX3_init_33 (rfl : _ = 36) ?_
      refine V_iload_n Y.1 0 dX3_init_36 (rfl : _ = 37) rfl rfl ?_
      refine V_new Y.1 (ci := 4) (fs := [.int 0, .int 0, .int 0, .int 0, .int 0, .int 0, .int 0, .int 0, .int 0, .int 0, .int 0, .int 0, .int 0, .int 0, .null, .null, .null]) rfl in_X0 tyX0_ok cl_X3_18 inst_X0 ini_X0 (by decide) (by show 4 + 3 * j + 1 ≤ 28; omega) (by show 36 + 23 * j + 17 ≤ 220; omega) dX3_init_37 (rfl : _ = 40) (fun H37_6 q_37 eq_37 z_37 h_new o_37 => ?_)
      have e_q37 : q_37 = m + 5 + 3 * j := eq_37.trans sz
      have sz : Array.size H37_6 = m + 5 + 3 * j + 1 := by rw [z_37, e_q37]
      have h0 := h0.off o_37 id
      have hc := hc.off o_37 id
      have hk := h_new
      have e37 : q_37 = m_ca m j := by unfold m_ca; omega
      subst e37
      have hL := hL.off (o_37.mono (G := fun _ => False) (fun q _ z => z.elim)) (fun _ _ z => z)
      have hC : ∀ i, i < j → Cd D kA _ (m_ca m i) ((fun _ => 0, fun _ => 0, fun _ => 0) : KS) none := fun i hi => (hC i hi).off (o_37.mono (G := fun _ => False) (fun q _ z => z.elim)) (fun _ _ z => z)
      refine V_dup Y.1 dX3_init_40 (rfl : _ = 41) rfl ?_
      refine V_cV Y (rI Y (c_X0_init l D kA _ _ _ hk rfl (by unfold m_ca; omega)) mi_X0_init ii_X3_24 rfl rfl (Nat.le_of_ble_eq_true rfl) ⟨Nat.le_of_ble_eq_true rfl, Nat.le_of_ble_eq_true rfl⟩ (by show 4 + 3 * j + 1 + 2 ≤ 28; omega) (by show 36 + 23 * j + 17 + 6 ≤ 220; omega) dX3_init_41) (fun q hq => Or.inl (blk_sub (by unfold m_ca; omega) (by unfold m_ca; omega) q hq)) (rfl : _ = 44) (fun H41_17 hq_41 o_41 => ?_)
      obtain ⟨hK, z41⟩ := hq_41
      have h0 := h0.off o_41 (fun z => by have := z.1; unfold m_ca at this; omega)
      have hc := hc.off o_41 (fun z => by have := z.1; unfold m_ca at this; omega)
      have hL := hL.off o_41 (fun q h1 h2 => by have := h1.2; have := h2.1; omega)
      have hC : ∀ i, i < j → Cd D kA _ (m_ca m i) ((fun _ => 0, fun _ => 0, fun _ => 0) : KS) none := fun i hi => (hC i hi).off o_41 (fun q h1 h2 => by have := h1.2; have := h2.1; unfold m_ca at *; omega)
      have sz : Array.size H41_17 = m + 5 + 3 * (j + 1) := (by rw [z41]; unfold m_ca; omega)
      refine V_astK Y.1 hc (Or.inl ⟨by omega, by omega⟩) (by first | assumption | exact vp_in_nI (by omega) (by omega)) hK.1 dX3_init_44 (rfl : _ = 45) (fun H44_24 h_new o_44 => ?_)
      have hc := h_new
      have h0 := h0.sto o_44 (by omega)
      have sz : Array.size H44_24 = m + 5 + 3 * (j + 1) := o_44.1.trans sz
      clear h_new
      have hL := hL.off (o_44.off (F := fun q => q = m + 4) rfl) (fun q h1 h2 => by have := h1.2; omega)
      have hK := hK.off (o_44.off (F := fun q => q = m + 4) rfl) (fun q h1 h2 => by have := h1.1; unfold m_ca at this; omega)
      have hC : ∀ i, i < j + 1 → Cd D kA _ (m_ca m i) ((fun _ => 0, fun _ => 0, fun _ => 0) : KS) none := fun i hi => by
        rcases Nat.lt_succ_iff_lt_or_eq.mp hi with z | rfl
        · exact (hC i z).off (o_44.off (F := fun q => q = m + 4) rfl) (fun q h1 h2 => by have := h1.1; unfold m_ca at this; omega)
        · exact hK
      rw [nI_clamp (by omega)] at hc
      refine V_iinc Y.1 (v := nI (j + 1)) (ls' := [(1, _), (0, _)]) 0 dX3_init_45 (rfl : _ = 48) rfl (nI_1 _) (by decide) rfl ?_
      refine V_goto Y.1 (tgt := 26) dX3_init_48 (by decide) ?_
      have hf : ∀ i, i < j + 1 → va_up f j (some (m_ca m j)) i = some (m_ca m i) := fun i hi => by
        rcases Nat.lt_succ_iff_lt_or_eq.mp hi with z | rfl
        · rw [← hf i z]
          simp [va_up]
          omega
        · simp [va_up]
      exact V_widen (by omega) (by omega) (ih (j + 1) _ _ (by omega) h0 hL hc hf hC sz)
  exact lp 8 0 _ _ rfl h0 hL hc (fun i hi => absurd hi (by omega)) (fun i hi => absurd hi (by omega)) sz
