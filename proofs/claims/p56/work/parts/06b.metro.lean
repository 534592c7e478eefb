set_option maxRecDepth 100000 in
set_option maxHeartbeats 4000000 in
theorem c_X3_hasCard (l : Launch) (D : va_G) (kA : Nat → ClassId) (H0 : Heap) (m : Nat) (M : MS) (ES : Nat → Prop) (x : Int32) (hM : Mc D kA H0 m M ES)  : Ct l D kA yX3_hasCard cX3_hasCard 2 (some .boolean) 0 0 0 0 H0 [.ref m, .int x] (nof) (pI fun v H => v = b_card M x ∧ H = H0) := by
  refine Ct.of mi_X3_hasCard (Nat.le_of_ble_eq_true rfl) (ls0 := [(0, _), (1, _)]) rfl ?_
  intro Pp Ee Ss Mm Ar Bl Me Cc Y hs hnm
  obtain ⟨E, hK⟩ := id hM
  have sz : H0.size = H0.size := rfl
  refine V_iload_n Y.1 1 dX3_hasCard_0 (rfl : _ = 1) rfl rfl ?_
  refine V_if_lt Y.1 (tgt := 22) dX3_hasCard_1 (by decide) (rfl : _ = 4) (fun c_1 => ?_) (fun c_1 => ?_)
  · refine V_iconst Y.1 (v := 0) dX3_hasCard_22 (rfl : _ = 23) (by decide) ?_
    exact V_ret Y.1 dX3_hasCard_23 rfl (Nat.le_of_ble_eq_true rfl) (Nat.le_of_ble_eq_true rfl) ⟨by simp [b_card, *], rfl⟩
  · refine V_iload_n Y.1 1 dX3_hasCard_4 (rfl : _ = 5) rfl rfl ?_
    refine V_aload_n Y.1 0 dX3_hasCard_5 (rfl : _ = 6) rfl rfl ?_
    refine V_get Y.1 fi_X3_29 hK.1.1 rfl dX3_hasCard_6 (rfl : _ = 9) ?_
    refine V_icmp_ge Y.1 (tgt := 22) dX3_hasCard_9 (by decide) (rfl : _ = 12) (fun c_9 => ?_) (fun c_9 => ?_)
    · refine V_iconst Y.1 (v := 0) dX3_hasCard_22 (rfl : _ = 23) (by decide) ?_
      exact V_ret Y.1 dX3_hasCard_23 rfl (Nat.le_of_ble_eq_true rfl) (Nat.le_of_ble_eq_true rfl) ⟨by simp [b_card, *], rfl⟩
    · refine V_iload_n Y.1 1 dX3_hasCard_12 (rfl : _ = 13) rfl rfl ?_
      refine V_bipush Y.1 (v := 8) dX3_hasCard_13 (rfl : _ = 15) (by decide) ?_
      refine V_icmp_ge Y.1 (tgt := 22) dX3_hasCard_15 (by decide) (rfl : _ = 18) (fun c_15 => ?_) (fun c_15 => ?_)
      · refine V_iconst Y.1 (v := 0) dX3_hasCard_22 (rfl : _ = 23) (by decide) ?_
        exact V_ret Y.1 dX3_hasCard_23 rfl (Nat.le_of_ble_eq_true rfl) (Nat.le_of_ble_eq_true rfl) ⟨by simp [b_card, *], rfl⟩
      · refine V_iconst Y.1 (v := 1) dX3_hasCard_18 (rfl : _ = 19) (by decide) ?_
        refine V_goto Y.1 (tgt := 23) dX3_hasCard_19 (by decide) ?_
        exact V_ret Y.1 dX3_hasCard_23 rfl (Nat.le_of_ble_eq_true rfl) (Nat.le_of_ble_eq_true rfl) ⟨by simp [b_card, *], rfl⟩

set_option maxRecDepth 100000 in
set_option maxHeartbeats 4000000 in
theorem c_X3_presentDay (l : Launch) (D : va_G) (kA : Nat → ClassId) (H0 : Heap) (m : Nat) (M : MS) (ES : Nat → Prop) (hM : Mc D kA H0 m M ES)  : Ct l D kA yX3_presentDay cX3_presentDay 1 (some .int) 0 0 0 0 H0 [.ref m] (nof) (pI fun v H => v = M.1 1 / 1440 ∧ H = H0) := by
  refine Ct.of mi_X3_presentDay (Nat.le_of_ble_eq_true rfl) (ls0 := [(0, _)]) rfl ?_
  intro Pp Ee Ss Mm Ar Bl Me Cc Y hs hnm
  obtain ⟨E, hK⟩ := id hM
  have sz : H0.size = H0.size := rfl
  refine V_aload_n Y.1 0 dX3_presentDay_0 (rfl : _ = 1) rfl rfl ?_
  refine V_get Y.1 fi_X3_36 hK.1.1 rfl dX3_presentDay_1 (rfl : _ = 4) ?_
  refine V_sipush Y.1 (v := 1440) dX3_presentDay_4 (rfl : _ = 7) (by decide) ?_
  refine V_idiv Y.1 dX3_presentDay_7 (rfl : _ = 8) (by decide) ?_
  exact V_ret Y.1 dX3_presentDay_8 rfl (Nat.le_of_ble_eq_true rfl) (Nat.le_of_ble_eq_true rfl) ⟨rfl, rfl⟩

set_option maxRecDepth 100000 in
set_option maxHeartbeats 4000000 in
theorem c_X3_isInTimeToRepair (l : Launch) (D : va_G) (kA : Nat → ClassId) (H0 : Heap) (m : Nat) (M : MS) (ES : Nat → Prop) (x : Int32) (hM : Mc D kA H0 m M ES) (hx : vp_in x 8) : Ct l D kA yX3_isInTimeToRepair cX3_isInTimeToRepair 2 (some .boolean) 1 20 0 0 H0 [.ref m, .int x] (nof) (pI fun v H => v = m_rep M x ∧ H = H0) := by
  refine Ct.of mi_X3_isInTimeToRepair (Nat.le_of_ble_eq_true rfl) (ls0 := [(0, _), (1, _)]) rfl ?_
  intro Pp Ee Ss Mm Ar Bl Me Cc Y hs hnm
  obtain ⟨E, hK⟩ := id hM
  have sz : H0.size = H0.size := rfl
  refine V_aload_n Y.1 0 dX3_isInTimeToRepair_0 (rfl : _ = 1) rfl rfl ?_
  refine V_cP Y (rV Y (c_X3_presentDay l D kA _ m M ES hM) mi_X3_presentDay vi_X3_54 rfl hK.1.1 rfl rfl (Nat.le_of_ble_eq_true rfl) ⟨Nat.le_of_ble_eq_true rfl, Nat.le_of_ble_eq_true rfl⟩ (Nat.le_of_ble_eq_true rfl) (Nat.le_of_ble_eq_true rfl) dX3_isInTimeToRepair_1) (rfl : _ = 4) ?_
  refine V_aload_n Y.1 0 dX3_isInTimeToRepair_4 (rfl : _ = 5) rfl rfl ?_
  refine V_get Y.1 fi_X3_20 hK.1.1 rfl dX3_isInTimeToRepair_5 (rfl : _ = 8) ?_
  refine V_iload_n Y.1 1 dX3_isInTimeToRepair_8 (rfl : _ = 9) rfl rfl ?_
  refine V_aldK Y.1 (v := m_ca m x.toNatClampNeg) hK.1.2.2.1 hx rfl dX3_isInTimeToRepair_9 (rfl : _ = 10) ?_
  refine V_get Y.1 fi_X3_58 (hK.1.2.2.2 _ (vin_lt hx)).1 rfl dX3_isInTimeToRepair_10 (rfl : _ = 13) ?_
  refine V_isub Y.1 dX3_isInTimeToRepair_13 (rfl : _ = 14) ?_
  refine V_iconst Y.1 (v := 2) dX3_isInTimeToRepair_14 (rfl : _ = 15) (by decide) ?_
  refine V_icmp_gt Y.1 (tgt := 22) dX3_isInTimeToRepair_15 (by decide) (rfl : _ = 18) (fun c_15 => ?_) (fun c_15 => ?_)
  · refine V_iconst Y.1 (v := 0) dX3_isInTimeToRepair_22 (rfl : _ = 23) (by decide) ?_
    exact V_ret Y.1 dX3_isInTimeToRepair_23 rfl (Nat.le_of_ble_eq_true rfl) (Nat.le_of_ble_eq_true rfl) ⟨by simp [m_rep, m_c, *], rfl⟩
  · refine V_iconst Y.1 (v := 1) dX3_isInTimeToRepair_18 (rfl : _ = 19) (by decide) ?_
    refine V_goto Y.1 (tgt := 23) dX3_isInTimeToRepair_19 (by decide) ?_
    exact V_ret Y.1 dX3_isInTimeToRepair_23 rfl (Nat.le_of_ble_eq_true rfl) (Nat.le_of_ble_eq_true rfl) ⟨by simp [m_rep, m_c, *], rfl⟩

set_option maxRecDepth 100000 in
set_option maxHeartbeats 4000000 in
theorem c_X3_problemOfLoad (l : Launch) (D : va_G) (kA : Nat → ClassId) (H0 : Heap) (m : Nat) (M : MS) (ES : Nat → Prop) (x y : Int32) (hM : Mc D kA H0 m M ES)  : Ct l D kA yX3_problemOfLoad cX3_problemOfLoad 3 (some .int) 1 21 0 0 H0 [.ref m, .int x, .int y] (nof) (pI fun v H => v = m_pLoad M x y ∧ H = H0) := by
  refine Ct.of mi_X3_problemOfLoad (Nat.le_of_ble_eq_true rfl) (ls0 := [(0, _), (1, _), (2, _)]) rfl ?_
  intro Pp Ee Ss Mm Ar Bl Me Cc Y hs hnm
  obtain ⟨E, hK⟩ := id hM
  have sz : H0.size = H0.size := rfl
  refine V_aload_n Y.1 0 dX3_problemOfLoad_0 (rfl : _ = 1) rfl rfl ?_
  refine V_iload_n Y.1 1 dX3_problemOfLoad_1 (rfl : _ = 2) rfl rfl ?_
  refine V_cP Y (rV Y (c_X3_hasCard l D kA _ m M ES x hM) mi_X3_hasCard vi_X3_80 rfl hK.1.1 rfl rfl (Nat.le_of_ble_eq_true rfl) ⟨Nat.le_of_ble_eq_true rfl, Nat.le_of_ble_eq_true rfl⟩ (Nat.le_of_ble_eq_true rfl) (Nat.le_of_ble_eq_true rfl) dX3_problemOfLoad_2) (rfl : _ = 5) ?_
  refine V_if_ne Y.1 (tgt := 10) dX3_problemOfLoad_5 (by decide) (rfl : _ = 8) (fun c_5 => ?_) (fun c_5 => ?_)
  · refine V_iload_n Y.1 2 dX3_problemOfLoad_10 (rfl : _ = 11) rfl rfl ?_
    refine V_iconst Y.1 (v := 1) dX3_problemOfLoad_11 (rfl : _ = 12) (by decide) ?_
    refine V_icmp_lt Y.1 (tgt := 22) dX3_problemOfLoad_12 (by decide) (rfl : _ = 15) (fun c_12 => ?_) (fun c_12 => ?_)
    · refine V_iconst Y.1 (v := 2) dX3_problemOfLoad_22 (rfl : _ = 23) (by decide) ?_
      exact V_ret Y.1 dX3_problemOfLoad_23 rfl (Nat.le_of_ble_eq_true rfl) (Nat.le_of_ble_eq_true rfl) ⟨by simp [m_pLoad, m_c, *], rfl⟩
    · refine V_iload_n Y.1 2 dX3_problemOfLoad_15 (rfl : _ = 16) rfl rfl ?_
      refine V_sipush Y.1 (v := 9999) dX3_problemOfLoad_16 (rfl : _ = 19) (by decide) ?_
      refine V_icmp_le Y.1 (tgt := 24) dX3_problemOfLoad_19 (by decide) (rfl : _ = 22) (fun c_19 => ?_) (fun c_19 => ?_)
      · have hx := b_card_in (M := M) (x := x) (by assumption)
        refine V_aload_n Y.1 0 dX3_problemOfLoad_24 (rfl : _ = 25) rfl rfl ?_
        refine V_get Y.1 fi_X3_20 hK.1.1 rfl dX3_problemOfLoad_25 (rfl : _ = 28) ?_
        refine V_iload_n Y.1 1 dX3_problemOfLoad_28 (rfl : _ = 29) rfl rfl ?_
        refine V_aldK Y.1 (v := m_ca m x.toNatClampNeg) hK.1.2.2.1 hx rfl dX3_problemOfLoad_29 (rfl : _ = 30) ?_
        refine V_get Y.1 fi_X3_84 (hK.1.2.2.2 _ (vin_lt hx)).1 rfl dX3_problemOfLoad_30 (rfl : _ = 33) ?_
        refine V_iload_n Y.1 2 dX3_problemOfLoad_33 (rfl : _ = 34) rfl rfl ?_
        refine V_iadd Y.1 dX3_problemOfLoad_34 (rfl : _ = 35) ?_
        refine V_sipush Y.1 (v := 20000) dX3_problemOfLoad_35 (rfl : _ = 38) (by decide) ?_
        refine V_icmp_le Y.1 (tgt := 45) dX3_problemOfLoad_38 (by decide) (rfl : _ = 41) (fun c_38 => ?_) (fun c_38 => ?_)
        · refine V_iconst Y.1 (v := 0) dX3_problemOfLoad_45 (rfl : _ = 46) (by decide) ?_
          exact V_ret Y.1 dX3_problemOfLoad_46 rfl (Nat.le_of_ble_eq_true rfl) (Nat.le_of_ble_eq_true rfl) ⟨by simp [m_pLoad, m_c, *], rfl⟩
        · refine V_iconst Y.1 (v := 5) dX3_problemOfLoad_41 (rfl : _ = 42) (by decide) ?_
          refine V_goto Y.1 (tgt := 46) dX3_problemOfLoad_42 (by decide) ?_
          exact V_ret Y.1 dX3_problemOfLoad_46 rfl (Nat.le_of_ble_eq_true rfl) (Nat.le_of_ble_eq_true rfl) ⟨by simp [m_pLoad, m_c, *], rfl⟩
      · refine V_iconst Y.1 (v := 2) dX3_problemOfLoad_22 (rfl : _ = 23) (by decide) ?_
        exact V_ret Y.1 dX3_problemOfLoad_23 rfl (Nat.le_of_ble_eq_true rfl) (Nat.le_of_ble_eq_true rfl) ⟨by simp [m_pLoad, m_c, *], rfl⟩
  · refine V_iconst Y.1 (v := 1) dX3_problemOfLoad_8 (rfl : _ = 9) (by decide) ?_
    exact V_ret Y.1 dX3_problemOfLoad_9 rfl (Nat.le_of_ble_eq_true rfl) (Nat.le_of_ble_eq_true rfl) ⟨by simp [m_pLoad, m_c, *], rfl⟩

set_option maxRecDepth 100000 in
set_option maxHeartbeats 4000000 in
theorem c_X3_problemOfTapIn (l : Launch) (D : va_G) (kA : Nat → ClassId) (H0 : Heap) (m : Nat) (M : MS) (ES : Nat → Prop) (x y : Int32) (hM : Mc D kA H0 m M ES)  : Ct l D kA yX3_problemOfTapIn cX3_problemOfTapIn 3 (some .int) 1 21 0 0 H0 [.ref m, .int x, .int y] (nof) (pI fun v H => v = m_pIn M x y ∧ H = H0) := by
  refine Ct.of mi_X3_problemOfTapIn (Nat.le_of_ble_eq_true rfl) (ls0 := [(0, _), (1, _), (2, _)]) rfl ?_
  intro Pp Ee Ss Mm Ar Bl Me Cc Y hs hnm
  obtain ⟨E, hK⟩ := id hM
  have sz : H0.size = H0.size := rfl
  refine V_aload_n Y.1 0 dX3_problemOfTapIn_0 (rfl : _ = 1) rfl rfl ?_
  refine V_iload_n Y.1 1 dX3_problemOfTapIn_1 (rfl : _ = 2) rfl rfl ?_
  refine V_cP Y (rV Y (c_X3_hasCard l D kA _ m M ES x hM) mi_X3_hasCard vi_X3_80 rfl hK.1.1 rfl rfl (Nat.le_of_ble_eq_true rfl) ⟨Nat.le_of_ble_eq_true rfl, Nat.le_of_ble_eq_true rfl⟩ (Nat.le_of_ble_eq_true rfl) (Nat.le_of_ble_eq_true rfl) dX3_problemOfTapIn_2) (rfl : _ = 5) ?_
  refine V_if_eq Y.1 (tgt := 15) dX3_problemOfTapIn_5 (by decide) (rfl : _ = 8) (fun c_5 => ?_) (fun c_5 => ?_)
  · refine V_iconst Y.1 (v := 1) dX3_problemOfTapIn_15 (rfl : _ = 16) (by decide) ?_
    exact V_ret Y.1 dX3_problemOfTapIn_16 rfl (Nat.le_of_ble_eq_true rfl) (Nat.le_of_ble_eq_true rfl) ⟨by simp [m_pIn, m_c, *], rfl⟩
  · refine V_iload_n Y.1 2 dX3_problemOfTapIn_8 (rfl : _ = 9) rfl rfl ?_
    refine V_cP Y (rS Y (c_X2_hasStation l D kA _ y) mi_X2_hasStation si_X3_87 rfl rfl (Nat.le_of_ble_eq_true rfl) ⟨Nat.le_of_ble_eq_true rfl, Nat.le_of_ble_eq_true rfl⟩ (Nat.le_of_ble_eq_true rfl) (Nat.le_of_ble_eq_true rfl) dX3_problemOfTapIn_9) (rfl : _ = 12) ?_
    refine V_if_ne Y.1 (tgt := 17) dX3_problemOfTapIn_12 (by decide) (rfl : _ = 15) (fun c_12 => ?_) (fun c_12 => ?_)
    · have hx := b_card_in (M := M) (x := x) (by assumption)
      refine V_aload_n Y.1 0 dX3_problemOfTapIn_17 (rfl : _ = 18) rfl rfl ?_
      refine V_get Y.1 fi_X3_20 hK.1.1 rfl dX3_problemOfTapIn_18 (rfl : _ = 21) ?_
      refine V_iload_n Y.1 1 dX3_problemOfTapIn_21 (rfl : _ = 22) rfl rfl ?_
      refine V_aldK Y.1 (v := m_ca m x.toNatClampNeg) hK.1.2.2.1 hx rfl dX3_problemOfTapIn_22 (rfl : _ = 23) ?_
      refine V_get Y.1 fi_X3_84 (hK.1.2.2.2 _ (vin_lt hx)).1 rfl dX3_problemOfTapIn_23 (rfl : _ = 26) ?_
      refine V_sipush Y.1 (v := -500) dX3_problemOfTapIn_26 (rfl : _ = 29) (by decide) ?_
      refine V_icmp_ge Y.1 (tgt := 36) dX3_problemOfTapIn_29 (by decide) (rfl : _ = 32) (fun c_29 => ?_) (fun c_29 => ?_)
      · refine V_iconst Y.1 (v := 0) dX3_problemOfTapIn_36 (rfl : _ = 37) (by decide) ?_
        exact V_ret Y.1 dX3_problemOfTapIn_37 rfl (Nat.le_of_ble_eq_true rfl) (Nat.le_of_ble_eq_true rfl) ⟨by simp [m_pIn, m_c, *], rfl⟩
      · refine V_iconst Y.1 (v := 3) dX3_problemOfTapIn_32 (rfl : _ = 33) (by decide) ?_
        refine V_goto Y.1 (tgt := 37) dX3_problemOfTapIn_33 (by decide) ?_
        exact V_ret Y.1 dX3_problemOfTapIn_37 rfl (Nat.le_of_ble_eq_true rfl) (Nat.le_of_ble_eq_true rfl) ⟨by simp [m_pIn, m_c, *], rfl⟩
    · refine V_iconst Y.1 (v := 1) dX3_problemOfTapIn_15 (rfl : _ = 16) (by decide) ?_
      exact V_ret Y.1 dX3_problemOfTapIn_16 rfl (Nat.le_of_ble_eq_true rfl) (Nat.le_of_ble_eq_true rfl) ⟨by simp [m_pIn, m_c, *], rfl⟩

set_option maxRecDepth 100000 in
set_option maxHeartbeats 4000000 in
theorem c_X3_problemOfTapOut (l : Launch) (D : va_G) (kA : Nat → ClassId) (H0 : Heap) (m : Nat) (M : MS) (ES : Nat → Prop) (x y : Int32) (hM : Mc D kA H0 m M ES)  : Ct l D kA yX3_problemOfTapOut cX3_problemOfTapOut 3 (some .int) 1 21 0 0 H0 [.ref m, .int x, .int y] (nof) (pI fun v H => v = m_pOut M x y ∧ H = H0) := by
  refine Ct.of mi_X3_problemOfTapOut (Nat.le_of_ble_eq_true rfl) (ls0 := [(0, _), (1, _), (2, _)]) rfl ?_
  intro Pp Ee Ss Mm Ar Bl Me Cc Y hs hnm
  obtain ⟨E, hK⟩ := id hM
  have sz : H0.size = H0.size := rfl
  refine V_aload_n Y.1 0 dX3_problemOfTapOut_0 (rfl : _ = 1) rfl rfl ?_
  refine V_iload_n Y.1 1 dX3_problemOfTapOut_1 (rfl : _ = 2) rfl rfl ?_
  refine V_cP Y (rV Y (c_X3_hasCard l D kA _ m M ES x hM) mi_X3_hasCard vi_X3_80 rfl hK.1.1 rfl rfl (Nat.le_of_ble_eq_true rfl) ⟨Nat.le_of_ble_eq_true rfl, Nat.le_of_ble_eq_true rfl⟩ (Nat.le_of_ble_eq_true rfl) (Nat.le_of_ble_eq_true rfl) dX3_problemOfTapOut_2) (rfl : _ = 5) ?_
  refine V_if_eq Y.1 (tgt := 15) dX3_problemOfTapOut_5 (by decide) (rfl : _ = 8) (fun c_5 => ?_) (fun c_5 => ?_)
  · refine V_iconst Y.1 (v := 1) dX3_problemOfTapOut_15 (rfl : _ = 16) (by decide) ?_
    exact V_ret Y.1 dX3_problemOfTapOut_16 rfl (Nat.le_of_ble_eq_true rfl) (Nat.le_of_ble_eq_true rfl) ⟨by simp [m_pOut, m_c, *], rfl⟩
  · refine V_iload_n Y.1 2 dX3_problemOfTapOut_8 (rfl : _ = 9) rfl rfl ?_
    refine V_cP Y (rS Y (c_X2_hasStation l D kA _ y) mi_X2_hasStation si_X3_87 rfl rfl (Nat.le_of_ble_eq_true rfl) ⟨Nat.le_of_ble_eq_true rfl, Nat.le_of_ble_eq_true rfl⟩ (Nat.le_of_ble_eq_true rfl) (Nat.le_of_ble_eq_true rfl) dX3_problemOfTapOut_9) (rfl : _ = 12) ?_
    refine V_if_ne Y.1 (tgt := 17) dX3_problemOfTapOut_12 (by decide) (rfl : _ = 15) (fun c_12 => ?_) (fun c_12 => ?_)
    · have hx := b_card_in (M := M) (x := x) (by assumption)
      refine V_aload_n Y.1 0 dX3_problemOfTapOut_17 (rfl : _ = 18) rfl rfl ?_
      refine V_get Y.1 fi_X3_20 hK.1.1 rfl dX3_problemOfTapOut_18 (rfl : _ = 21) ?_
      refine V_iload_n Y.1 1 dX3_problemOfTapOut_21 (rfl : _ = 22) rfl rfl ?_
      refine V_aldK Y.1 (v := m_ca m x.toNatClampNeg) hK.1.2.2.1 hx rfl dX3_problemOfTapOut_22 (rfl : _ = 23) ?_
      refine V_get Y.1 fi_X3_90 (hK.1.2.2.2 _ (vin_lt hx)).1 rfl dX3_problemOfTapOut_23 (rfl : _ = 26) ?_
      refine V_if_eq Y.1 (tgt := 33) dX3_problemOfTapOut_26 (by decide) (rfl : _ = 29) (fun c_26 => ?_) (fun c_26 => ?_)
      · refine V_iconst Y.1 (v := 3) dX3_problemOfTapOut_33 (rfl : _ = 34) (by decide) ?_
        exact V_ret Y.1 dX3_problemOfTapOut_34 rfl (Nat.le_of_ble_eq_true rfl) (Nat.le_of_ble_eq_true rfl) ⟨by simp [m_pOut, m_c, *], rfl⟩
      · refine V_iconst Y.1 (v := 0) dX3_problemOfTapOut_29 (rfl : _ = 30) (by decide) ?_
        refine V_goto Y.1 (tgt := 34) dX3_problemOfTapOut_30 (by decide) ?_
        exact V_ret Y.1 dX3_problemOfTapOut_34 rfl (Nat.le_of_ble_eq_true rfl) (Nat.le_of_ble_eq_true rfl) ⟨by simp [m_pOut, m_c, *], rfl⟩
    · refine V_iconst Y.1 (v := 1) dX3_problemOfTapOut_15 (rfl : _ = 16) (by decide) ?_
      exact V_ret Y.1 dX3_problemOfTapOut_16 rfl (Nat.le_of_ble_eq_true rfl) (Nat.le_of_ble_eq_true rfl) ⟨by simp [m_pOut, m_c, *], rfl⟩

set_option maxRecDepth 100000 in
set_option maxHeartbeats 4000000 in
theorem c_X3_problemOfRepair (l : Launch) (D : va_G) (kA : Nat → ClassId) (H0 : Heap) (m : Nat) (M : MS) (ES : Nat → Prop) (x y : Int32) (hM : Mc D kA H0 m M ES)  : Ct l D kA yX3_problemOfRepair cX3_problemOfRepair 3 (some .int) 2 41 0 0 H0 [.ref m, .int x, .int y] (nof) (pI fun v H => v = m_pRep M x y ∧ H = H0) := by
  refine Ct.of mi_X3_problemOfRepair (Nat.le_of_ble_eq_true rfl) (ls0 := [(0, _), (1, _), (2, _)]) rfl ?_
  intro Pp Ee Ss Mm Ar Bl Me Cc Y hs hnm
  obtain ⟨E, hK⟩ := id hM
  have sz : H0.size = H0.size := rfl
  refine V_aload_n Y.1 0 dX3_problemOfRepair_0 (rfl : _ = 1) rfl rfl ?_
  refine V_iload_n Y.1 1 dX3_problemOfRepair_1 (rfl : _ = 2) rfl rfl ?_
  refine V_cP Y (rV Y (c_X3_hasCard l D kA _ m M ES x hM) mi_X3_hasCard vi_X3_80 rfl hK.1.1 rfl rfl (Nat.le_of_ble_eq_true rfl) ⟨Nat.le_of_ble_eq_true rfl, Nat.le_of_ble_eq_true rfl⟩ (Nat.le_of_ble_eq_true rfl) (Nat.le_of_ble_eq_true rfl) dX3_problemOfRepair_2) (rfl : _ = 5) ?_
  refine V_if_eq Y.1 (tgt := 15) dX3_problemOfRepair_5 (by decide) (rfl : _ = 8) (fun c_5 => ?_) (fun c_5 => ?_)
  · refine V_iconst Y.1 (v := 1) dX3_problemOfRepair_15 (rfl : _ = 16) (by decide) ?_
    exact V_ret Y.1 dX3_problemOfRepair_16 rfl (Nat.le_of_ble_eq_true rfl) (Nat.le_of_ble_eq_true rfl) ⟨by simp [m_pRep, m_c, *], rfl⟩
  · refine V_iload_n Y.1 2 dX3_problemOfRepair_8 (rfl : _ = 9) rfl rfl ?_
    refine V_cP Y (rS Y (c_X2_hasStation l D kA _ y) mi_X2_hasStation si_X3_87 rfl rfl (Nat.le_of_ble_eq_true rfl) ⟨Nat.le_of_ble_eq_true rfl, Nat.le_of_ble_eq_true rfl⟩ (Nat.le_of_ble_eq_true rfl) (Nat.le_of_ble_eq_true rfl) dX3_problemOfRepair_9) (rfl : _ = 12) ?_
    refine V_if_ne Y.1 (tgt := 17) dX3_problemOfRepair_12 (by decide) (rfl : _ = 15) (fun c_12 => ?_) (fun c_12 => ?_)
    · have hx := b_card_in (M := M) (x := x) (by assumption)
      refine V_aload_n Y.1 0 dX3_problemOfRepair_17 (rfl : _ = 18) rfl rfl ?_
      refine V_get Y.1 fi_X3_20 hK.1.1 rfl dX3_problemOfRepair_18 (rfl : _ = 21) ?_
      refine V_iload_n Y.1 1 dX3_problemOfRepair_21 (rfl : _ = 22) rfl rfl ?_
      refine V_aldK Y.1 (v := m_ca m x.toNatClampNeg) hK.1.2.2.1 hx rfl dX3_problemOfRepair_22 (rfl : _ = 23) ?_
      refine V_get Y.1 fi_X3_94 (hK.1.2.2.2 _ (vin_lt hx)).1 rfl dX3_problemOfRepair_23 (rfl : _ = 26) ?_
      refine V_if_ne Y.1 (tgt := 31) dX3_problemOfRepair_26 (by decide) (rfl : _ = 29) (fun c_26 => ?_) (fun c_26 => ?_)
      · refine V_aload_n Y.1 0 dX3_problemOfRepair_31 (rfl : _ = 32) rfl rfl ?_
        refine V_iload_n Y.1 1 dX3_problemOfRepair_32 (rfl : _ = 33) rfl rfl ?_
        refine V_cP Y (rV Y (c_X3_isInTimeToRepair l D kA _ m M ES x hM hx) mi_X3_isInTimeToRepair vi_X3_97 rfl hK.1.1 rfl rfl (Nat.le_of_ble_eq_true rfl) ⟨Nat.le_of_ble_eq_true rfl, Nat.le_of_ble_eq_true rfl⟩ (Nat.le_of_ble_eq_true rfl) (Nat.le_of_ble_eq_true rfl) dX3_problemOfRepair_33) (rfl : _ = 36) ?_
        refine V_if_eq Y.1 (tgt := 43) dX3_problemOfRepair_36 (by decide) (rfl : _ = 39) (fun c_36 => ?_) (fun c_36 => ?_)
        · refine V_iconst Y.1 (v := 3) dX3_problemOfRepair_43 (rfl : _ = 44) (by decide) ?_
          exact V_ret Y.1 dX3_problemOfRepair_44 rfl (Nat.le_of_ble_eq_true rfl) (Nat.le_of_ble_eq_true rfl) ⟨by simp [m_pRep, m_c, *], rfl⟩
        · refine V_iconst Y.1 (v := 0) dX3_problemOfRepair_39 (rfl : _ = 40) (by decide) ?_
          refine V_goto Y.1 (tgt := 44) dX3_problemOfRepair_40 (by decide) ?_
          exact V_ret Y.1 dX3_problemOfRepair_44 rfl (Nat.le_of_ble_eq_true rfl) (Nat.le_of_ble_eq_true rfl) ⟨by simp [m_pRep, m_c, *], rfl⟩
      · refine V_iconst Y.1 (v := 4) dX3_problemOfRepair_29 (rfl : _ = 30) (by decide) ?_
        exact V_ret Y.1 dX3_problemOfRepair_30 rfl (Nat.le_of_ble_eq_true rfl) (Nat.le_of_ble_eq_true rfl) ⟨by simp [m_pRep, m_c, *], rfl⟩
    · refine V_iconst Y.1 (v := 1) dX3_problemOfRepair_15 (rfl : _ = 16) (by decide) ?_
      exact V_ret Y.1 dX3_problemOfRepair_16 rfl (Nat.le_of_ble_eq_true rfl) (Nat.le_of_ble_eq_true rfl) ⟨by simp [m_pRep, m_c, *], rfl⟩

set_option maxRecDepth 100000 in
set_option maxHeartbeats 4000000 in
theorem c_X3_problemOfZone (l : Launch) (D : va_G) (kA : Nat → ClassId) (H0 : Heap) (x y : Int32)  : Ct l D kA yX3_problemOfZone cX3_problemOfZone 2 (some .int) 1 20 0 0 H0 [.int x, .int y] (nof) (pI fun v H => v = m_pZone x y ∧ H = H0) := by
  refine Ct.of mi_X3_problemOfZone (Nat.le_of_ble_eq_true rfl) (ls0 := [(0, _), (1, _)]) rfl ?_
  intro Pp Ee Ss Mm Ar Bl Me Cc Y hs hnm
  have sz : H0.size = H0.size := rfl
  refine V_iload_n Y.1 0 dX3_problemOfZone_0 (rfl : _ = 1) rfl rfl ?_
  refine V_cP Y (rS Y (c_X2_hasStation l D kA _ x) mi_X2_hasStation si_X3_87 rfl rfl (Nat.le_of_ble_eq_true rfl) ⟨Nat.le_of_ble_eq_true rfl, Nat.le_of_ble_eq_true rfl⟩ (Nat.le_of_ble_eq_true rfl) (Nat.le_of_ble_eq_true rfl) dX3_problemOfZone_1) (rfl : _ = 4) ?_
  refine V_if_ne Y.1 (tgt := 9) dX3_problemOfZone_4 (by decide) (rfl : _ = 7) (fun c_4 => ?_) (fun c_4 => ?_)
  · refine V_iload_n Y.1 1 dX3_problemOfZone_9 (rfl : _ = 10) rfl rfl ?_
    refine V_iconst Y.1 (v := 1) dX3_problemOfZone_10 (rfl : _ = 11) (by decide) ?_
    refine V_icmp_lt Y.1 (tgt := 20) dX3_problemOfZone_11 (by decide) (rfl : _ = 14) (fun c_11 => ?_) (fun c_11 => ?_)
    · refine V_iconst Y.1 (v := 2) dX3_problemOfZone_20 (rfl : _ = 21) (by decide) ?_
      refine V_goto Y.1 (tgt := 25) dX3_problemOfZone_21 (by decide) ?_
      exact V_ret Y.1 dX3_problemOfZone_25 rfl (Nat.le_of_ble_eq_true rfl) (Nat.le_of_ble_eq_true rfl) ⟨by simp [m_pZone, *], rfl⟩
    · refine V_iload_n Y.1 1 dX3_problemOfZone_14 (rfl : _ = 15) rfl rfl ?_
      refine V_bipush Y.1 (v := 6) dX3_problemOfZone_15 (rfl : _ = 17) (by decide) ?_
      refine V_icmp_le Y.1 (tgt := 24) dX3_problemOfZone_17 (by decide) (rfl : _ = 20) (fun c_17 => ?_) (fun c_17 => ?_)
      · refine V_iconst Y.1 (v := 0) dX3_problemOfZone_24 (rfl : _ = 25) (by decide) ?_
        exact V_ret Y.1 dX3_problemOfZone_25 rfl (Nat.le_of_ble_eq_true rfl) (Nat.le_of_ble_eq_true rfl) ⟨by simp [m_pZone, *], rfl⟩
      · refine V_iconst Y.1 (v := 2) dX3_problemOfZone_20 (rfl : _ = 21) (by decide) ?_
        refine V_goto Y.1 (tgt := 25) dX3_problemOfZone_21 (by decide) ?_
        exact V_ret Y.1 dX3_problemOfZone_25 rfl (Nat.le_of_ble_eq_true rfl) (Nat.le_of_ble_eq_true rfl) ⟨by simp [m_pZone, *], rfl⟩
  · refine V_iconst Y.1 (v := 1) dX3_problemOfZone_7 (rfl : _ = 8) (by decide) ?_
    exact V_ret Y.1 dX3_problemOfZone_8 rfl (Nat.le_of_ble_eq_true rfl) (Nat.le_of_ble_eq_true rfl) ⟨by simp [m_pZone, *], rfl⟩

set_option maxRecDepth 100000 in
set_option maxHeartbeats 4000000 in
theorem c_X3_problemOfFares (l : Launch) (D : va_G) (kA : Nat → ClassId) (H0 : Heap) (x y : Int32)  : Ct l D kA yX3_problemOfFares cX3_problemOfFares 4 (some .int) 0 0 0 0 H0 [.int x, .int y] (nof) (pI fun v H => v = m_pFares x y ∧ H = H0) := by
  refine Ct.of mi_X3_problemOfFares (Nat.le_of_ble_eq_true rfl) (ls0 := [(0, _), (1, _)]) rfl ?_
  intro Pp Ee Ss Mm Ar Bl Me Cc Y hs hnm
  have sz : H0.size = H0.size := rfl
  refine V_iload_n Y.1 0 dX3_problemOfFares_0 (rfl : _ = 1) rfl rfl ?_
  refine V_if_lt Y.1 (tgt := 15) dX3_problemOfFares_1 (by decide) (rfl : _ = 4) (fun c_1 => ?_) (fun c_1 => ?_)
  · refine V_iconst Y.1 (v := 0) dX3_problemOfFares_15 (rfl : _ = 16) (by decide) ?_
    refine V_istore_n Y.1 (ls' := [(2, _), (0, _), (1, _)]) dX3_problemOfFares_16 (rfl : _ = 17) rfl (by decide) rfl ?_
    refine V_iload_n Y.1 2 dX3_problemOfFares_17 (rfl : _ = 18) rfl rfl ?_
    refine V_if_lt Y.1 (tgt := 31) dX3_problemOfFares_18 (by decide) (rfl : _ = 21) (fun c_18 => ?_) (fun c_18 => ?_)
    · refine V_iconst Y.1 (v := 0) dX3_problemOfFares_31 (rfl : _ = 32) (by decide) ?_
      refine V_istore_n Y.1 (ls' := [(3, _), (2, _), (0, _), (1, _)]) dX3_problemOfFares_32 (rfl : _ = 33) rfl (by decide) rfl ?_
      refine V_iload_n Y.1 1 dX3_problemOfFares_33 (rfl : _ = 34) rfl rfl ?_
      refine V_if_eq Y.1 (tgt := 45) dX3_problemOfFares_34 (by decide) (rfl : _ = 37) (fun _ => ?_) (fun c_n => absurd rfl c_n)
      refine V_iconst Y.1 (v := 2) dX3_problemOfFares_45 (rfl : _ = 46) (by decide) ?_
      exact V_ret Y.1 dX3_problemOfFares_46 rfl (Nat.le_of_ble_eq_true rfl) (Nat.le_of_ble_eq_true rfl) ⟨by simp [m_pFares, *], rfl⟩
    · refine V_iload_n Y.1 2 dX3_problemOfFares_21 (rfl : _ = 22) rfl rfl ?_
      refine V_bipush Y.1 (v := 99) dX3_problemOfFares_22 (rfl : _ = 24) (by decide) ?_
      refine V_icmp_gt Y.1 (tgt := 31) dX3_problemOfFares_24 (by decide) (rfl : _ = 27) (fun c_24 => ?_) (fun c_24 => ?_)
      · refine V_iconst Y.1 (v := 0) dX3_problemOfFares_31 (rfl : _ = 32) (by decide) ?_
        refine V_istore_n Y.1 (ls' := [(3, _), (2, _), (0, _), (1, _)]) dX3_problemOfFares_32 (rfl : _ = 33) rfl (by decide) rfl ?_
        refine V_iload_n Y.1 1 dX3_problemOfFares_33 (rfl : _ = 34) rfl rfl ?_
        refine V_if_eq Y.1 (tgt := 45) dX3_problemOfFares_34 (by decide) (rfl : _ = 37) (fun _ => ?_) (fun c_n => absurd rfl c_n)
        refine V_iconst Y.1 (v := 2) dX3_problemOfFares_45 (rfl : _ = 46) (by decide) ?_
        exact V_ret Y.1 dX3_problemOfFares_46 rfl (Nat.le_of_ble_eq_true rfl) (Nat.le_of_ble_eq_true rfl) ⟨by simp [m_pFares, *], rfl⟩
      · refine V_iconst Y.1 (v := 1) dX3_problemOfFares_27 (rfl : _ = 28) (by decide) ?_
        refine V_goto Y.1 (tgt := 32) dX3_problemOfFares_28 (by decide) ?_
        refine V_istore_n Y.1 (ls' := [(3, _), (2, _), (0, _), (1, _)]) dX3_problemOfFares_32 (rfl : _ = 33) rfl (by decide) rfl ?_
        refine V_iload_n Y.1 1 dX3_problemOfFares_33 (rfl : _ = 34) rfl rfl ?_
        refine V_if_eq Y.1 (tgt := 45) dX3_problemOfFares_34 (by decide) (rfl : _ = 37) (fun _ => ?_) (fun c_n => absurd rfl c_n)
        refine V_iconst Y.1 (v := 2) dX3_problemOfFares_45 (rfl : _ = 46) (by decide) ?_
        exact V_ret Y.1 dX3_problemOfFares_46 rfl (Nat.le_of_ble_eq_true rfl) (Nat.le_of_ble_eq_true rfl) ⟨by simp [m_pFares, *], rfl⟩
  · refine V_iload_n Y.1 0 dX3_problemOfFares_4 (rfl : _ = 5) rfl rfl ?_
    refine V_sipush Y.1 (v := 999) dX3_problemOfFares_5 (rfl : _ = 8) (by decide) ?_
    refine V_icmp_gt Y.1 (tgt := 15) dX3_problemOfFares_8 (by decide) (rfl : _ = 11) (fun c_8 => ?_) (fun c_8 => ?_)
    · refine V_iconst Y.1 (v := 0) dX3_problemOfFares_15 (rfl : _ = 16) (by decide) ?_
      refine V_istore_n Y.1 (ls' := [(2, _), (0, _), (1, _)]) dX3_problemOfFares_16 (rfl : _ = 17) rfl (by decide) rfl ?_
      refine V_iload_n Y.1 2 dX3_problemOfFares_17 (rfl : _ = 18) rfl rfl ?_
      refine V_if_lt Y.1 (tgt := 31) dX3_problemOfFares_18 (by decide) (rfl : _ = 21) (fun c_18 => ?_) (fun c_18 => ?_)
      · refine V_iconst Y.1 (v := 0) dX3_problemOfFares_31 (rfl : _ = 32) (by decide) ?_
        refine V_istore_n Y.1 (ls' := [(3, _), (2, _), (0, _), (1, _)]) dX3_problemOfFares_32 (rfl : _ = 33) rfl (by decide) rfl ?_
        refine V_iload_n Y.1 1 dX3_problemOfFares_33 (rfl : _ = 34) rfl rfl ?_
        refine V_if_eq Y.1 (tgt := 45) dX3_problemOfFares_34 (by decide) (rfl : _ = 37) (fun _ => ?_) (fun c_n => absurd rfl c_n)
        refine V_iconst Y.1 (v := 2) dX3_problemOfFares_45 (rfl : _ = 46) (by decide) ?_
        exact V_ret Y.1 dX3_problemOfFares_46 rfl (Nat.le_of_ble_eq_true rfl) (Nat.le_of_ble_eq_true rfl) ⟨by simp [m_pFares, *], rfl⟩
      · refine V_iload_n Y.1 2 dX3_problemOfFares_21 (rfl : _ = 22) rfl rfl ?_
        refine V_bipush Y.1 (v := 99) dX3_problemOfFares_22 (rfl : _ = 24) (by decide) ?_
        refine V_icmp_gt Y.1 (tgt := 31) dX3_problemOfFares_24 (by decide) (rfl : _ = 27) (fun c_24 => ?_) (fun c_24 => ?_)
        · refine V_iconst Y.1 (v := 0) dX3_problemOfFares_31 (rfl : _ = 32) (by decide) ?_
          refine V_istore_n Y.1 (ls' := [(3, _), (2, _), (0, _), (1, _)]) dX3_problemOfFares_32 (rfl : _ = 33) rfl (by decide) rfl ?_
          refine V_iload_n Y.1 1 dX3_problemOfFares_33 (rfl : _ = 34) rfl rfl ?_
          refine V_if_eq Y.1 (tgt := 45) dX3_problemOfFares_34 (by decide) (rfl : _ = 37) (fun _ => ?_) (fun c_n => absurd rfl c_n)
          refine V_iconst Y.1 (v := 2) dX3_problemOfFares_45 (rfl : _ = 46) (by decide) ?_
          exact V_ret Y.1 dX3_problemOfFares_46 rfl (Nat.le_of_ble_eq_true rfl) (Nat.le_of_ble_eq_true rfl) ⟨by simp [m_pFares, *], rfl⟩
        · refine V_iconst Y.1 (v := 1) dX3_problemOfFares_27 (rfl : _ = 28) (by decide) ?_
          refine V_goto Y.1 (tgt := 32) dX3_problemOfFares_28 (by decide) ?_
          refine V_istore_n Y.1 (ls' := [(3, _), (2, _), (0, _), (1, _)]) dX3_problemOfFares_32 (rfl : _ = 33) rfl (by decide) rfl ?_
          refine V_iload_n Y.1 1 dX3_problemOfFares_33 (rfl : _ = 34) rfl rfl ?_
          refine V_if_eq Y.1 (tgt := 45) dX3_problemOfFares_34 (by decide) (rfl : _ = 37) (fun _ => ?_) (fun c_n => absurd rfl c_n)
          refine V_iconst Y.1 (v := 2) dX3_problemOfFares_45 (rfl : _ = 46) (by decide) ?_
          exact V_ret Y.1 dX3_problemOfFares_46 rfl (Nat.le_of_ble_eq_true rfl) (Nat.le_of_ble_eq_true rfl) ⟨by simp [m_pFares, *], rfl⟩
    · refine V_iconst Y.1 (v := 1) dX3_problemOfFares_11 (rfl : _ = 12) (by decide) ?_
      refine V_goto Y.1 (tgt := 16) dX3_problemOfFares_12 (by decide) ?_
      refine V_istore_n Y.1 (ls' := [(2, _), (0, _), (1, _)]) dX3_problemOfFares_16 (rfl : _ = 17) rfl (by decide) rfl ?_
      refine V_iload_n Y.1 2 dX3_problemOfFares_17 (rfl : _ = 18) rfl rfl ?_
      refine V_if_lt Y.1 (tgt := 31) dX3_problemOfFares_18 (by decide) (rfl : _ = 21) (fun c_18 => ?_) (fun c_18 => ?_)
      · refine V_iconst Y.1 (v := 0) dX3_problemOfFares_31 (rfl : _ = 32) (by decide) ?_
        refine V_istore_n Y.1 (ls' := [(3, _), (2, _), (0, _), (1, _)]) dX3_problemOfFares_32 (rfl : _ = 33) rfl (by decide) rfl ?_
        refine V_iload_n Y.1 1 dX3_problemOfFares_33 (rfl : _ = 34) rfl rfl ?_
        refine V_if_eq Y.1 (tgt := 45) dX3_problemOfFares_34 (by decide) (rfl : _ = 37) (fun c_n => absurd c_n (by decide)) (fun _ => ?_)
        refine V_iload_n Y.1 0 dX3_problemOfFares_37 (rfl : _ = 38) rfl rfl ?_
        refine V_if_eq Y.1 (tgt := 45) dX3_problemOfFares_38 (by decide) (rfl : _ = 41) (fun _ => ?_) (fun c_n => absurd rfl c_n)
        refine V_iconst Y.1 (v := 2) dX3_problemOfFares_45 (rfl : _ = 46) (by decide) ?_
        exact V_ret Y.1 dX3_problemOfFares_46 rfl (Nat.le_of_ble_eq_true rfl) (Nat.le_of_ble_eq_true rfl) ⟨by simp [m_pFares, *], rfl⟩
      · refine V_iload_n Y.1 2 dX3_problemOfFares_21 (rfl : _ = 22) rfl rfl ?_
        refine V_bipush Y.1 (v := 99) dX3_problemOfFares_22 (rfl : _ = 24) (by decide) ?_
        refine V_icmp_gt Y.1 (tgt := 31) dX3_problemOfFares_24 (by decide) (rfl : _ = 27) (fun c_24 => ?_) (fun c_24 => ?_)
        · refine V_iconst Y.1 (v := 0) dX3_problemOfFares_31 (rfl : _ = 32) (by decide) ?_
          refine V_istore_n Y.1 (ls' := [(3, _), (2, _), (0, _), (1, _)]) dX3_problemOfFares_32 (rfl : _ = 33) rfl (by decide) rfl ?_
          refine V_iload_n Y.1 1 dX3_problemOfFares_33 (rfl : _ = 34) rfl rfl ?_
          refine V_if_eq Y.1 (tgt := 45) dX3_problemOfFares_34 (by decide) (rfl : _ = 37) (fun c_n => absurd c_n (by decide)) (fun _ => ?_)
          refine V_iload_n Y.1 0 dX3_problemOfFares_37 (rfl : _ = 38) rfl rfl ?_
          refine V_if_eq Y.1 (tgt := 45) dX3_problemOfFares_38 (by decide) (rfl : _ = 41) (fun _ => ?_) (fun c_n => absurd rfl c_n)
          refine V_iconst Y.1 (v := 2) dX3_problemOfFares_45 (rfl : _ = 46) (by decide) ?_
          exact V_ret Y.1 dX3_problemOfFares_46 rfl (Nat.le_of_ble_eq_true rfl) (Nat.le_of_ble_eq_true rfl) ⟨by simp [m_pFares, *], rfl⟩
        · refine V_iconst Y.1 (v := 1) dX3_problemOfFares_27 (rfl : _ = 28) (by decide) ?_
          refine V_goto Y.1 (tgt := 32) dX3_problemOfFares_28 (by decide) ?_
          refine V_istore_n Y.1 (ls' := [(3, _), (2, _), (0, _), (1, _)]) dX3_problemOfFares_32 (rfl : _ = 33) rfl (by decide) rfl ?_
          refine V_iload_n Y.1 1 dX3_problemOfFares_33 (rfl : _ = 34) rfl rfl ?_
          refine V_if_eq Y.1 (tgt := 45) dX3_problemOfFares_34 (by decide) (rfl : _ = 37) (fun c_n => absurd c_n (by decide)) (fun _ => ?_)
          refine V_iload_n Y.1 0 dX3_problemOfFares_37 (rfl : _ = 38) rfl rfl ?_
          refine V_if_eq Y.1 (tgt := 45) dX3_problemOfFares_38 (by decide) (rfl : _ = 41) (fun c_n => absurd c_n (by decide)) (fun _ => ?_)
          refine V_iconst Y.1 (v := 0) dX3_problemOfFares_41 (rfl : _ = 42) (by decide) ?_
          refine V_goto Y.1 (tgt := 46) dX3_problemOfFares_42 (by decide) ?_
          exact V_ret Y.1 dX3_problemOfFares_46 rfl (Nat.le_of_ble_eq_true rfl) (Nat.le_of_ble_eq_true rfl) ⟨by simp [m_pFares, *], rfl⟩

set_option maxRecDepth 100000 in
set_option maxHeartbeats 4000000 in
theorem c_X3_problemOf_0 (l : Launch) (D : va_G) (kA : Nat → ClassId) (H0 : Heap) (m : Nat) (M : MS) (ES : Nat → Prop) (x y : Int32) (hM : Mc D kA H0 m M ES) : Ct l D kA yX3_problemOf cX3_problemOf 4 (some .int) 3 63 0 0 H0 [.ref m, .int 0, .int x, .int y] (nof) (pI fun v H => v = m_prob M 0 x y ∧ H = H0) := by
  refine Ct.of mi_X3_problemOf (Nat.le_of_ble_eq_true rfl) (ls0 := [(0, _), (1, _), (2, _), (3, _)]) rfl ?_
  intro Pp Ee Ss Mm Ar Bl Me Cc Y hs hnm
  obtain ⟨E, hK⟩ := id hM
  have sz : H0.size = H0.size := rfl
  refine V_iload_n Y.1 1 dX3_problemOf_0 (rfl : _ = 1) rfl rfl ?_
  refine V_tableIn Y.1 (tgt := 44) dX3_problemOf_1 (by decide) (by decide) rfl (by decide) ?_
  refine V_aload_n Y.1 0 dX3_problemOf_44 (rfl : _ = 45) rfl rfl ?_
  refine V_get Y.1 fi_X3_29 hK.1.1 rfl dX3_problemOf_45 (rfl : _ = 48) ?_
  refine V_bipush Y.1 (v := 8) dX3_problemOf_48 (rfl : _ = 50) (by decide) ?_
  refine V_icmp_lt Y.1 (tgt := 57) dX3_problemOf_50 (by decide) (rfl : _ = 53) (fun c_50 => ?_) (fun c_50 => ?_)
  · refine V_iconst Y.1 (v := 0) dX3_problemOf_57 (rfl : _ = 58) (by decide) ?_
    exact V_ret Y.1 dX3_problemOf_58 rfl (Nat.le_of_ble_eq_true rfl) (Nat.le_of_ble_eq_true rfl) ⟨by simp [m_prob, *], rfl⟩
  · refine V_iconst Y.1 (v := 3) dX3_problemOf_53 (rfl : _ = 54) (by decide) ?_
    refine V_goto Y.1 (tgt := 58) dX3_problemOf_54 (by decide) ?_
    exact V_ret Y.1 dX3_problemOf_58 rfl (Nat.le_of_ble_eq_true rfl) (Nat.le_of_ble_eq_true rfl) ⟨by simp [m_prob, *], rfl⟩

set_option maxRecDepth 100000 in
set_option maxHeartbeats 4000000 in
theorem c_X3_problemOf_1 (l : Launch) (D : va_G) (kA : Nat → ClassId) (H0 : Heap) (m : Nat) (M : MS) (ES : Nat → Prop) (x y : Int32) (hM : Mc D kA H0 m M ES) : Ct l D kA yX3_problemOf cX3_problemOf 4 (some .int) 3 63 0 0 H0 [.ref m, .int 1, .int x, .int y] (nof) (pI fun v H => v = m_prob M 1 x y ∧ H = H0) := by
  refine Ct.of mi_X3_problemOf (Nat.le_of_ble_eq_true rfl) (ls0 := [(0, _), (1, _), (2, _), (3, _)]) rfl ?_
  intro Pp Ee Ss Mm Ar Bl Me Cc Y hs hnm
  obtain ⟨E, hK⟩ := id hM
  have sz : H0.size = H0.size := rfl
  refine V_iload_n Y.1 1 dX3_problemOf_0 (rfl : _ = 1) rfl rfl ?_
  refine V_tableIn Y.1 (tgt := 59) dX3_problemOf_1 (by decide) (by decide) rfl (by decide) ?_
  refine V_aload_n Y.1 0 dX3_problemOf_59 (rfl : _ = 60) rfl rfl ?_
  refine V_iload_n Y.1 2 dX3_problemOf_60 (rfl : _ = 61) rfl rfl ?_
  refine V_iload_n Y.1 3 dX3_problemOf_61 (rfl : _ = 62) rfl rfl ?_
  refine V_cP Y (rV Y (c_X3_problemOfLoad l D kA _ m M ES x y hM) mi_X3_problemOfLoad vi_X3_61 rfl hK.1.1 rfl rfl (Nat.le_of_ble_eq_true rfl) ⟨Nat.le_of_ble_eq_true rfl, Nat.le_of_ble_eq_true rfl⟩ (Nat.le_of_ble_eq_true rfl) (Nat.le_of_ble_eq_true rfl) dX3_problemOf_62) (rfl : _ = 65) ?_
  exact V_ret Y.1 dX3_problemOf_65 rfl (Nat.le_of_ble_eq_true rfl) (Nat.le_of_ble_eq_true rfl) ⟨by simp [m_prob, *], rfl⟩

set_option maxRecDepth 100000 in
set_option maxHeartbeats 4000000 in
theorem c_X3_problemOf_2 (l : Launch) (D : va_G) (kA : Nat → ClassId) (H0 : Heap) (m : Nat) (M : MS) (ES : Nat → Prop) (x y : Int32) (hM : Mc D kA H0 m M ES) : Ct l D kA yX3_problemOf cX3_problemOf 4 (some .int) 3 63 0 0 H0 [.ref m, .int 2, .int x, .int y] (nof) (pI fun v H => v = m_prob M 2 x y ∧ H = H0) := by
  refine Ct.of mi_X3_problemOf (Nat.le_of_ble_eq_true rfl) (ls0 := [(0, _), (1, _), (2, _), (3, _)]) rfl ?_
  intro Pp Ee Ss Mm Ar Bl Me Cc Y hs hnm
  obtain ⟨E, hK⟩ := id hM
  have sz : H0.size = H0.size := rfl
  refine V_iload_n Y.1 1 dX3_problemOf_0 (rfl : _ = 1) rfl rfl ?_
  refine V_tableIn Y.1 (tgt := 66) dX3_problemOf_1 (by decide) (by decide) rfl (by decide) ?_
  refine V_aload_n Y.1 0 dX3_problemOf_66 (rfl : _ = 67) rfl rfl ?_
  refine V_iload_n Y.1 2 dX3_problemOf_67 (rfl : _ = 68) rfl rfl ?_
  refine V_iload_n Y.1 3 dX3_problemOf_68 (rfl : _ = 69) rfl rfl ?_
  refine V_cP Y (rV Y (c_X3_problemOfTapIn l D kA _ m M ES x y hM) mi_X3_problemOfTapIn vi_X3_65 rfl hK.1.1 rfl rfl (Nat.le_of_ble_eq_true rfl) ⟨Nat.le_of_ble_eq_true rfl, Nat.le_of_ble_eq_true rfl⟩ (Nat.le_of_ble_eq_true rfl) (Nat.le_of_ble_eq_true rfl) dX3_problemOf_69) (rfl : _ = 72) ?_
  exact V_ret Y.1 dX3_problemOf_72 rfl (Nat.le_of_ble_eq_true rfl) (Nat.le_of_ble_eq_true rfl) ⟨by simp [m_prob, *], rfl⟩

set_option maxRecDepth 100000 in
set_option maxHeartbeats 4000000 in
theorem c_X3_problemOf_3 (l : Launch) (D : va_G) (kA : Nat → ClassId) (H0 : Heap) (m : Nat) (M : MS) (ES : Nat → Prop) (x y : Int32) (hM : Mc D kA H0 m M ES) : Ct l D kA yX3_problemOf cX3_problemOf 4 (some .int) 3 63 0 0 H0 [.ref m, .int 3, .int x, .int y] (nof) (pI fun v H => v = m_prob M 3 x y ∧ H = H0) := by
  refine Ct.of mi_X3_problemOf (Nat.le_of_ble_eq_true rfl) (ls0 := [(0, _), (1, _), (2, _), (3, _)]) rfl ?_
  intro Pp Ee Ss Mm Ar Bl Me Cc Y hs hnm
  obtain ⟨E, hK⟩ := id hM
  have sz : H0.size = H0.size := rfl
  refine V_iload_n Y.1 1 dX3_problemOf_0 (rfl : _ = 1) rfl rfl ?_
  refine V_tableIn Y.1 (tgt := 73) dX3_problemOf_1 (by decide) (by decide) rfl (by decide) ?_
  refine V_aload_n Y.1 0 dX3_problemOf_73 (rfl : _ = 74) rfl rfl ?_
  refine V_iload_n Y.1 2 dX3_problemOf_74 (rfl : _ = 75) rfl rfl ?_
  refine V_iload_n Y.1 3 dX3_problemOf_75 (rfl : _ = 76) rfl rfl ?_
  refine V_cP Y (rV Y (c_X3_problemOfTapOut l D kA _ m M ES x y hM) mi_X3_problemOfTapOut vi_X3_68 rfl hK.1.1 rfl rfl (Nat.le_of_ble_eq_true rfl) ⟨Nat.le_of_ble_eq_true rfl, Nat.le_of_ble_eq_true rfl⟩ (Nat.le_of_ble_eq_true rfl) (Nat.le_of_ble_eq_true rfl) dX3_problemOf_76) (rfl : _ = 79) ?_
  exact V_ret Y.1 dX3_problemOf_79 rfl (Nat.le_of_ble_eq_true rfl) (Nat.le_of_ble_eq_true rfl) ⟨by simp [m_prob, *], rfl⟩

set_option maxRecDepth 100000 in
set_option maxHeartbeats 4000000 in
theorem c_X3_problemOf_4 (l : Launch) (D : va_G) (kA : Nat → ClassId) (H0 : Heap) (m : Nat) (M : MS) (ES : Nat → Prop) (x y : Int32) (hM : Mc D kA H0 m M ES) : Ct l D kA yX3_problemOf cX3_problemOf 4 (some .int) 3 63 0 0 H0 [.ref m, .int 4, .int x, .int y] (nof) (pI fun v H => v = m_prob M 4 x y ∧ H = H0) := by
  refine Ct.of mi_X3_problemOf (Nat.le_of_ble_eq_true rfl) (ls0 := [(0, _), (1, _), (2, _), (3, _)]) rfl ?_
  intro Pp Ee Ss Mm Ar Bl Me Cc Y hs hnm
  obtain ⟨E, hK⟩ := id hM
  have sz : H0.size = H0.size := rfl
  refine V_iload_n Y.1 1 dX3_problemOf_0 (rfl : _ = 1) rfl rfl ?_
  refine V_tableIn Y.1 (tgt := 80) dX3_problemOf_1 (by decide) (by decide) rfl (by decide) ?_
  refine V_aload_n Y.1 0 dX3_problemOf_80 (rfl : _ = 81) rfl rfl ?_
  refine V_iload_n Y.1 2 dX3_problemOf_81 (rfl : _ = 82) rfl rfl ?_
  refine V_iload_n Y.1 3 dX3_problemOf_82 (rfl : _ = 83) rfl rfl ?_
  refine V_cP Y (rV Y (c_X3_problemOfRepair l D kA _ m M ES x y hM) mi_X3_problemOfRepair vi_X3_71 rfl hK.1.1 rfl rfl (Nat.le_of_ble_eq_true rfl) ⟨Nat.le_of_ble_eq_true rfl, Nat.le_of_ble_eq_true rfl⟩ (Nat.le_of_ble_eq_true rfl) (Nat.le_of_ble_eq_true rfl) dX3_problemOf_83) (rfl : _ = 86) ?_
  exact V_ret Y.1 dX3_problemOf_86 rfl (Nat.le_of_ble_eq_true rfl) (Nat.le_of_ble_eq_true rfl) ⟨by simp [m_prob, *], rfl⟩

set_option maxRecDepth 100000 in
set_option maxHeartbeats 4000000 in
theorem c_X3_problemOf_5 (l : Launch) (D : va_G) (kA : Nat → ClassId) (H0 : Heap) (m : Nat) (M : MS) (ES : Nat → Prop) (x y : Int32) (hM : Mc D kA H0 m M ES) : Ct l D kA yX3_problemOf cX3_problemOf 4 (some .int) 3 63 0 0 H0 [.ref m, .int 5, .int x, .int y] (nof) (pI fun v H => v = m_prob M 5 x y ∧ H = H0) := by
  refine Ct.of mi_X3_problemOf (Nat.le_of_ble_eq_true rfl) (ls0 := [(0, _), (1, _), (2, _), (3, _)]) rfl ?_
  intro Pp Ee Ss Mm Ar Bl Me Cc Y hs hnm
  obtain ⟨E, hK⟩ := id hM
  have sz : H0.size = H0.size := rfl
  refine V_iload_n Y.1 1 dX3_problemOf_0 (rfl : _ = 1) rfl rfl ?_
  refine V_tableIn Y.1 (tgt := 87) dX3_problemOf_1 (by decide) (by decide) rfl (by decide) ?_
  refine V_iload_n Y.1 2 dX3_problemOf_87 (rfl : _ = 88) rfl rfl ?_
  refine V_iload_n Y.1 3 dX3_problemOf_88 (rfl : _ = 89) rfl rfl ?_
  refine V_cP Y (rS Y (c_X3_problemOfZone l D kA _ x y) mi_X3_problemOfZone si_X3_74 rfl rfl (Nat.le_of_ble_eq_true rfl) ⟨Nat.le_of_ble_eq_true rfl, Nat.le_of_ble_eq_true rfl⟩ (Nat.le_of_ble_eq_true rfl) (Nat.le_of_ble_eq_true rfl) dX3_problemOf_89) (rfl : _ = 92) ?_
  exact V_ret Y.1 dX3_problemOf_92 rfl (Nat.le_of_ble_eq_true rfl) (Nat.le_of_ble_eq_true rfl) ⟨by simp [m_prob, *], rfl⟩

set_option maxRecDepth 100000 in
set_option maxHeartbeats 4000000 in
theorem c_X3_problemOf_6 (l : Launch) (D : va_G) (kA : Nat → ClassId) (H0 : Heap) (m : Nat) (M : MS) (ES : Nat → Prop) (x y : Int32) (hM : Mc D kA H0 m M ES) : Ct l D kA yX3_problemOf cX3_problemOf 4 (some .int) 3 63 0 0 H0 [.ref m, .int 6, .int x, .int y] (nof) (pI fun v H => v = m_prob M 6 x y ∧ H = H0) := by
  refine Ct.of mi_X3_problemOf (Nat.le_of_ble_eq_true rfl) (ls0 := [(0, _), (1, _), (2, _), (3, _)]) rfl ?_
  intro Pp Ee Ss Mm Ar Bl Me Cc Y hs hnm
  obtain ⟨E, hK⟩ := id hM
  have sz : H0.size = H0.size := rfl
  refine V_iload_n Y.1 1 dX3_problemOf_0 (rfl : _ = 1) rfl rfl ?_
  refine V_tableIn Y.1 (tgt := 93) dX3_problemOf_1 (by decide) (by decide) rfl (by decide) ?_
  refine V_iload_n Y.1 2 dX3_problemOf_93 (rfl : _ = 94) rfl rfl ?_
  refine V_iload_n Y.1 3 dX3_problemOf_94 (rfl : _ = 95) rfl rfl ?_
  refine V_cP Y (rS Y (c_X3_problemOfFares l D kA _ x y) mi_X3_problemOfFares si_X3_77 rfl rfl (Nat.le_of_ble_eq_true rfl) ⟨Nat.le_of_ble_eq_true rfl, Nat.le_of_ble_eq_true rfl⟩ (Nat.le_of_ble_eq_true rfl) (Nat.le_of_ble_eq_true rfl) dX3_problemOf_95) (rfl : _ = 98) ?_
  exact V_ret Y.1 dX3_problemOf_98 rfl (Nat.le_of_ble_eq_true rfl) (Nat.le_of_ble_eq_true rfl) ⟨by simp [m_prob, *], rfl⟩

set_option maxRecDepth 100000 in
set_option maxHeartbeats 4000000 in
theorem c_X3_problemOf_7 (l : Launch) (D : va_G) (kA : Nat → ClassId) (H0 : Heap) (m : Nat) (M : MS) (ES : Nat → Prop) (x y : Int32) (hM : Mc D kA H0 m M ES) : Ct l D kA yX3_problemOf cX3_problemOf 4 (some .int) 3 63 0 0 H0 [.ref m, .int 7, .int x, .int y] (nof) (pI fun v H => v = m_prob M 7 x y ∧ H = H0) := by
  refine Ct.of mi_X3_problemOf (Nat.le_of_ble_eq_true rfl) (ls0 := [(0, _), (1, _), (2, _), (3, _)]) rfl ?_
  intro Pp Ee Ss Mm Ar Bl Me Cc Y hs hnm
  obtain ⟨E, hK⟩ := id hM
  have sz : H0.size = H0.size := rfl
  refine V_iload_n Y.1 1 dX3_problemOf_0 (rfl : _ = 1) rfl rfl ?_
  refine V_tableOut Y.1 (tgt := 99) dX3_problemOf_1 (by decide) (by decide) ?_
  refine V_iload_n Y.1 2 dX3_problemOf_99 (rfl : _ = 100) rfl rfl ?_
  refine V_iconst Y.1 (v := 1) dX3_problemOf_100 (rfl : _ = 101) (by decide) ?_
  refine V_icmp_lt Y.1 (tgt := 111) dX3_problemOf_101 (by decide) (rfl : _ = 104) (fun c_101 => ?_) (fun c_101 => ?_)
  · refine V_iconst Y.1 (v := 2) dX3_problemOf_111 (rfl : _ = 112) (by decide) ?_
    refine V_goto Y.1 (tgt := 116) dX3_problemOf_112 (by decide) ?_
    exact V_ret Y.1 dX3_problemOf_116 rfl (Nat.le_of_ble_eq_true rfl) (Nat.le_of_ble_eq_true rfl) ⟨by simp [m_prob, *], rfl⟩
  · refine V_iload_n Y.1 2 dX3_problemOf_104 (rfl : _ = 105) rfl rfl ?_
    refine V_sipush Y.1 (v := 2000) dX3_problemOf_105 (rfl : _ = 108) (by decide) ?_
    refine V_icmp_le Y.1 (tgt := 115) dX3_problemOf_108 (by decide) (rfl : _ = 111) (fun c_108 => ?_) (fun c_108 => ?_)
    · refine V_iconst Y.1 (v := 0) dX3_problemOf_115 (rfl : _ = 116) (by decide) ?_
      exact V_ret Y.1 dX3_problemOf_116 rfl (Nat.le_of_ble_eq_true rfl) (Nat.le_of_ble_eq_true rfl) ⟨by simp [m_prob, *], rfl⟩
    · refine V_iconst Y.1 (v := 2) dX3_problemOf_111 (rfl : _ = 112) (by decide) ?_
      refine V_goto Y.1 (tgt := 116) dX3_problemOf_112 (by decide) ?_
      exact V_ret Y.1 dX3_problemOf_116 rfl (Nat.le_of_ble_eq_true rfl) (Nat.le_of_ble_eq_true rfl) ⟨by simp [m_prob, *], rfl⟩

set_option maxRecDepth 100000 in
set_option maxHeartbeats 4000000 in
theorem c_X3_addCard (l : Launch) (D : va_G) (kA : Nat → ClassId) (H0 : Heap) (m : Nat) (M : MS) (ES : Nat → Prop) (i : Nat) (hi : i < 8) (r : Int32) (hM : Mc D kA H0 m M ES) (hn : M.1 0 = nI i) (hr : r = 0 ∨ r = 1) : Ct l D kA yX3_addCard cX3_addCard 3 (some .int) 1 22 0 0 H0 [.ref m, .int r] (blk m 29) (pI fun v H => v = nI i ∧ Mc D kA H m (m_addCard M i r) ES ∧ H.size = H0.size) := by
  refine Ct.of mi_X3_addCard (Nat.le_of_ble_eq_true rfl) (ls0 := [(0, _), (1, _)]) rfl ?_
  intro Pp Ee Ss Mm Ar Bl Me Cc Y hs hnm
  obtain ⟨E, hK⟩ := id hM
  have sz : H0.size = H0.size := rfl
  refine V_aload_n Y.1 0 dX3_addCard_0 (rfl : _ = 1) rfl rfl ?_
  refine V_get Y.1 fi_X3_29 hK.1.1 rfl dX3_addCard_1 (rfl : _ = 4) ?_
  refine V_nm (v := nI i) hn ?_
  refine V_istore_n Y.1 (ls' := [(2, _), (0, _), (1, _)]) dX3_addCard_4 (rfl : _ = 5) rfl (by decide) rfl ?_
  refine V_aload_n Y.1 1 dX3_addCard_5 (rfl : _ = 6) rfl rfl ?_
  refine V_get Y.1 fi_X3_20 hK.1.1 rfl dX3_addCard_6 (rfl : _ = 9) ?_
  refine V_iload_n Y.1 0 dX3_addCard_9 (rfl : _ = 10) rfl rfl ?_
  refine V_aldK Y.1 (v := m_ca m i) hK.1.2.2.1 (by first | assumption | exact vp_in_nI (by omega) (by omega)) (by rw [nI_clamp (by omega)]) dX3_addCard_10 (rfl : _ = 11) ?_
  refine V_iload_n Y.1 2 dX3_addCard_11 (rfl : _ = 12) rfl rfl ?_
  refine V_cV Y (rV Y (c_X0_startAnew l D kA _ _ _ _ r (hK.1.2.2.2 i hi) hr) mi_X0_startAnew vi_X3_127 rfl (hK.1.2.2.2 i hi).1 rfl rfl (Nat.le_of_ble_eq_true rfl) ⟨Nat.le_of_ble_eq_true rfl, Nat.le_of_ble_eq_true rfl⟩ (Nat.le_of_ble_eq_true rfl) (Nat.le_of_ble_eq_true rfl) dX3_addCard_12) (fun q hq => Or.inl (blk_sub (by unfold m_ca; omega) (by unfold m_ca; omega) q hq)) (rfl : _ = 15) (fun H12_9 hq_12 o_12 => ?_)
  obtain ⟨hC, z12⟩ := hq_12
  have hK : Mk D kA _ m (m_anew M i (k_anew (M.2.2.2.1 i) r)) _ _ := hK.anew hi o_12 hC
  have sz : Array.size H12_9 = H0.size := z12.trans sz
  refine V_aload_n Y.1 1 dX3_addCard_15 (rfl : _ = 16) rfl rfl ?_
  refine V_dup Y.1 dX3_addCard_16 (rfl : _ = 17) rfl ?_
  refine V_get Y.1 fi_X3_29 hK.1.1 rfl dX3_addCard_17 (rfl : _ = 20) ?_
  refine V_iconst Y.1 (v := 1) dX3_addCard_20 (rfl : _ = 21) (by decide) ?_
  refine V_iadd Y.1 dX3_addCard_21 (rfl : _ = 22) ?_
  refine V_put Y.1 fi_X3_29 fw_X3 rfl rfl hK.1.1 (Or.inl ⟨by omega, by omega⟩) rfl rfl (Nat.le_of_ble_eq_true rfl) dX3_addCard_22 (rfl : _ = 25) (fun H22_18 h_new o_22 => ?_)
  have hK : Mk D kA _ m (m_g (m_anew M i (k_anew (M.2.2.2.1 i) r)) 0 (M.1 0 + 1)) _ _ := hK.g o_22 _ h_new rfl rfl
  have sz : Array.size H22_18 = H0.size := o_22.1.trans sz
  clear h_new
  refine V_iload_n Y.1 0 dX3_addCard_25 (rfl : _ = 26) rfl rfl ?_
  exact V_ret Y.1 dX3_addCard_26 rfl (Nat.le_of_ble_eq_true rfl) (Nat.le_of_ble_eq_true rfl) ⟨rfl, ⟨_, hK⟩, sz⟩

set_option maxRecDepth 100000 in
set_option maxHeartbeats 4000000 in
theorem c_X3_addMoney (l : Launch) (D : va_G) (kA : Nat → ClassId) (H0 : Heap) (m : Nat) (M : MS) (ES : Nat → Prop) (i : Nat) (hi : i < 8) (x : Int32) (hM : Mc D kA H0 m M ES)  : Ct l D kA yX3_addMoney cX3_addMoney 3 (some .int) 0 0 0 0 H0 [.ref m, .int (nI i), .int x] (blk m 29) (pI fun v H => v = (M.2.2.2.1 i).1 1 + x ∧ Mc D kA H m (m_load M i x) ES ∧ H.size = H0.size) := by
  refine Ct.of mi_X3_addMoney (Nat.le_of_ble_eq_true rfl) (ls0 := [(0, _), (1, _), (2, _)]) rfl ?_
  intro Pp Ee Ss Mm Ar Bl Me Cc Y hs hnm
  obtain ⟨E, hK⟩ := id hM
  have sz : H0.size = H0.size := rfl
  refine V_aload_n Y.1 0 dX3_addMoney_0 (rfl : _ = 1) rfl rfl ?_
  refine V_get Y.1 fi_X3_20 hK.1.1 rfl dX3_addMoney_1 (rfl : _ = 4) ?_
  refine V_iload_n Y.1 1 dX3_addMoney_4 (rfl : _ = 5) rfl rfl ?_
  refine V_aldK Y.1 (v := m_ca m i) hK.1.2.2.1 (by first | assumption | exact vp_in_nI (by omega) (by omega)) (by rw [nI_clamp (by omega)]) dX3_addMoney_5 (rfl : _ = 6) ?_
  refine V_dup Y.1 dX3_addMoney_6 (rfl : _ = 7) rfl ?_
  refine V_get Y.1 fi_X3_84 (hK.1.2.2.2 i hi).1 rfl dX3_addMoney_7 (rfl : _ = 10) ?_
  refine V_iload_n Y.1 2 dX3_addMoney_10 (rfl : _ = 11) rfl rfl ?_
  refine V_iadd Y.1 dX3_addMoney_11 (rfl : _ = 12) ?_
  refine V_put Y.1 fi_X3_84 fw_X0 rfl rfl (hK.1.2.2.2 i hi).1 (Or.inl ⟨by unfold m_ca; omega, by unfold m_ca; omega⟩) rfl rfl (Nat.le_of_ble_eq_true rfl) dX3_addMoney_12 (rfl : _ = 15) (fun H12_8 h_new o_12 => ?_)
  have hK : Mk D kA _ m (m_card M i (upd (M.2.2.2.1 i).1 1 ((M.2.2.2.1 i).1 1 + x), (M.2.2.2.1 i).2)) _ _ := hK.card hi (o_12.off ⟨by omega, by omega⟩) ⟨h_new, (hK.1.2.2.2 i hi).2.1.sto o_12 (by omega), (hK.1.2.2.2 i hi).2.2.sto o_12 (by omega)⟩
  have sz : Array.size H12_8 = H0.size := o_12.1.trans sz
  clear h_new
  refine V_aload_n Y.1 0 dX3_addMoney_15 (rfl : _ = 16) rfl rfl ?_
  refine V_dup Y.1 dX3_addMoney_16 (rfl : _ = 17) rfl ?_
  refine V_get Y.1 fi_X3_39 hK.1.1 rfl dX3_addMoney_17 (rfl : _ = 20) ?_
  refine V_iload_n Y.1 2 dX3_addMoney_20 (rfl : _ = 21) rfl rfl ?_
  refine V_iadd Y.1 dX3_addMoney_21 (rfl : _ = 22) ?_
  refine V_put Y.1 fi_X3_39 fw_X3 rfl rfl hK.1.1 (Or.inl ⟨by omega, by omega⟩) rfl rfl (Nat.le_of_ble_eq_true rfl) dX3_addMoney_22 (rfl : _ = 25) (fun H22_17 h_new o_22 => ?_)
  have hK : Mk D kA _ m (m_g (m_card M i (upd (M.2.2.2.1 i).1 1 ((M.2.2.2.1 i).1 1 + x), (M.2.2.2.1 i).2)) 2 (M.1 2 + x)) _ _ := hK.g o_22 _ h_new rfl rfl
  have sz : Array.size H22_17 = H0.size := o_22.1.trans sz
  clear h_new
  refine V_aload_n Y.1 0 dX3_addMoney_25 (rfl : _ = 26) rfl rfl ?_
  refine V_get Y.1 fi_X3_20 hK.1.1 rfl dX3_addMoney_26 (rfl : _ = 29) ?_
  refine V_iload_n Y.1 1 dX3_addMoney_29 (rfl : _ = 30) rfl rfl ?_
  refine V_aldK Y.1 (v := m_ca m i) hK.1.2.2.1 (by first | assumption | exact vp_in_nI (by omega) (by omega)) (by rw [nI_clamp (by omega)]) dX3_addMoney_30 (rfl : _ = 31) ?_
  refine V_get Y.1 fi_X3_84 (hK.1.2.2.2 i hi).1 rfl dX3_addMoney_31 (rfl : _ = 34) ?_
  exact V_ret Y.1 dX3_addMoney_34 rfl (Nat.le_of_ble_eq_true rfl) (Nat.le_of_ble_eq_true rfl) ⟨by simp [m_g, m_card, va_up, upd], ⟨_, hK⟩, sz⟩

set_option maxRecDepth 100000 in
set_option maxHeartbeats 4000000 in
theorem c_X3_makeIncomplete (l : Launch) (D : va_G) (kA : Nat → ClassId) (H0 : Heap) (m : Nat) (M : MS) (ES : Nat → Prop) (i : Nat) (hi : i < 8) (d : Nat) (hd : d < 2 ^ 31) (hM : Mc D kA H0 m M ES) : Ct l D kA yX3_makeIncomplete cX3_makeIncomplete 4 none 3 70 1 3 H0 [.ref m, .ref (m_ca m i), .int (nI d)] (blk m 29) (pV fun H => Mc D kA H m (m_inc M i d) (gro ES H0 H) ∧ H.size = H0.size + 1) := by
  refine Ct.of mi_X3_makeIncomplete (Nat.le_of_ble_eq_true rfl) (ls0 := [(0, _), (1, _), (2, _)]) rfl ?_
  intro Pp Ee Ss Mm Ar Bl Me Cc Y hs hnm
  obtain ⟨E, hK⟩ := id hM
  have sz : H0.size = H0.size := rfl
  refine V_aload_n Y.1 1 dX3_makeIncomplete_0 (rfl : _ = 1) rfl rfl ?_
  refine V_aload_n Y.1 0 dX3_makeIncomplete_1 (rfl : _ = 2) rfl rfl ?_
  refine V_get Y.1 fi_X3_12 hK.1.1 rfl dX3_makeIncomplete_2 (rfl : _ = 5) ?_
  refine V_cP Y (rV Y (c_X2_fullDefault l D kA _ _ _ _ _ _ hK.1.2.1) mi_X2_fullDefault vi_X3_154 rfl hK.1.2.1.1 rfl rfl (Nat.le_of_ble_eq_true rfl) ⟨Nat.le_of_ble_eq_true rfl, Nat.le_of_ble_eq_true rfl⟩ (Nat.le_of_ble_eq_true rfl) (Nat.le_of_ble_eq_true rfl) dX3_makeIncomplete_5) (rfl : _ = 8) ?_
  refine V_cP Y (rV Y (c_X0_ownPrice l D kA _ _ _ _ _ (hK.1.2.2.2 i hi)) mi_X0_ownPrice vi_X3_157 rfl (hK.1.2.2.2 i hi).1 rfl rfl (Nat.le_of_ble_eq_true rfl) ⟨Nat.le_of_ble_eq_true rfl, Nat.le_of_ble_eq_true rfl⟩ (Nat.le_of_ble_eq_true rfl) (Nat.le_of_ble_eq_true rfl) dX3_makeIncomplete_8) (rfl : _ = 11) ?_
  refine V_aload_n Y.1 1 dX3_makeIncomplete_11 (rfl : _ = 12) rfl rfl ?_
  refine V_iload_n Y.1 2 dX3_makeIncomplete_12 (rfl : _ = 13) rfl rfl ?_
  refine V_cP Y (rV Y (c_X0_leftOn l D kA _ _ _ _ d hd (hK.1.2.2.2 i hi)) mi_X0_leftOn vi_X3_160 rfl (hK.1.2.2.2 i hi).1 rfl rfl (Nat.le_of_ble_eq_true rfl) ⟨Nat.le_of_ble_eq_true rfl, Nat.le_of_ble_eq_true rfl⟩ (Nat.le_of_ble_eq_true rfl) (Nat.le_of_ble_eq_true rfl) dX3_makeIncomplete_13) (rfl : _ = 16) ?_
  refine V_mmin Y.1 mw_X3_163 (Nat.le_of_ble_eq_true rfl) (Nat.le_of_ble_eq_true rfl) (Nat.le_of_ble_eq_true rfl) (Nat.le_of_ble_eq_true rfl) dX3_makeIncomplete_16 (rfl : _ = 19) ?_
  refine V_nm (v := m_incX M i d) rfl ?_
  refine V_istore_n Y.1 (ls' := [(3, _), (0, _), (1, _), (2, _)]) dX3_makeIncomplete_19 (rfl : _ = 20) rfl (by decide) rfl ?_
  refine V_aload_n Y.1 2 dX3_makeIncomplete_20 (rfl : _ = 21) rfl rfl ?_
  refine V_iload_n Y.1 3 dX3_makeIncomplete_21 (rfl : _ = 22) rfl rfl ?_
  refine V_iload_n Y.1 0 dX3_makeIncomplete_22 (rfl : _ = 23) rfl rfl ?_
  refine V_cV Y (rV Y (c_X0_enter l D kA _ _ _ _ _ d hd (hK.1.2.2.2 i hi)) mi_X0_enter vi_X3_146 rfl (hK.1.2.2.2 i hi).1 rfl rfl (Nat.le_of_ble_eq_true rfl) ⟨Nat.le_of_ble_eq_true rfl, Nat.le_of_ble_eq_true rfl⟩ (Nat.le_of_ble_eq_true rfl) (Nat.le_of_ble_eq_true rfl) dX3_makeIncomplete_23) (fun q hq => Or.inl (blk_sub (by unfold m_ca; omega) (by unfold m_ca; omega) q hq)) (rfl : _ = 26) (fun H23_14 hq_23 o_23 => ?_)
  obtain ⟨z23, hC, he⟩ := hq_23
  have sz : Array.size H23_14 = H0.size + 1 := z23
  refine V_aload_n Y.1 2 dX3_makeIncomplete_26 (rfl : _ = 27) rfl rfl ?_
  refine V_iload_n Y.1 3 dX3_makeIncomplete_27 (rfl : _ = 28) rfl rfl ?_
  refine V_iload_n Y.1 0 dX3_makeIncomplete_28 (rfl : _ = 29) rfl rfl ?_
  refine V_cV Y (rV Y (c_X0_breakTrip l D kA _ _ _ _ _ _ hC) mi_X0_breakTrip vi_X3_168 rfl hC.1 rfl rfl (Nat.le_of_ble_eq_true rfl) ⟨Nat.le_of_ble_eq_true rfl, Nat.le_of_ble_eq_true rfl⟩ (Nat.le_of_ble_eq_true rfl) (Nat.le_of_ble_eq_true rfl) dX3_makeIncomplete_29) (fun q hq => Or.inl (blk_sub (by unfold m_ca; omega) (by unfold m_ca; omega) q hq)) (rfl : _ = 32) (fun H29_20 hq_29 o_29 => ?_)
  obtain ⟨hC, z29⟩ := hq_29
  have hK : Mk D kA _ m (m_book (m_card M i (k_break (k_enter (M.2.2.2.1 i) d (m_incX M i d)) (nI d) (m_incX M i d))) i (nI d, m_incX M i d)) _ _ := hK.book hi (o_23.tr o_29) (by rw [z29, z23]) hC (he.off o_29 (fun z => by have := z.2; have := hK.1.1.lt; have := (hK.1.2.2.2 7 (by omega)).2.2.lt; unfold m_ca at *; omega))
  have sz : Array.size H29_20 = H0.size + 1 := z29.trans sz
  refine V_aload_n Y.1 1 dX3_makeIncomplete_32 (rfl : _ = 33) rfl rfl ?_
  refine V_dup Y.1 dX3_makeIncomplete_33 (rfl : _ = 34) rfl ?_
  refine V_get Y.1 fi_X3_42 hK.1.1 rfl dX3_makeIncomplete_34 (rfl : _ = 37) ?_
  refine V_iload_n Y.1 0 dX3_makeIncomplete_37 (rfl : _ = 38) rfl rfl ?_
  refine V_iadd Y.1 dX3_makeIncomplete_38 (rfl : _ = 39) ?_
  refine V_put Y.1 fi_X3_42 fw_X3 rfl rfl hK.1.1 (Or.inl ⟨by omega, by omega⟩) rfl rfl (Nat.le_of_ble_eq_true rfl) dX3_makeIncomplete_39 (rfl : _ = 42) (fun H39_29 h_new o_39 => ?_)
  have hK : Mk D kA _ m (m_g (m_book (m_card M i (k_break (k_enter (M.2.2.2.1 i) d (m_incX M i d)) (nI d) (m_incX M i d))) i (nI d, m_incX M i d)) 3 (M.1 3 + m_incX M i d)) _ _ := hK.g o_39 _ h_new rfl rfl
  have sz : Array.size H39_29 = H0.size + 1 := o_39.1.trans sz
  clear h_new
  refine V_aload_n Y.1 1 dX3_makeIncomplete_42 (rfl : _ = 43) rfl rfl ?_
  refine V_dup Y.1 dX3_makeIncomplete_43 (rfl : _ = 44) rfl ?_
  refine V_get Y.1 fi_X3_51 hK.1.1 rfl dX3_makeIncomplete_44 (rfl : _ = 47) ?_
  refine V_iconst Y.1 (v := 1) dX3_makeIncomplete_47 (rfl : _ = 48) (by decide) ?_
  refine V_iadd Y.1 dX3_makeIncomplete_48 (rfl : _ = 49) ?_
  refine V_put Y.1 fi_X3_51 fw_X3 rfl rfl hK.1.1 (Or.inl ⟨by omega, by omega⟩) rfl rfl (Nat.le_of_ble_eq_true rfl) dX3_makeIncomplete_49 (rfl : _ = 52) (fun H49_38 h_new o_49 => ?_)
  have hK : Mk D kA _ m (m_g (m_g (m_book (m_card M i (k_break (k_enter (M.2.2.2.1 i) d (m_incX M i d)) (nI d) (m_incX M i d))) i (nI d, m_incX M i d)) 3 (M.1 3 + m_incX M i d)) 6 (M.1 6 + 1)) _ _ := hK.g o_49 _ h_new rfl rfl
  have sz : Array.size H49_38 = H0.size + 1 := o_49.1.trans sz
  clear h_new
  exact V_retV Y.1 dX3_makeIncomplete_52 (Nat.le_of_ble_eq_true rfl) (Nat.le_of_ble_eq_true rfl) ⟨⟨_, hK.mono (fun q hq => hq.elim Or.inl (fun z => Or.inr ⟨z.1, by have := z.2; rw [sz]; rw [z29, z23] at this; exact this⟩)) (fun q hq e => (hq.elim (fun z => hK.2.2 q (Or.inl z) e) (fun z => hK.2.2 q (Or.inr ⟨z.1, by have := z.2; rw [z29, z23]; rw [sz] at this; exact this⟩) e)))⟩, sz⟩

set_option maxRecDepth 100000 in
set_option maxHeartbeats 4000000 in
theorem c_X3_changeZone (l : Launch) (D : va_G) (kA : Nat → ClassId) (H0 : Heap) (m : Nat) (M : MS) (ES : Nat → Prop) (w : Nat) (hw : w < 12) (x : Int32) (hM : Mc D kA H0 m M ES)  : Ct l D kA yX3_changeZone cX3_changeZone 4 (some .int) 0 0 0 0 H0 [.ref m, .int (nI w), .int x] (blk m 29) (pI fun v H => v = M.2.1 w ∧ Mc D kA H m (m_zone M w x) ES ∧ H.size = H0.size) := by
  refine Ct.of mi_X3_changeZone (Nat.le_of_ble_eq_true rfl) (ls0 := [(0, _), (1, _), (2, _)]) rfl ?_
  intro Pp Ee Ss Mm Ar Bl Me Cc Y hs hnm
  obtain ⟨E, hK⟩ := id hM
  have sz : H0.size = H0.size := rfl
  refine V_aload_n Y.1 0 dX3_changeZone_0 (rfl : _ = 1) rfl rfl ?_
  refine V_get Y.1 fi_X3_12 hK.1.1 rfl dX3_changeZone_1 (rfl : _ = 4) ?_
  refine V_get Y.1 fi_X3_183 hK.1.2.1.1 rfl dX3_changeZone_4 (rfl : _ = 7) ?_
  refine V_iload_n Y.1 1 dX3_changeZone_7 (rfl : _ = 8) rfl rfl ?_
  refine V_iald Y.1 (v := M.2.1 w) hK.1.2.1.2.1 (by first | assumption | exact vp_in_nI (by omega) (by omega)) (by rw [nI_clamp (by omega)]) dX3_changeZone_8 (rfl : _ = 9) ?_
  refine V_istore_n Y.1 (ls' := [(3, _), (0, _), (1, _), (2, _)]) dX3_changeZone_9 (rfl : _ = 10) rfl (by decide) rfl ?_
  refine V_aload_n Y.1 1 dX3_changeZone_10 (rfl : _ = 11) rfl rfl ?_
  refine V_get Y.1 fi_X3_12 hK.1.1 rfl dX3_changeZone_11 (rfl : _ = 14) ?_
  refine V_get Y.1 fi_X3_183 hK.1.2.1.1 rfl dX3_changeZone_14 (rfl : _ = 17) ?_
  refine V_iload_n Y.1 2 dX3_changeZone_17 (rfl : _ = 18) rfl rfl ?_
  refine V_iload_n Y.1 3 dX3_changeZone_18 (rfl : _ = 19) rfl rfl ?_
  refine V_iast Y.1 hK.1.2.1.2.1 (Or.inl ⟨by omega, by omega⟩) (by first | assumption | exact vp_in_nI (by omega) (by omega)) dX3_changeZone_19 (rfl : _ = 20) (fun H19_11 h_new o_19 => ?_)
  rw [nI_clamp (by omega)] at h_new
  have hK : Mk D kA _ m (m_zone M w x) _ _ := hK.line (o_19.off ⟨by omega, by omega⟩) _ _ _ ⟨hK.1.2.1.1.sto o_19 (by omega), h_new, hK.1.2.1.2.2.sto o_19 (by omega)⟩ (fun _ _ => rfl)
  have sz : Array.size H19_11 = H0.size := o_19.1.trans sz
  clear h_new
  refine V_iload_n Y.1 0 dX3_changeZone_20 (rfl : _ = 21) rfl rfl ?_
  exact V_ret Y.1 dX3_changeZone_21 rfl (Nat.le_of_ble_eq_true rfl) (Nat.le_of_ble_eq_true rfl) ⟨rfl, ⟨_, hK⟩, sz⟩

set_option maxRecDepth 100000 in
set_option maxHeartbeats 4000000 in
theorem c_X3_changeFares (l : Launch) (D : va_G) (kA : Nat → ClassId) (H0 : Heap) (m : Nat) (M : MS) (ES : Nat → Prop) (x y : Int32) (hM : Mc D kA H0 m M ES)  : Ct l D kA yX3_changeFares cX3_changeFares 4 (some .int) 0 0 0 0 H0 [.ref m, .int x, .int y] (blk m 29) (pI fun v H => v = M.1 7 ∧ Mc D kA H m (m_fares M x y) ES ∧ H.size = H0.size) := by
  refine Ct.of mi_X3_changeFares (Nat.le_of_ble_eq_true rfl) (ls0 := [(0, _), (1, _), (2, _)]) rfl ?_
  intro Pp Ee Ss Mm Ar Bl Me Cc Y hs hnm
  obtain ⟨E, hK⟩ := id hM
  have sz : H0.size = H0.size := rfl
  refine V_aload_n Y.1 0 dX3_changeFares_0 (rfl : _ = 1) rfl rfl ?_
  refine V_get Y.1 fi_X3_12 hK.1.1 rfl dX3_changeFares_1 (rfl : _ = 4) ?_
  refine V_get Y.1 fi_X3_186 hK.1.2.1.1 rfl dX3_changeFares_4 (rfl : _ = 7) ?_
  refine V_istore_n Y.1 (ls' := [(3, _), (0, _), (1, _), (2, _)]) dX3_changeFares_7 (rfl : _ = 8) rfl (by decide) rfl ?_
  refine V_aload_n Y.1 1 dX3_changeFares_8 (rfl : _ = 9) rfl rfl ?_
  refine V_get Y.1 fi_X3_12 hK.1.1 rfl dX3_changeFares_9 (rfl : _ = 12) ?_
  refine V_iload_n Y.1 2 dX3_changeFares_12 (rfl : _ = 13) rfl rfl ?_
  refine V_put Y.1 fi_X3_186 fw_X2 rfl rfl hK.1.2.1.1 (Or.inl ⟨by omega, by omega⟩) rfl rfl (Nat.le_of_ble_eq_true rfl) dX3_changeFares_13 (rfl : _ = 16) (fun H13_7 h_new o_13 => ?_)
  have hK : Mk D kA _ m (upd M.1 7 x, M.2) _ _ := hK.line (o_13.off ⟨by omega, by omega⟩) _ _ _ ⟨h_new, hK.1.2.1.2.1.sto o_13 (by omega), hK.1.2.1.2.2.sto o_13 (by omega)⟩ (fun q hq => by rw [show upd M.1 7 x q = M.1 q from if_neg (by omega)])
  have sz : Array.size H13_7 = H0.size := o_13.1.trans sz
  clear h_new
  refine V_aload_n Y.1 1 dX3_changeFares_16 (rfl : _ = 17) rfl rfl ?_
  refine V_get Y.1 fi_X3_12 hK.1.1 rfl dX3_changeFares_17 (rfl : _ = 20) ?_
  refine V_iload_n Y.1 3 dX3_changeFares_20 (rfl : _ = 21) rfl rfl ?_
  refine V_put Y.1 fi_X3_189 fw_X2 rfl rfl hK.1.2.1.1 (Or.inl ⟨by omega, by omega⟩) rfl rfl (Nat.le_of_ble_eq_true rfl) dX3_changeFares_21 (rfl : _ = 24) (fun H21_14 h_new o_21 => ?_)
  have hK : Mk D kA _ m (upd (upd M.1 7 x) 8 y, (upd M.1 7 x, M.2).2) _ _ := hK.line (o_21.off ⟨by omega, by omega⟩) _ _ _ ⟨h_new, hK.1.2.1.2.1.sto o_21 (by omega), hK.1.2.1.2.2.sto o_21 (by omega)⟩ (fun q hq => by rw [show upd (upd M.1 7 x) 8 y q = upd M.1 7 x q from if_neg (by omega)])
  have sz : Array.size H21_14 = H0.size := o_21.1.trans sz
  clear h_new
  refine V_iload_n Y.1 0 dX3_changeFares_24 (rfl : _ = 25) rfl rfl ?_
  exact V_ret Y.1 dX3_changeFares_25 rfl (Nat.le_of_ble_eq_true rfl) (Nat.le_of_ble_eq_true rfl) ⟨rfl, ⟨_, hK⟩, sz⟩
