set_option maxRecDepth 100000 in
set_option maxHeartbeats 4000000 in
theorem c_X3_spentBefore (l : Launch) (D : va_G) (kA : Nat → ClassId) (H0 : Heap) (m : Nat) (M : MS) (ES : Nat → Prop) (i j : Nat) (hi : i < 8) (hj : j < 8) (d : Nat) (hd : M.1 1 / 1440 = nI d) (hd2 : d < 2 ^ 31) (hM : Mc D kA H0 m M ES) : Ct l D kA yX3_spentBefore cX3_spentBefore 5 (some .boolean) 2 44 0 0 H0 [.ref m, .int (nI i), .int (nI j)] (nof) (pI fun v H => v = m_ah M d i j ∧ H = H0) := by
  refine Ct.of mi_X3_spentBefore (Nat.le_of_ble_eq_true rfl) (ls0 := [(0, _), (1, _), (2, _)]) rfl ?_
  intro Pp Ee Ss Mm Ar Bl Me Cc Y hs hnm
  obtain ⟨E, hK⟩ := id hM
  have sz : H0.size = H0.size := rfl
  refine V_aload_n Y.1 0 dX3_spentBefore_0 (rfl : _ = 1) rfl rfl ?_
  refine V_get Y.1 fi_X3_20 hK.1.1 rfl dX3_spentBefore_1 (rfl : _ = 4) ?_
  refine V_iload_n Y.1 1 dX3_spentBefore_4 (rfl : _ = 5) rfl rfl ?_
  refine V_aldK Y.1 (v := m_ca m i) hK.1.2.2.1 (by first | assumption | exact vp_in_nI (by omega) (by omega)) (by rw [nI_clamp (by omega)]) dX3_spentBefore_5 (rfl : _ = 6) ?_
  refine V_aload_n Y.1 0 dX3_spentBefore_6 (rfl : _ = 7) rfl rfl ?_
  refine V_cP Y (rV Y (c_X3_presentDay l D kA _ m M ES hM) mi_X3_presentDay vi_X3_54 rfl hK.1.1 rfl rfl (Nat.le_of_ble_eq_true rfl) ⟨Nat.le_of_ble_eq_true rfl, Nat.le_of_ble_eq_true rfl⟩ (Nat.le_of_ble_eq_true rfl) (Nat.le_of_ble_eq_true rfl) dX3_spentBefore_7) (rfl : _ = 10) ?_
  refine V_nm (v := nI d) hd ?_
  refine V_cP Y (rV Y (c_X0_sumOf l D kA _ _ _ _ d hd2 (hK.1.2.2.2 i hi)) mi_X0_sumOf vi_X3_198 rfl (hK.1.2.2.2 i hi).1 rfl rfl (Nat.le_of_ble_eq_true rfl) ⟨Nat.le_of_ble_eq_true rfl, Nat.le_of_ble_eq_true rfl⟩ (Nat.le_of_ble_eq_true rfl) (Nat.le_of_ble_eq_true rfl) dX3_spentBefore_10) (rfl : _ = 13) ?_
  refine V_istore_n Y.1 (ls' := [(3, _), (0, _), (1, _), (2, _)]) dX3_spentBefore_13 (rfl : _ = 14) rfl (by decide) rfl ?_
  refine V_aload_n Y.1 1 dX3_spentBefore_14 (rfl : _ = 15) rfl rfl ?_
  refine V_get Y.1 fi_X3_20 hK.1.1 rfl dX3_spentBefore_15 (rfl : _ = 18) ?_
  refine V_iload_n Y.1 3 dX3_spentBefore_18 (rfl : _ = 19) rfl rfl ?_
  refine V_aldK Y.1 (v := m_ca m j) hK.1.2.2.1 (by first | assumption | exact vp_in_nI (by omega) (by omega)) (by rw [nI_clamp (by omega)]) dX3_spentBefore_19 (rfl : _ = 20) ?_
  refine V_aload_n Y.1 1 dX3_spentBefore_20 (rfl : _ = 21) rfl rfl ?_
  refine V_cP Y (rV Y (c_X3_presentDay l D kA _ m M ES hM) mi_X3_presentDay vi_X3_54 rfl hK.1.1 rfl rfl (Nat.le_of_ble_eq_true rfl) ⟨Nat.le_of_ble_eq_true rfl, Nat.le_of_ble_eq_true rfl⟩ (Nat.le_of_ble_eq_true rfl) (Nat.le_of_ble_eq_true rfl) dX3_spentBefore_21) (rfl : _ = 24) ?_
  refine V_nm (v := nI d) hd ?_
  refine V_cP Y (rV Y (c_X0_sumOf l D kA _ _ _ _ d hd2 (hK.1.2.2.2 j hj)) mi_X0_sumOf vi_X3_198 rfl (hK.1.2.2.2 j hj).1 rfl rfl (Nat.le_of_ble_eq_true rfl) ⟨Nat.le_of_ble_eq_true rfl, Nat.le_of_ble_eq_true rfl⟩ (Nat.le_of_ble_eq_true rfl) (Nat.le_of_ble_eq_true rfl) dX3_spentBefore_24) (rfl : _ = 27) ?_
  refine V_istore Y.1 (ls' := [(4, _), (3, _), (0, _), (1, _), (2, _)]) dX3_spentBefore_27 (rfl : _ = 29) (by decide) rfl ?_
  refine V_iload_n Y.1 1 dX3_spentBefore_29 (rfl : _ = 30) rfl rfl ?_
  refine V_iload Y.1 0 dX3_spentBefore_30 (rfl : _ = 32) rfl ?_
  refine V_icmp_eq Y.1 (tgt := 47) dX3_spentBefore_32 (by decide) (rfl : _ = 35) (fun c_32 => ?_) (fun c_32 => ?_)
  · refine V_aload_n Y.1 2 dX3_spentBefore_47 (rfl : _ = 48) rfl rfl ?_
    refine V_get Y.1 fi_X3_20 hK.1.1 rfl dX3_spentBefore_48 (rfl : _ = 51) ?_
    refine V_iload_n Y.1 3 dX3_spentBefore_51 (rfl : _ = 52) rfl rfl ?_
    refine V_aldK Y.1 (v := m_ca m i) hK.1.2.2.1 (by first | assumption | exact vp_in_nI (by omega) (by omega)) (by rw [nI_clamp (by omega)]) dX3_spentBefore_52 (rfl : _ = 53) ?_
    refine V_get Y.1 fi_X3_84 (hK.1.2.2.2 i hi).1 rfl dX3_spentBefore_53 (rfl : _ = 56) ?_
    refine V_aload_n Y.1 2 dX3_spentBefore_56 (rfl : _ = 57) rfl rfl ?_
    refine V_get Y.1 fi_X3_20 hK.1.1 rfl dX3_spentBefore_57 (rfl : _ = 60) ?_
    refine V_iload_n Y.1 4 dX3_spentBefore_60 (rfl : _ = 61) rfl rfl ?_
    refine V_aldK Y.1 (v := m_ca m j) hK.1.2.2.1 (by first | assumption | exact vp_in_nI (by omega) (by omega)) (by rw [nI_clamp (by omega)]) dX3_spentBefore_61 (rfl : _ = 62) ?_
    refine V_get Y.1 fi_X3_84 (hK.1.2.2.2 j hj).1 rfl dX3_spentBefore_62 (rfl : _ = 65) ?_
    refine V_icmp_eq Y.1 (tgt := 95) dX3_spentBefore_65 (by decide) (rfl : _ = 68) (fun c_65 => ?_) (fun c_65 => ?_)
    · refine V_iload_n Y.1 3 dX3_spentBefore_95 (rfl : _ = 96) rfl rfl ?_
      refine V_iload_n Y.1 4 dX3_spentBefore_96 (rfl : _ = 97) rfl rfl ?_
      refine V_icmp_ge Y.1 (tgt := 104) dX3_spentBefore_97 (by decide) (rfl : _ = 100) (fun c_97 => ?_) (fun c_97 => ?_)
      · have c_97 : ¬ i < j := Nat.not_lt.mpr ((nI_leI (by omega) (by omega)).mp c_97)
        refine V_iconst Y.1 (v := 0) dX3_spentBefore_104 (rfl : _ = 105) (by decide) ?_
        exact V_ret Y.1 dX3_spentBefore_105 rfl (Nat.le_of_ble_eq_true rfl) (Nat.le_of_ble_eq_true rfl) ⟨by simp [m_ah, *], rfl⟩
      · have c_97 : i < j := Nat.not_le.mp fun z => c_97 ((nI_leI (by omega) (by omega)).mpr z)
        refine V_iconst Y.1 (v := 1) dX3_spentBefore_100 (rfl : _ = 101) (by decide) ?_
        refine V_goto Y.1 (tgt := 105) dX3_spentBefore_101 (by decide) ?_
        exact V_ret Y.1 dX3_spentBefore_105 rfl (Nat.le_of_ble_eq_true rfl) (Nat.le_of_ble_eq_true rfl) ⟨by simp [m_ah, *], rfl⟩
    · refine V_aload_n Y.1 2 dX3_spentBefore_68 (rfl : _ = 69) rfl rfl ?_
      refine V_get Y.1 fi_X3_20 hK.1.1 rfl dX3_spentBefore_69 (rfl : _ = 72) ?_
      refine V_iload_n Y.1 3 dX3_spentBefore_72 (rfl : _ = 73) rfl rfl ?_
      refine V_aldK Y.1 (v := m_ca m i) hK.1.2.2.1 (by first | assumption | exact vp_in_nI (by omega) (by omega)) (by rw [nI_clamp (by omega)]) dX3_spentBefore_73 (rfl : _ = 74) ?_
      refine V_get Y.1 fi_X3_84 (hK.1.2.2.2 i hi).1 rfl dX3_spentBefore_74 (rfl : _ = 77) ?_
      refine V_aload_n Y.1 2 dX3_spentBefore_77 (rfl : _ = 78) rfl rfl ?_
      refine V_get Y.1 fi_X3_20 hK.1.1 rfl dX3_spentBefore_78 (rfl : _ = 81) ?_
      refine V_iload_n Y.1 4 dX3_spentBefore_81 (rfl : _ = 82) rfl rfl ?_
      refine V_aldK Y.1 (v := m_ca m j) hK.1.2.2.1 (by first | assumption | exact vp_in_nI (by omega) (by omega)) (by rw [nI_clamp (by omega)]) dX3_spentBefore_82 (rfl : _ = 83) ?_
      refine V_get Y.1 fi_X3_84 (hK.1.2.2.2 j hj).1 rfl dX3_spentBefore_83 (rfl : _ = 86) ?_
      refine V_icmp_ge Y.1 (tgt := 93) dX3_spentBefore_86 (by decide) (rfl : _ = 89) (fun c_86 => ?_) (fun c_86 => ?_)
      · refine V_iconst Y.1 (v := 0) dX3_spentBefore_93 (rfl : _ = 94) (by decide) ?_
        exact V_ret Y.1 dX3_spentBefore_94 rfl (Nat.le_of_ble_eq_true rfl) (Nat.le_of_ble_eq_true rfl) ⟨by simp [m_ah, *], rfl⟩
      · refine V_iconst Y.1 (v := 1) dX3_spentBefore_89 (rfl : _ = 90) (by decide) ?_
        refine V_goto Y.1 (tgt := 94) dX3_spentBefore_90 (by decide) ?_
        exact V_ret Y.1 dX3_spentBefore_94 rfl (Nat.le_of_ble_eq_true rfl) (Nat.le_of_ble_eq_true rfl) ⟨by simp [m_ah, *], rfl⟩
  · refine V_iload_n Y.1 1 dX3_spentBefore_35 (rfl : _ = 36) rfl rfl ?_
    refine V_iload Y.1 0 dX3_spentBefore_36 (rfl : _ = 38) rfl ?_
    refine V_icmp_le Y.1 (tgt := 45) dX3_spentBefore_38 (by decide) (rfl : _ = 41) (fun c_38 => ?_) (fun c_38 => ?_)
    · refine V_iconst Y.1 (v := 0) dX3_spentBefore_45 (rfl : _ = 46) (by decide) ?_
      exact V_ret Y.1 dX3_spentBefore_46 rfl (Nat.le_of_ble_eq_true rfl) (Nat.le_of_ble_eq_true rfl) ⟨by simp [m_ah, *], rfl⟩
    · refine V_iconst Y.1 (v := 1) dX3_spentBefore_41 (rfl : _ = 42) (by decide) ?_
      refine V_goto Y.1 (tgt := 46) dX3_spentBefore_42 (by decide) ?_
      exact V_ret Y.1 dX3_spentBefore_46 rfl (Nat.le_of_ble_eq_true rfl) (Nat.le_of_ble_eq_true rfl) ⟨by simp [m_ah, *], rfl⟩

set_option maxRecDepth 100000 in
set_option maxHeartbeats 4000000 in
theorem c_X3_rankBySpending (l : Launch) (D : va_G) (kA : Nat → ClassId) (H0 : Heap) (m : Nat) (M : MS) (ES : Nat → Prop) (i : Nat) (hi : i < 8) (d : Nat) (hd : M.1 1 / 1440 = nI d) (hd2 : d < 2 ^ 31) (n : Nat) (hn : M.1 0 = nI n) (hn8 : n ≤ 8) (hM : Mc D kA H0 m M ES) : Ct l D kA yX3_rankBySpending cX3_rankBySpending 4 (some .int) 3 68 0 0 H0 [.ref m, .int (nI i)] (nof) (pI fun v H => v = nI (m_rk M d i n) ∧ H = H0) := by
  refine Ct.of mi_X3_rankBySpending (Nat.le_of_ble_eq_true rfl) (ls0 := [(0, _), (1, _)]) rfl ?_
  intro Pp Ee Ss Mm Ar Bl Me Cc Y hs hnm
  obtain ⟨E, hK⟩ := id hM
  have sz : H0.size = H0.size := rfl
  refine V_iconst Y.1 (v := 0) dX3_rankBySpending_0 (rfl : _ = 1) (by decide) ?_
  refine V_istore_n Y.1 (ls' := [(2, _), (0, _), (1, _)]) dX3_rankBySpending_1 (rfl : _ = 2) rfl (by decide) rfl ?_
  refine V_iconst Y.1 (v := 0) dX3_rankBySpending_2 (rfl : _ = 3) (by decide) ?_
  refine V_istore_n Y.1 (ls' := [(3, _), (2, _), (0, _), (1, _)]) dX3_rankBySpending_3 (rfl : _ = 4) rfl (by decide) rfl ?_
  have lp : ∀ (n9 j : Nat), j + n9 = n → V Pp l Ee (rmO 3 68 0 0) Ss Mm Ar Bl Me Cc 4 (AA H0 (nof)) (QC Bl Ar Ss 0 0 H0 (nof) (pI fun v H => v = nI (m_rk M d i n) ∧ H = H0)) H0 0 0 4 [(3, .int (nI j)), (2, .int (nI (m_rk M d i j))), (0, .ref m), (1, .int (nI i))] [] := by
    intro n9
    induction n9 with
    | zero =>
      intro j hjn
      refine V_iload_n Y.1 0 dX3_rankBySpending_4 (rfl : _ = 5) rfl rfl ?_
      refine V_aload_n Y.1 2 dX3_rankBySpending_5 (rfl : _ = 6) rfl rfl ?_
      refine V_get Y.1 fi_X3_29 hK.1.1 rfl dX3_rankBySpending_6 (rfl : _ = 9) ?_
      refine V_nm (v := nI n) hn ?_
      refine V_icmp_ge Y.1 (tgt := 36) dX3_rankBySpending_9 (by decide) (rfl : _ = 12) (fun _ => ?_) (fun c_n => absurd (by simp (disch := omega) only [Int32.lt_iff_toInt_lt, Int32.le_iff_toInt_le, ge_iff_le, gt_iff_lt, nI_toInt, Int32.reduceToInt] ; omega) c_n)
      refine V_iload_n Y.1 1 dX3_rankBySpending_36 (rfl : _ = 37) rfl rfl ?_
      exact V_ret Y.1 dX3_rankBySpending_37 rfl (Nat.le_of_ble_eq_true rfl) (Nat.le_of_ble_eq_true rfl) ⟨by rw [show n = j by omega], rfl⟩
    | succ n9 ih =>
      intro j hjn
      have br := m_rk_le M d i j
      refine V_iload_n Y.1 0 dX3_rankBySpending_4 (rfl : _ = 5) rfl rfl ?_
      refine V_aload_n Y.1 2 dX3_rankBySpending_5 (rfl : _ = 6) rfl rfl ?_
      refine V_get Y.1 fi_X3_29 hK.1.1 rfl dX3_rankBySpending_6 (rfl : _ = 9) ?_
      refine V_nm (v := nI n) hn ?_
      refine V_icmp_ge Y.1 (tgt := 36) dX3_rankBySpending_9 (by decide) (rfl : _ = 12) (fun c_n => absurd c_n (by simp (disch := omega) only [Int32.lt_iff_toInt_lt, Int32.le_iff_toInt_le, ge_iff_le, gt_iff_lt, nI_toInt, Int32.reduceToInt] ; omega)) (fun _ => ?_)
      refine V_iload_n Y.1 0 dX3_rankBySpending_12 (rfl : _ = 13) rfl rfl ?_
      refine V_bipush Y.1 (v := 8) dX3_rankBySpending_13 (rfl : _ = 15) (by decide) ?_
      refine V_icmp_ge Y.1 (tgt := 36) dX3_rankBySpending_15 (by decide) (rfl : _ = 18) (fun c_n => absurd c_n (by simp (disch := omega) only [Int32.lt_iff_toInt_lt, Int32.le_iff_toInt_le, ge_iff_le, gt_iff_lt, nI_toInt, Int32.reduceToInt] ; omega)) (fun _ => ?_)
      refine V_aload_n Y.1 2 dX3_rankBySpending_18 (rfl : _ = 19) rfl rfl ?_
      refine V_iload_n Y.1 0 dX3_rankBySpending_19 (rfl : _ = 20) rfl rfl ?_
      refine V_iload_n Y.1 3 dX3_rankBySpending_20 (rfl : _ = 21) rfl rfl ?_
      refine V_cP Y (rV Y (c_X3_spentBefore l D kA _ m M ES j i (by omega) hi d hd hd2 hM) mi_X3_spentBefore vi_X3_195 rfl hK.1.1 rfl rfl (Nat.le_of_ble_eq_true rfl) ⟨Nat.le_of_ble_eq_true rfl, Nat.le_of_ble_eq_true rfl⟩ (Nat.le_of_ble_eq_true rfl) (Nat.le_of_ble_eq_true rfl) dX3_rankBySpending_21) (rfl : _ = 24) ?_
      refine V_if_eq Y.1 (tgt := 30) dX3_rankBySpending_24 (by decide) (rfl : _ = 27) (fun c_24 => ?_) (fun c_24 => ?_)
      · refine V_iinc Y.1 (v := nI (j + 1)) (ls' := [(3, _), (2, _), (0, _), (1, _)]) 0 dX3_rankBySpending_30 (rfl : _ = 33) rfl (nI_1 _) (by decide) rfl ?_
        refine V_goto Y.1 (tgt := 4) dX3_rankBySpending_33 (by decide) ?_
        have e9 : m_rk M d i (j + 1) = m_rk M d i j := if_pos c_24
        have g9 := ih (j + 1) (by omega)
        rw [e9] at g9
        exact V_forget (ls' := [(3, _), (2, _), (0, _), (1, _)]) [0, 1, 2, 3] rfl (g9)
      · refine V_iinc Y.1 (v := nI (m_rk M d i j + 1)) (ls' := [(2, _), (3, _), (0, _), (1, _)]) 1 dX3_rankBySpending_27 (rfl : _ = 30) rfl (nI_1 _) (by decide) rfl ?_
        refine V_iinc Y.1 (v := nI (j + 1)) (ls' := [(3, _), (2, _), (0, _), (1, _)]) 1 dX3_rankBySpending_30 (rfl : _ = 33) rfl (nI_1 _) (by decide) rfl ?_
        refine V_goto Y.1 (tgt := 4) dX3_rankBySpending_33 (by decide) ?_
        have e9 : m_rk M d i (j + 1) = m_rk M d i j + 1 := if_neg c_24
        have g9 := ih (j + 1) (by omega)
        rw [e9] at g9
        exact V_forget (ls' := [(3, _), (2, _), (0, _), (1, _)]) [0, 1, 2, 3] rfl (g9)
  exact lp n 0 (by omega)

set_option maxRecDepth 100000 in
set_option maxHeartbeats 4000000 in
theorem c_X3_balancesAgree (l : Launch) (D : va_G) (kA : Nat → ClassId) (H0 : Heap) (m : Nat) (M : MS) (ES : Nat → Prop) (n : Nat) (hn : M.1 0 = nI n) (hn8 : n ≤ 8) (hM : Mc D kA H0 m M ES) (hb : m_bal M n = M.1 2 - M.1 3 + M.1 4) : Ct l D kA yX3_balancesAgree cX3_balancesAgree 3 (some .boolean) 0 0 0 0 H0 [.ref m] (nof) (pI fun v H => v = 1 ∧ H = H0) := by
  refine Ct.of mi_X3_balancesAgree (Nat.le_of_ble_eq_true rfl) (ls0 := [(0, _)]) rfl ?_
  intro Pp Ee Ss Mm Ar Bl Me Cc Y hs hnm
  obtain ⟨E, hK⟩ := id hM
  have sz : H0.size = H0.size := rfl
  refine V_iconst Y.1 (v := 0) dX3_balancesAgree_0 (rfl : _ = 1) (by decide) ?_
  refine V_istore_n Y.1 (ls' := [(1, _), (0, _)]) dX3_balancesAgree_1 (rfl : _ = 2) rfl (by decide) rfl ?_
  refine V_iconst Y.1 (v := 0) dX3_balancesAgree_2 (rfl : _ = 3) (by decide) ?_
  refine V_istore_n Y.1 (ls' := [(2, _), (1, _), (0, _)]) dX3_balancesAgree_3 (rfl : _ = 4) rfl (by decide) rfl ?_
  have lp : ∀ (n9 j : Nat), j + n9 = n → V Pp l Ee (rmO 0 0 0 0) Ss Mm Ar Bl Me Cc 3 (AA H0 (nof)) (QC Bl Ar Ss 0 0 H0 (nof) (pI fun v H => v = 1 ∧ H = H0)) H0 0 0 4 [(2, .int (nI j)), (1, .int (m_bal M j)), (0, .ref m)] [] := by
    intro n9
    induction n9 with
    | zero =>
      intro j hjn
      refine V_iload_n Y.1 0 dX3_balancesAgree_4 (rfl : _ = 5) rfl rfl ?_
      refine V_aload_n Y.1 2 dX3_balancesAgree_5 (rfl : _ = 6) rfl rfl ?_
      refine V_get Y.1 fi_X3_29 hK.1.1 rfl dX3_balancesAgree_6 (rfl : _ = 9) ?_
      refine V_nm (v := nI n) hn ?_
      refine V_icmp_ge Y.1 (tgt := 36) dX3_balancesAgree_9 (by decide) (rfl : _ = 12) (fun _ => ?_) (fun c_n => absurd (by simp (disch := omega) only [Int32.lt_iff_toInt_lt, Int32.le_iff_toInt_le, ge_iff_le, gt_iff_lt, nI_toInt, Int32.reduceToInt] ; omega) c_n)
      refine V_iload_n Y.1 1 dX3_balancesAgree_36 (rfl : _ = 37) rfl rfl ?_
      refine V_aload_n Y.1 2 dX3_balancesAgree_37 (rfl : _ = 38) rfl rfl ?_
      refine V_get Y.1 fi_X3_39 hK.1.1 rfl dX3_balancesAgree_38 (rfl : _ = 41) ?_
      refine V_aload_n Y.1 2 dX3_balancesAgree_41 (rfl : _ = 42) rfl rfl ?_
      refine V_get Y.1 fi_X3_42 hK.1.1 rfl dX3_balancesAgree_42 (rfl : _ = 45) ?_
      refine V_isub Y.1 dX3_balancesAgree_45 (rfl : _ = 46) ?_
      refine V_aload_n Y.1 2 dX3_balancesAgree_46 (rfl : _ = 47) rfl rfl ?_
      refine V_get Y.1 fi_X3_45 hK.1.1 rfl dX3_balancesAgree_47 (rfl : _ = 50) ?_
      refine V_iadd Y.1 dX3_balancesAgree_50 (rfl : _ = 51) ?_
      refine V_icmp_ne Y.1 (tgt := 58) dX3_balancesAgree_51 (by decide) (rfl : _ = 54) (fun c_n => absurd (show m_bal M j = _ from by rw [show j = n by omega]; exact hb) c_n) (fun _ => ?_)
      refine V_iconst Y.1 (v := 1) dX3_balancesAgree_54 (rfl : _ = 55) (by decide) ?_
      refine V_goto Y.1 (tgt := 59) dX3_balancesAgree_55 (by decide) ?_
      exact V_ret Y.1 dX3_balancesAgree_59 rfl (Nat.le_of_ble_eq_true rfl) (Nat.le_of_ble_eq_true rfl) ⟨rfl, rfl⟩
    | succ n9 ih =>
      intro j hjn
      refine V_iload_n Y.1 0 dX3_balancesAgree_4 (rfl : _ = 5) rfl rfl ?_
      refine V_aload_n Y.1 2 dX3_balancesAgree_5 (rfl : _ = 6) rfl rfl ?_
      refine V_get Y.1 fi_X3_29 hK.1.1 rfl dX3_balancesAgree_6 (rfl : _ = 9) ?_
      refine V_nm (v := nI n) hn ?_
      refine V_icmp_ge Y.1 (tgt := 36) dX3_balancesAgree_9 (by decide) (rfl : _ = 12) (fun c_n => absurd c_n (by simp (disch := omega) only [Int32.lt_iff_toInt_lt, Int32.le_iff_toInt_le, ge_iff_le, gt_iff_lt, nI_toInt, Int32.reduceToInt] ; omega)) (fun _ => ?_)
      refine V_iload_n Y.1 0 dX3_balancesAgree_12 (rfl : _ = 13) rfl rfl ?_
      refine V_bipush Y.1 (v := 8) dX3_balancesAgree_13 (rfl : _ = 15) (by decide) ?_
      refine V_icmp_ge Y.1 (tgt := 36) dX3_balancesAgree_15 (by decide) (rfl : _ = 18) (fun c_n => absurd c_n (by simp (disch := omega) only [Int32.lt_iff_toInt_lt, Int32.le_iff_toInt_le, ge_iff_le, gt_iff_lt, nI_toInt, Int32.reduceToInt] ; omega)) (fun _ => ?_)
      refine V_iload_n Y.1 1 dX3_balancesAgree_18 (rfl : _ = 19) rfl rfl ?_
      refine V_aload_n Y.1 2 dX3_balancesAgree_19 (rfl : _ = 20) rfl rfl ?_
      refine V_get Y.1 fi_X3_20 hK.1.1 rfl dX3_balancesAgree_20 (rfl : _ = 23) ?_
      refine V_iload_n Y.1 0 dX3_balancesAgree_23 (rfl : _ = 24) rfl rfl ?_
      refine V_aldK Y.1 (v := m_ca m j) hK.1.2.2.1 (by first | assumption | exact vp_in_nI (by omega) (by omega)) (by rw [nI_clamp (by omega)]) dX3_balancesAgree_24 (rfl : _ = 25) ?_
      refine V_get Y.1 fi_X3_84 (hK.1.2.2.2 j (by omega)).1 rfl dX3_balancesAgree_25 (rfl : _ = 28) ?_
      refine V_iadd Y.1 dX3_balancesAgree_28 (rfl : _ = 29) ?_
      refine V_istore_n Y.1 (ls' := [(1, _), (2, _), (0, _)]) dX3_balancesAgree_29 (rfl : _ = 30) rfl (by decide) rfl ?_
      refine V_iinc Y.1 (v := nI (j + 1)) (ls' := [(2, _), (1, _), (0, _)]) 1 dX3_balancesAgree_30 (rfl : _ = 33) rfl (nI_1 _) (by decide) rfl ?_
      refine V_goto Y.1 (tgt := 4) dX3_balancesAgree_33 (by decide) ?_
      exact V_forget (ls' := [(2, _), (1, _), (0, _)]) [0, 1, 2] rfl (ih (j + 1) (by omega))
  exact lp n 0 (by omega)

set_option maxRecDepth 100000 in
set_option maxHeartbeats 4000000 in
theorem c_X3_sumsAgree (l : Launch) (D : va_G) (kA : Nat → ClassId) (H0 : Heap) (m : Nat) (M : MS) (ES : Nat → Prop) (d : Nat) (hd : M.1 1 / 1440 = nI d) (hd2 : d < 2 ^ 31) (hd3 : d < 2 ^ 30) (n : Nat) (hn : M.1 0 = nI n) (hn8 : n ≤ 8) (hM : Mc D kA H0 m M ES) (ha : ∀ i, i < n → ∀ q, d - 2 ≤ q → q ≤ d → k_sumOf (M.2.2.2.1 i) q = k_recs (nI q) (M.2.2.2.2 i) 0 ∧ k_sumOf (M.2.2.2.1 i) q ≤ k_cap (M.2.2.2.1 i)) : Ct l D kA yX3_sumsAgree cX3_sumsAgree 5 (some .boolean) 2 44 0 0 H0 [.ref m] (nof) (pI fun v H => v = 1 ∧ H = H0) := by
  refine Ct.of mi_X3_sumsAgree (Nat.le_of_ble_eq_true rfl) (ls0 := [(0, _)]) rfl ?_
  intro Pp Ee Ss Mm Ar Bl Me Cc Y hs hnm
  obtain ⟨E, hK⟩ := id hM
  have sz : H0.size = H0.size := rfl
  refine V_aload_n Y.1 0 dX3_sumsAgree_0 (rfl : _ = 1) rfl rfl ?_
  refine V_cP Y (rV Y (c_X3_presentDay l D kA _ m M ES hM) mi_X3_presentDay vi_X3_54 rfl hK.1.1 rfl rfl (Nat.le_of_ble_eq_true rfl) ⟨Nat.le_of_ble_eq_true rfl, Nat.le_of_ble_eq_true rfl⟩ (Nat.le_of_ble_eq_true rfl) (Nat.le_of_ble_eq_true rfl) dX3_sumsAgree_1) (rfl : _ = 4) ?_
  refine V_nm (v := nI d) hd ?_
  refine V_istore_n Y.1 (ls' := [(1, _), (0, _)]) dX3_sumsAgree_4 (rfl : _ = 5) rfl (by decide) rfl ?_
  refine V_iconst Y.1 (v := 0) dX3_sumsAgree_5 (rfl : _ = 6) (by decide) ?_
  refine V_istore_n Y.1 (ls' := [(2, _), (1, _), (0, _)]) dX3_sumsAgree_6 (rfl : _ = 7) rfl (by decide) rfl ?_
  have lp : ∀ (n9 i : Nat), i + n9 = n → V Pp l Ee (rmO 2 44 0 0) Ss Mm Ar Bl Me Cc 5 (AA H0 (nof)) (QC Bl Ar Ss 0 0 H0 (nof) (pI fun v H => v = 1 ∧ H = H0)) H0 0 0 7 [(2, .int (nI i)), (1, .int (nI d)), (0, .ref m)] [] := by
    intro n9
    induction n9 with
    | zero =>
      intro i hin
      refine V_iload_n Y.1 0 dX3_sumsAgree_7 (rfl : _ = 8) rfl rfl ?_
      refine V_aload_n Y.1 2 dX3_sumsAgree_8 (rfl : _ = 9) rfl rfl ?_
      refine V_get Y.1 fi_X3_29 hK.1.1 rfl dX3_sumsAgree_9 (rfl : _ = 12) ?_
      refine V_nm (v := nI n) hn ?_
      refine V_icmp_ge Y.1 (tgt := 89) dX3_sumsAgree_12 (by decide) (rfl : _ = 15) (fun _ => ?_) (fun c_n => absurd (by simp (disch := omega) only [Int32.lt_iff_toInt_lt, Int32.le_iff_toInt_le, ge_iff_le, gt_iff_lt, nI_toInt, Int32.reduceToInt] ; omega) c_n)
      refine V_iconst Y.1 (v := 1) dX3_sumsAgree_89 (rfl : _ = 90) (by decide) ?_
      exact V_ret Y.1 dX3_sumsAgree_90 rfl (Nat.le_of_ble_eq_true rfl) (Nat.le_of_ble_eq_true rfl) ⟨rfl, rfl⟩
    | succ n9 ih =>
      intro i hin
      refine V_iload_n Y.1 0 dX3_sumsAgree_7 (rfl : _ = 8) rfl rfl ?_
      refine V_aload_n Y.1 2 dX3_sumsAgree_8 (rfl : _ = 9) rfl rfl ?_
      refine V_get Y.1 fi_X3_29 hK.1.1 rfl dX3_sumsAgree_9 (rfl : _ = 12) ?_
      refine V_nm (v := nI n) hn ?_
      refine V_icmp_ge Y.1 (tgt := 89) dX3_sumsAgree_12 (by decide) (rfl : _ = 15) (fun c_n => absurd c_n (by simp (disch := omega) only [Int32.lt_iff_toInt_lt, Int32.le_iff_toInt_le, ge_iff_le, gt_iff_lt, nI_toInt, Int32.reduceToInt] ; omega)) (fun _ => ?_)
      refine V_iload_n Y.1 0 dX3_sumsAgree_15 (rfl : _ = 16) rfl rfl ?_
      refine V_bipush Y.1 (v := 8) dX3_sumsAgree_16 (rfl : _ = 18) (by decide) ?_
      refine V_icmp_ge Y.1 (tgt := 89) dX3_sumsAgree_18 (by decide) (rfl : _ = 21) (fun c_n => absurd c_n (by simp (disch := omega) only [Int32.lt_iff_toInt_lt, Int32.le_iff_toInt_le, ge_iff_le, gt_iff_lt, nI_toInt, Int32.reduceToInt] ; omega)) (fun _ => ?_)
      refine V_iload_n Y.1 1 dX3_sumsAgree_21 (rfl : _ = 22) rfl rfl ?_
      refine V_iconst Y.1 (v := 2) dX3_sumsAgree_22 (rfl : _ = 23) (by decide) ?_
      refine V_isub Y.1 dX3_sumsAgree_23 (rfl : _ = 24) ?_
      refine V_iconst Y.1 (v := 0) dX3_sumsAgree_24 (rfl : _ = 25) (by decide) ?_
      refine V_mmax Y.1 mw_X3_180 (Nat.le_of_ble_eq_true rfl) (Nat.le_of_ble_eq_true rfl) (Nat.le_of_ble_eq_true rfl) (Nat.le_of_ble_eq_true rfl) dX3_sumsAgree_25 (rfl : _ = 28) ?_
      refine V_nm (v := nI (d - 2)) (show (if (nI d - 2) < 0 then (0 : Int32) else nI d - 2) = nI (d - 2) from by
  have e2 : (nI d - 2).toInt = (d : Int) - 2 := pk_sub_toInt (a := d) (b := 2) (by omega) (by omega)
  rcases Nat.lt_or_ge d 2 with q | q
  · rw [if_pos (by rw [Int32.lt_iff_toInt_lt, e2]; show (d : Int) - 2 < 0; omega), show d - 2 = 0 by omega]; rfl
  · rw [if_neg (by rw [Int32.lt_iff_toInt_lt, e2]; show ¬ (d : Int) - 2 < 0; omega)]; exact pk_sub (b := 2) q) ?_
      refine V_istore_n Y.1 (ls' := [(3, _), (2, _), (1, _), (0, _)]) dX3_sumsAgree_28 (rfl : _ = 29) rfl (by decide) rfl ?_
      have lq : ∀ (m9 q : Nat), q + m9 = d + 1 → d - 2 ≤ q → V Pp l Ee (rmO 2 44 0 0) Ss Mm Ar Bl Me Cc 5 (AA H0 (nof)) (QC Bl Ar Ss 0 0 H0 (nof) (pI fun v H => v = 1 ∧ H = H0)) H0 0 0 29 [(3, .int (nI q)), (2, .int (nI i)), (1, .int (nI d)), (0, .ref m)] [] := by
        intro m9
        induction m9 with
        | zero =>
          intro q hq hq2
          refine V_iload_n Y.1 0 dX3_sumsAgree_29 (rfl : _ = 30) rfl rfl ?_
          refine V_iload_n Y.1 2 dX3_sumsAgree_30 (rfl : _ = 31) rfl rfl ?_
          refine V_icmp_gt Y.1 (tgt := 83) dX3_sumsAgree_31 (by decide) (rfl : _ = 34) (fun _ => ?_) (fun c_n => absurd (by simp (disch := omega) only [Int32.lt_iff_toInt_lt, Int32.le_iff_toInt_le, ge_iff_le, gt_iff_lt, nI_toInt, Int32.reduceToInt] ; omega) c_n)
          refine V_iinc Y.1 (v := nI (i + 1)) (ls' := [(2, _), (3, _), (1, _), (0, _)]) 1 dX3_sumsAgree_83 (rfl : _ = 86) rfl (nI_1 _) (by decide) rfl ?_
          refine V_goto Y.1 (tgt := 7) dX3_sumsAgree_86 (by decide) ?_
          exact V_forget (ls' := [(2, _), (1, _), (0, _)]) [0, 2, 3] rfl (ih (i + 1) (by omega))
        | succ m9 ih2 =>
          intro q hq hq2
          obtain ⟨a1, a2⟩ := ha i (by omega) q hq2 (by omega)
          refine V_iload_n Y.1 0 dX3_sumsAgree_29 (rfl : _ = 30) rfl rfl ?_
          refine V_iload_n Y.1 2 dX3_sumsAgree_30 (rfl : _ = 31) rfl rfl ?_
          refine V_icmp_gt Y.1 (tgt := 83) dX3_sumsAgree_31 (by decide) (rfl : _ = 34) (fun c_n => absurd c_n (by simp (disch := omega) only [Int32.lt_iff_toInt_lt, Int32.le_iff_toInt_le, ge_iff_le, gt_iff_lt, nI_toInt, Int32.reduceToInt] ; omega)) (fun _ => ?_)
          refine V_aload_n Y.1 3 dX3_sumsAgree_34 (rfl : _ = 35) rfl rfl ?_
          refine V_get Y.1 fi_X3_20 hK.1.1 rfl dX3_sumsAgree_35 (rfl : _ = 38) ?_
          refine V_iload_n Y.1 1 dX3_sumsAgree_38 (rfl : _ = 39) rfl rfl ?_
          refine V_aldK Y.1 (v := m_ca m i) hK.1.2.2.1 (by first | assumption | exact vp_in_nI (by omega) (by omega)) (by rw [nI_clamp (by omega)]) dX3_sumsAgree_39 (rfl : _ = 40) ?_
          refine V_iload_n Y.1 0 dX3_sumsAgree_40 (rfl : _ = 41) rfl rfl ?_
          refine V_cP Y (rV Y (c_X0_sumOf l D kA _ _ _ _ q (by omega) (hK.1.2.2.2 i (by omega))) mi_X0_sumOf vi_X3_198 rfl (hK.1.2.2.2 i (by omega)).1 rfl rfl (Nat.le_of_ble_eq_true rfl) ⟨Nat.le_of_ble_eq_true rfl, Nat.le_of_ble_eq_true rfl⟩ (Nat.le_of_ble_eq_true rfl) (Nat.le_of_ble_eq_true rfl) dX3_sumsAgree_41) (rfl : _ = 44) ?_
          refine V_istore Y.1 (ls' := [(4, _), (3, _), (2, _), (1, _), (0, _)]) dX3_sumsAgree_44 (rfl : _ = 46) (by decide) rfl ?_
          refine V_iload Y.1 0 dX3_sumsAgree_46 (rfl : _ = 48) rfl ?_
          refine V_aload_n Y.1 4 dX3_sumsAgree_48 (rfl : _ = 49) rfl rfl ?_
          refine V_get Y.1 fi_X3_20 hK.1.1 rfl dX3_sumsAgree_49 (rfl : _ = 52) ?_
          refine V_iload_n Y.1 2 dX3_sumsAgree_52 (rfl : _ = 53) rfl rfl ?_
          refine V_aldK Y.1 (v := m_ca m i) hK.1.2.2.1 (by first | assumption | exact vp_in_nI (by omega) (by omega)) (by rw [nI_clamp (by omega)]) dX3_sumsAgree_53 (rfl : _ = 54) ?_
          refine V_iload_n Y.1 1 dX3_sumsAgree_54 (rfl : _ = 55) rfl rfl ?_
          refine V_cP Y (rV Y (c_X0_sumOfRecords l D kA _ _ _ _ ES _ (nI q) (hK.1.2.2.2 i (by omega)) (hK.2.1 i (by omega))) mi_X0_sumOfRecords vi_X3_201 rfl (hK.1.2.2.2 i (by omega)).1 rfl rfl (Nat.le_of_ble_eq_true rfl) ⟨Nat.le_of_ble_eq_true rfl, Nat.le_of_ble_eq_true rfl⟩ (Nat.le_of_ble_eq_true rfl) (Nat.le_of_ble_eq_true rfl) dX3_sumsAgree_55) (rfl : _ = 58) ?_
          refine V_icmp_ne Y.1 (tgt := 75) dX3_sumsAgree_58 (by decide) (rfl : _ = 61) (fun c_n => absurd a1 c_n) (fun _ => ?_)
          refine V_iload Y.1 0 dX3_sumsAgree_61 (rfl : _ = 63) rfl ?_
          refine V_aload_n Y.1 4 dX3_sumsAgree_63 (rfl : _ = 64) rfl rfl ?_
          refine V_get Y.1 fi_X3_20 hK.1.1 rfl dX3_sumsAgree_64 (rfl : _ = 67) ?_
          refine V_iload_n Y.1 2 dX3_sumsAgree_67 (rfl : _ = 68) rfl rfl ?_
          refine V_aldK Y.1 (v := m_ca m i) hK.1.2.2.1 (by first | assumption | exact vp_in_nI (by omega) (by omega)) (by rw [nI_clamp (by omega)]) dX3_sumsAgree_68 (rfl : _ = 69) ?_
          refine V_cP Y (rV Y (c_X0_dailyCap l D kA _ _ _ _ (hK.1.2.2.2 i (by omega))) mi_X0_dailyCap vi_X3_204 rfl (hK.1.2.2.2 i (by omega)).1 rfl rfl (Nat.le_of_ble_eq_true rfl) ⟨Nat.le_of_ble_eq_true rfl, Nat.le_of_ble_eq_true rfl⟩ (Nat.le_of_ble_eq_true rfl) (Nat.le_of_ble_eq_true rfl) dX3_sumsAgree_69) (rfl : _ = 72) ?_
          refine V_icmp_le Y.1 (tgt := 77) dX3_sumsAgree_72 (by decide) (rfl : _ = 75) (fun _ => ?_) (fun c_n => absurd a2 c_n)
          refine V_iinc Y.1 (v := nI (q + 1)) (ls' := [(3, _), (4, _), (2, _), (1, _), (0, _)]) 1 dX3_sumsAgree_77 (rfl : _ = 80) rfl (nI_1 _) (by decide) rfl ?_
          refine V_goto Y.1 (tgt := 29) dX3_sumsAgree_80 (by decide) ?_
          exact V_forget (ls' := [(3, _), (2, _), (1, _), (0, _)]) [0, 2, 3, 4] rfl (ih2 (q + 1) (by omega) (by omega))
      exact V_forget (ls' := [(3, _), (2, _), (1, _), (0, _)]) [0, 1, 2, 3] rfl (lq (d + 1 - (d - 2)) (d - 2) (by omega) (by omega))
  exact lp n 0 (by omega)

set_option maxRecDepth 100000 in
set_option maxHeartbeats 4000000 in
theorem c_X3_passTime (l : Launch) (D : va_G) (kA : Nat → ClassId) (H0 : Heap) (m : Nat) (M : MS) (ES : Nat → Prop) (x : Int32) (n : Nat) (hn : M.1 0 = nI n) (hn8 : n ≤ 8) (hM : Mc D kA H0 m M ES) (ht : ∀ i, i < n → ¬ (M.2.2.2.1 i).1 2 = 0 → ∃ a : Nat, (M.2.2.2.1 i).1 4 = nI a ∧ a < 2 ^ 30) : Ct l D kA yX3_passTime cX3_passTime 4 (some .int) 4 93 8 24 H0 [.ref m, .int x] (blk m 29) (pI fun v H => v = nI (m_pass M x n).1 ∧ Mc D kA H m (m_pass M x n).2 (gro ES H0 H)) := by
  refine Ct.of mi_X3_passTime (Nat.le_of_ble_eq_true rfl) (ls0 := [(0, _), (1, _)]) rfl ?_
  intro Pp Ee Ss Mm Ar Bl Me Cc Y hs hnm
  obtain ⟨E, hK⟩ := id hM
  have sz : H0.size = H0.size := rfl
  refine V_iconst Y.1 (v := 0) dX3_passTime_0 (rfl : _ = 1) (by decide) ?_
  refine V_istore_n Y.1 (ls' := [(2, _), (0, _), (1, _)]) dX3_passTime_1 (rfl : _ = 2) rfl (by decide) rfl ?_
  refine V_aload_n Y.1 1 dX3_passTime_2 (rfl : _ = 3) rfl rfl ?_
  refine V_dup Y.1 dX3_passTime_3 (rfl : _ = 4) rfl ?_
  refine V_get Y.1 fi_X3_36 hK.1.1 rfl dX3_passTime_4 (rfl : _ = 7) ?_
  refine V_iload_n Y.1 2 dX3_passTime_7 (rfl : _ = 8) rfl rfl ?_
  refine V_iadd Y.1 dX3_passTime_8 (rfl : _ = 9) ?_
  refine V_put Y.1 fi_X3_36 fw_X3 rfl rfl hK.1.1 (Or.inl ⟨by omega, by omega⟩) rfl rfl (Nat.le_of_ble_eq_true rfl) dX3_passTime_9 (rfl : _ = 12) (fun H9_7 h_new o_9 => ?_)
  have hK : Mk D kA _ m (m_g M 1 (M.1 1 + x)) _ _ := hK.g o_9 _ h_new rfl rfl
  have sz : Array.size H9_7 = H0.size := o_9.1.trans sz
  clear h_new
  refine V_iconst Y.1 (v := 0) dX3_passTime_12 (rfl : _ = 13) (by decide) ?_
  refine V_istore_n Y.1 (ls' := [(3, _), (2, _), (0, _), (1, _)]) dX3_passTime_13 (rfl : _ = 14) rfl (by decide) rfl ?_
  obtain ⟨M0, eM0⟩ : ∃ z, z = m_g M 1 (M.1 1 + x) := ⟨_, rfl⟩
  rw [← eM0] at hK
  have eP : m_pass M x n = m_ps M0 n := by rw [m_pass, eM0]
  have hn0 : M0.1 0 = nI n := by rw [eM0]; exact hn
  have ht0 : ∀ i, i < n → ¬ (M0.2.2.2.1 i).1 2 = 0 → ∃ a : Nat, (M0.2.2.2.1 i).1 4 = nI a ∧ a < 2 ^ 30 := by rw [eM0]; exact ht
  clear ht hn
  have lp : ∀ (n9 j : Nat) (H : Heap) (E : Nat → Option Nat), j + n9 = n → Mk D kA H m (m_ps M0 j).2 E (gro ES H0 H) → H0.size ≤ H.size → V Pp l Ee (rmO 4 93 8 24) Ss Mm Ar Bl Me Cc 4 (AA H0 (blk m 29)) (QC Bl Ar Ss 8 24 H0 (blk m 29) (pI fun v H => v = nI (m_pass M x n).1 ∧ Mc D kA H m (m_pass M x n).2 (gro ES H0 H))) H j (3 * j) 14 [(3, .int (nI j)), (2, .int (nI (m_ps M0 j).1)), (0, .ref m), (1, .int x)] [] := by
    intro n9
    induction n9 with
    | zero =>
      intro j H E hjn hK sz
      obtain ⟨k0, k1, -⟩ := m_ps_keep M0 j
      refine V_iload_n Y.1 0 dX3_passTime_14 (rfl : _ = 15) rfl rfl ?_
      refine V_aload_n Y.1 2 dX3_passTime_15 (rfl : _ = 16) rfl rfl ?_
      refine V_get Y.1 fi_X3_29 hK.1.1 rfl dX3_passTime_16 (rfl : _ = 19) ?_
      refine V_nm (v := nI n) (k0.trans hn0) ?_
      refine V_icmp_ge Y.1 (tgt := 88) dX3_passTime_19 (by decide) (rfl : _ = 22) (fun _ => ?_) (fun c_n => absurd (by simp (disch := omega) only [Int32.lt_iff_toInt_lt, Int32.le_iff_toInt_le, ge_iff_le, gt_iff_lt, nI_toInt, Int32.reduceToInt] ; omega) c_n)
      refine V_iload_n Y.1 1 dX3_passTime_88 (rfl : _ = 89) rfl rfl ?_
      exact V_ret Y.1 dX3_passTime_89 rfl (by omega) (by omega) ⟨by rw [eP, show n = j by omega], ⟨_, by rw [eP, show n = j by omega]; exact hK⟩⟩
    | succ n9 ih =>
      intro j H E hjn hK sz
      obtain ⟨k0, k1, -, -, -, k6, k7⟩ := m_ps_keep M0 j
      have kj := k7 j (Nat.le_refl _)
      refine V_iload_n Y.1 0 dX3_passTime_14 (rfl : _ = 15) rfl rfl ?_
      refine V_aload_n Y.1 2 dX3_passTime_15 (rfl : _ = 16) rfl rfl ?_
      refine V_get Y.1 fi_X3_29 hK.1.1 rfl dX3_passTime_16 (rfl : _ = 19) ?_
      refine V_nm (v := nI n) (k0.trans hn0) ?_
      refine V_icmp_ge Y.1 (tgt := 88) dX3_passTime_19 (by decide) (rfl : _ = 22) (fun c_n => absurd c_n (by simp (disch := omega) only [Int32.lt_iff_toInt_lt, Int32.le_iff_toInt_le, ge_iff_le, gt_iff_lt, nI_toInt, Int32.reduceToInt] ; omega)) (fun _ => ?_)
      refine V_iload_n Y.1 0 dX3_passTime_22 (rfl : _ = 23) rfl rfl ?_
      refine V_bipush Y.1 (v := 8) dX3_passTime_23 (rfl : _ = 25) (by decide) ?_
      refine V_icmp_ge Y.1 (tgt := 88) dX3_passTime_25 (by decide) (rfl : _ = 28) (fun c_n => absurd c_n (by simp (disch := omega) only [Int32.lt_iff_toInt_lt, Int32.le_iff_toInt_le, ge_iff_le, gt_iff_lt, nI_toInt, Int32.reduceToInt] ; omega)) (fun _ => ?_)
      refine V_aload_n Y.1 2 dX3_passTime_28 (rfl : _ = 29) rfl rfl ?_
      refine V_get Y.1 fi_X3_20 hK.1.1 rfl dX3_passTime_29 (rfl : _ = 32) ?_
      refine V_iload_n Y.1 0 dX3_passTime_32 (rfl : _ = 33) rfl rfl ?_
      refine V_aldK Y.1 (v := m_ca m j) hK.1.2.2.1 (by first | assumption | exact vp_in_nI (by omega) (by omega)) (by rw [nI_clamp (by omega)]) dX3_passTime_33 (rfl : _ = 34) ?_
      refine V_get Y.1 fi_X3_90 (hK.1.2.2.2 j (by omega)).1 rfl dX3_passTime_34 (rfl : _ = 37) ?_
      refine V_if_eq Y.1 (tgt := 82) dX3_passTime_37 (by decide) (rfl : _ = 40) (fun c_37 => ?_) (fun c_37 => ?_)
      · refine V_iinc Y.1 (v := nI (j + 1)) (ls' := [(3, _), (2, _), (0, _), (1, _)]) 0 dX3_passTime_82 (rfl : _ = 85) rfl (nI_1 _) (by decide) rfl ?_
        refine V_goto Y.1 (tgt := 14) dX3_passTime_85 (by decide) ?_
        have e9 : m_ps M0 (j + 1) = m_ps M0 j := if_neg (fun z => z.1 c_37)
        have g9 := ih (j + 1) _ _ (by omega) (by rw [e9]; exact hK) sz
        rw [e9] at g9
        refine V_widen (k' := j + 1) (n' := 3 * (j + 1)) (by omega) (by omega) ?_
        exact V_forget (ls' := [(3, _), (2, _), (0, _), (1, _)]) [0, 1, 2, 3] rfl (g9)
      · refine V_aload_n Y.1 2 dX3_passTime_40 (rfl : _ = 41) rfl rfl ?_
        refine V_get Y.1 fi_X3_20 hK.1.1 rfl dX3_passTime_41 (rfl : _ = 44) ?_
        refine V_iload_n Y.1 0 dX3_passTime_44 (rfl : _ = 45) rfl rfl ?_
        refine V_aldK Y.1 (v := m_ca m j) hK.1.2.2.1 (by first | assumption | exact vp_in_nI (by omega) (by omega)) (by rw [nI_clamp (by omega)]) dX3_passTime_45 (rfl : _ = 46) ?_
        refine V_cP Y (rV Y (c_X0_tripEnd l D kA _ _ _ _ (hK.1.2.2.2 j (by omega))) mi_X0_tripEnd vi_X3_192 rfl (hK.1.2.2.2 j (by omega)).1 rfl rfl (Nat.le_of_ble_eq_true rfl) ⟨Nat.le_of_ble_eq_true rfl, Nat.le_of_ble_eq_true rfl⟩ (by show j + 0 ≤ 8; omega) (by show 3 * j + 0 ≤ 24; omega) dX3_passTime_46) (rfl : _ = 49) ?_
        refine V_aload_n Y.1 2 dX3_passTime_49 (rfl : _ = 50) rfl rfl ?_
        refine V_get Y.1 fi_X3_36 hK.1.1 rfl dX3_passTime_50 (rfl : _ = 53) ?_
        refine V_nm (v := M0.1 1) k1 ?_
        refine V_icmp_gt Y.1 (tgt := 82) dX3_passTime_53 (by decide) (rfl : _ = 56) (fun c_53 => ?_) (fun c_53 => ?_)
        · refine V_iinc Y.1 (v := nI (j + 1)) (ls' := [(3, _), (2, _), (0, _), (1, _)]) 0 dX3_passTime_82 (rfl : _ = 85) rfl (nI_1 _) (by decide) rfl ?_
          refine V_goto Y.1 (tgt := 14) dX3_passTime_85 (by decide) ?_
          have e9 : m_ps M0 (j + 1) = m_ps M0 j := if_neg (fun z => z.2 c_53)
          have g9 := ih (j + 1) _ _ (by omega) (by rw [e9]; exact hK) sz
          rw [e9] at g9
          refine V_widen (k' := j + 1) (n' := 3 * (j + 1)) (by omega) (by omega) ?_
          exact V_forget (ls' := [(3, _), (2, _), (0, _), (1, _)]) [0, 1, 2, 3] rfl (g9)
        · obtain ⟨a9, ea, ea2⟩ := ht0 j (by omega) (by rw [← kj]; exact c_37)
          have e180 : ((m_ps M0 j).2.2.2.2.1 j).1 4 + 180 = nI (a9 + 180) := by rw [kj, ea]; exact nI_add a9 180
          have eday : m_day M0 j = (a9 + 180) / 1440 := by unfold m_day; rw [ea, show nI a9 + 180 = nI (a9 + 180) from nI_add a9 180, nI_clamp (by omega)]
          refine V_aload_n Y.1 2 dX3_passTime_56 (rfl : _ = 57) rfl rfl ?_
          refine V_aload_n Y.1 2 dX3_passTime_57 (rfl : _ = 58) rfl rfl ?_
          refine V_get Y.1 fi_X3_20 hK.1.1 rfl dX3_passTime_58 (rfl : _ = 61) ?_
          refine V_iload_n Y.1 0 dX3_passTime_61 (rfl : _ = 62) rfl rfl ?_
          refine V_aldK Y.1 (v := m_ca m j) hK.1.2.2.1 (by first | assumption | exact vp_in_nI (by omega) (by omega)) (by rw [nI_clamp (by omega)]) dX3_passTime_62 (rfl : _ = 63) ?_
          refine V_aload_n Y.1 2 dX3_passTime_63 (rfl : _ = 64) rfl rfl ?_
          refine V_get Y.1 fi_X3_20 hK.1.1 rfl dX3_passTime_64 (rfl : _ = 67) ?_
          refine V_iload_n Y.1 0 dX3_passTime_67 (rfl : _ = 68) rfl rfl ?_
          refine V_aldK Y.1 (v := m_ca m j) hK.1.2.2.1 (by first | assumption | exact vp_in_nI (by omega) (by omega)) (by rw [nI_clamp (by omega)]) dX3_passTime_68 (rfl : _ = 69) ?_
          refine V_cP Y (rV Y (c_X0_tripEnd l D kA _ _ _ _ (hK.1.2.2.2 j (by omega))) mi_X0_tripEnd vi_X3_192 rfl (hK.1.2.2.2 j (by omega)).1 rfl rfl (Nat.le_of_ble_eq_true rfl) ⟨Nat.le_of_ble_eq_true rfl, Nat.le_of_ble_eq_true rfl⟩ (by show j + 0 ≤ 8; omega) (by show 3 * j + 0 ≤ 24; omega) dX3_passTime_69) (rfl : _ = 72) ?_
          refine V_sipush Y.1 (v := 1440) dX3_passTime_72 (rfl : _ = 75) (by decide) ?_
          refine V_idiv Y.1 dX3_passTime_75 (rfl : _ = 76) (by decide) ?_
          refine V_nm (v := nI (m_day M0 j)) (by rw [e180, eday]; exact pk_div (d := 1440) (by omega) (by decide) (by decide)) ?_
          refine V_cV Y (rV Y (c_X3_makeIncomplete l D kA _ m _ (gro ES H0 H) j (by omega) (m_day M0 j) (by rw [eday]; omega) ⟨_, hK⟩) mi_X3_makeIncomplete vi_X3_131 rfl hK.1.1 rfl rfl (Nat.le_of_ble_eq_true rfl) ⟨Nat.le_of_ble_eq_true rfl, Nat.le_of_ble_eq_true rfl⟩ (by show j + 1 ≤ 8; omega) (by show 3 * j + 3 ≤ 24; omega) dX3_passTime_76) (fun q hq => Or.inl hq) (rfl : _ = 79) (fun H76_53 hq_76 o_76 => ?_)
          obtain ⟨⟨E, hK⟩, z76⟩ := hq_76
          rw [gro_tr sz o_76.1] at hK
          have sz := Nat.le_trans sz o_76.1
          refine V_iinc Y.1 (v := nI ((m_ps M0 j).1 + 1)) (ls' := [(2, _), (3, _), (0, _), (1, _)]) 1 dX3_passTime_79 (rfl : _ = 82) rfl (nI_1 _) (by decide) rfl ?_
          refine V_iinc Y.1 (v := nI (j + 1)) (ls' := [(3, _), (2, _), (0, _), (1, _)]) 1 dX3_passTime_82 (rfl : _ = 85) rfl (nI_1 _) (by decide) rfl ?_
          refine V_goto Y.1 (tgt := 14) dX3_passTime_85 (by decide) ?_
          have e9 : m_ps M0 (j + 1) = ((m_ps M0 j).1 + 1, m_inc (m_ps M0 j).2 j (m_day M0 j)) := if_pos ⟨c_37, c_53⟩
          have g9 := ih (j + 1) _ _ (by omega) (by rw [e9]; exact hK) sz
          rw [e9] at g9
          exact V_forget (ls' := [(3, _), (2, _), (0, _), (1, _)]) [0, 1, 2, 3] rfl (g9)
  exact lp n 0 _ _ (by omega) (by rw [gro_z o_9.1]; exact hK) (Nat.le_of_eq o_9.1.symm)

set_option maxRecDepth 100000 in
set_option maxHeartbeats 4000000 in
theorem c_X3_copyFrom (l : Launch) (D : va_G) (kA : Nat → ClassId) (H0 : Heap) (m : Nat) (M : MS) (ES : Nat → Prop) (m1 : Nat) (M1 : MS) (n : Nat) (hn : M1.1 0 = nI n) (hn8 : n ≤ 8) (hM : Mc D kA H0 m M ES) (hM1 : Mc D kA H0 m1 M1 ES) (hx : m + 29 ≤ m1 ∨ m1 + 29 ≤ m) (hok : ∀ i, i < n → k_ok (M1.2.2.2.1 i)) : Ct l D kA yX3_copyFrom cX3_copyFrom 3 none 2 69 0 0 H0 [.ref m, .ref m1] (blk m 29) (pV fun H => Mc D kA H m (m_copy M M1 n) ES ∧ H.size = H0.size) := by
  refine Ct.of mi_X3_copyFrom (Nat.le_of_ble_eq_true rfl) (ls0 := [(0, _), (1, _)]) rfl ?_
  intro Pp Ee Ss Mm Ar Bl Me Cc Y hs hnm
  obtain ⟨E, hK⟩ := id hM
  obtain ⟨E1, hN⟩ := id hM1
  have sz : H0.size = H0.size := rfl
  refine V_aload_n Y.1 0 dX3_copyFrom_0 (rfl : _ = 1) rfl rfl ?_
  refine V_get Y.1 fi_X3_12 hK.1.1 rfl dX3_copyFrom_1 (rfl : _ = 4) ?_
  refine V_aload_n Y.1 1 dX3_copyFrom_4 (rfl : _ = 5) rfl rfl ?_
  refine V_get Y.1 fi_X3_12 hN.1.1 rfl dX3_copyFrom_5 (rfl : _ = 8) ?_
  refine V_cV Y (rV Y (c_X2_copyFrom l D kA _ _ _ _ _ _ _ _ _ _ _ hK.1.2.1 hN.1.2.1 (by omega)) mi_X2_copyFrom vi_X3_25 rfl hK.1.2.1.1 rfl rfl (Nat.le_of_ble_eq_true rfl) ⟨Nat.le_of_ble_eq_true rfl, Nat.le_of_ble_eq_true rfl⟩ (Nat.le_of_ble_eq_true rfl) (Nat.le_of_ble_eq_true rfl) dX3_copyFrom_8) (fun q hq => Or.inl (blk_sub (by omega) (by omega) q hq)) (rfl : _ = 11) (fun H8_4 hq_8 o_8 => ?_)
  obtain ⟨hl, z8⟩ := hq_8
  have hN := hN.keep o_8 (fun q h1 h2 => by have := h1.1; have := h1.2; have := h2.1; have := h2.2; omega) (fun q h1 h2 => hK.2.2 q h1 ⟨by have := h2.1; omega, by have := h2.2; omega⟩)
  have hK : Mk D kA _ m (((upd (upd M.1 7 (M1.1 7)) 8 (M1.1 8)), M1.2.1, M1.2.2.1, M.2.2.2) : MS) _ _ := hK.line o_8 _ _ (upd (upd M.1 7 (M1.1 7)) 8 (M1.1 8)) hl (fun q hq => by rw [show (upd (upd M.1 7 (M1.1 7)) 8 (M1.1 8)) q = upd M.1 7 (M1.1 7) q from if_neg (by omega), show upd M.1 7 (M1.1 7) q = M.1 q from if_neg (by omega)])
  have sz : Array.size H8_4 = H0.size := z8.trans sz
  refine V_aload_n Y.1 0 dX3_copyFrom_11 (rfl : _ = 12) rfl rfl ?_
  refine V_aload_n Y.1 1 dX3_copyFrom_12 (rfl : _ = 13) rfl rfl ?_
  refine V_get Y.1 fi_X3_29 hN.1.1 rfl dX3_copyFrom_13 (rfl : _ = 16) ?_
  refine V_put Y.1 fi_X3_29 fw_X3 rfl rfl hK.1.1 (Or.inl ⟨by omega, by omega⟩) rfl rfl (Nat.le_of_ble_eq_true rfl) dX3_copyFrom_16 (rfl : _ = 19) (fun H16_12 h_new o_16 => ?_)
  have hN := hN.keep (o_16.off (F := blk m 1) ⟨by omega, by omega⟩) (fun q h1 h2 => by have := h1.1; have := h1.2; have := h2.1; have := h2.2; omega) (fun q h1 h2 => hK.2.2 q h1 ⟨by have := h2.1; omega, by have := h2.2; omega⟩)
  have hK : Mk D kA _ m ((upd (upd (upd M.1 7 (M1.1 7)) 8 (M1.1 8)) 0 (M1.1 0)), (((upd (upd M.1 7 (M1.1 7)) 8 (M1.1 8)), M1.2.1, M1.2.2.1, M.2.2.2) : MS).2) _ _ := hK.g o_16 (upd (upd (upd M.1 7 (M1.1 7)) 8 (M1.1 8)) 0 (M1.1 0)) h_new rfl rfl
  have sz : Array.size H16_12 = H0.size := o_16.1.trans sz
  clear h_new
  refine V_iconst Y.1 (v := 0) dX3_copyFrom_19 (rfl : _ = 20) (by decide) ?_
  refine V_istore_n Y.1 (ls' := [(2, _), (0, _), (1, _)]) dX3_copyFrom_20 (rfl : _ = 21) rfl (by decide) rfl ?_
  obtain ⟨B, eB⟩ : ∃ z : MS, z = (upd (upd (upd M.1 7 (M1.1 7)) 8 (M1.1 8)) 0 (M1.1 0), M1.2.1, M1.2.2.1, M.2.2.2) := ⟨_, rfl⟩
  have hK : Mk D kA H16_12 m B E ES := by rw [eB]; exact hK
  have hB0 : B.1 0 = nI n := by rw [eB]; exact hn
  have hB7 : B.1 7 = M1.1 7 := by rw [eB]; rfl
  have hB8 : B.1 8 = M1.1 8 := by rw [eB]; rfl
  have hB2 : B.2.1 = M1.2.1 ∧ B.2.2.1 = M1.2.2.1 ∧ B.2.2.2 = M.2.2.2 := by rw [eB]; exact ⟨rfl, rfl, rfl⟩
  have e45 : ∀ k, (m_cp B M1 k).2.2.2 = (m_cp M M1 k).2.2.2 := by
    intro k
    induction k with
    | zero => exact hB2.2.2
    | succ k ih => show (m_set (m_cp B M1 k) k _ _).2.2.2 = (m_set (m_cp M M1 k) k _ _).2.2.2; unfold m_set; rw [ih]
  clear eB
  have lp : ∀ (n9 j : Nat) (H : Heap) (E : Nat → Option Nat), j + n9 = n → Mk D kA H m (m_cp B M1 j) E ES → Mk D kA H m1 M1 E1 ES → H.size = H0.size → V Pp l Ee (rmO 2 69 0 0) Ss Mm Ar Bl Me Cc 3 (AA H0 (blk m 29)) (QC Bl Ar Ss 0 0 H0 (blk m 29) (pV fun H => Mc D kA H m (m_copy M M1 n) ES ∧ H.size = H0.size)) H 0 0 21 [(2, .int (nI j)), (0, .ref m), (1, .ref m1)] [] := by
    intro n9
    induction n9 with
    | zero =>
      intro j H E hjn hK hN sz
      obtain ⟨b1, b2, b3⟩ := m_cp_123 B M1 j
      refine V_iload_n Y.1 0 dX3_copyFrom_21 (rfl : _ = 22) rfl rfl ?_
      refine V_aload_n Y.1 1 dX3_copyFrom_22 (rfl : _ = 23) rfl rfl ?_
      refine V_get Y.1 fi_X3_29 hK.1.1 rfl dX3_copyFrom_23 (rfl : _ = 26) ?_
      refine V_nm (v := nI n) (by rw [b1]; exact hB0) ?_
      refine V_icmp_ge Y.1 (tgt := 56) dX3_copyFrom_26 (by decide) (rfl : _ = 29) (fun _ => ?_) (fun c_n => absurd (by simp (disch := omega) only [Int32.lt_iff_toInt_lt, Int32.le_iff_toInt_le, ge_iff_le, gt_iff_lt, nI_toInt, Int32.reduceToInt] ; omega) c_n)
      refine V_aload_n Y.1 1 dX3_copyFrom_56 (rfl : _ = 57) rfl rfl ?_
      refine V_aload_n Y.1 2 dX3_copyFrom_57 (rfl : _ = 58) rfl rfl ?_
      refine V_get Y.1 fi_X3_36 hN.1.1 rfl dX3_copyFrom_58 (rfl : _ = 61) ?_
      refine V_put Y.1 fi_X3_36 fw_X3 rfl rfl hK.1.1 (Or.inl ⟨by omega, by omega⟩) rfl rfl (Nat.le_of_ble_eq_true rfl) dX3_copyFrom_61 (rfl : _ = 64) (fun H61_8 h_new o_61 => ?_)
      have hN := hN.keep (o_61.off (F := blk m 1) ⟨by omega, by omega⟩) (fun q h1 h2 => by have := h1.1; have := h1.2; have := h2.1; have := h2.2; omega) (fun q h1 h2 => hK.2.2 q h1 ⟨by have := h2.1; omega, by have := h2.2; omega⟩)
      have hK : Mk D kA _ m ((upd (m_cp B M1 j).1 1 (M1.1 1)), (m_cp B M1 j).2) _ _ := hK.g o_61 (upd (m_cp B M1 j).1 1 (M1.1 1)) h_new rfl rfl
      have sz : Array.size H61_8 = H0.size := o_61.1.trans sz
      clear h_new
      refine V_aload_n Y.1 1 dX3_copyFrom_64 (rfl : _ = 65) rfl rfl ?_
      refine V_aload_n Y.1 2 dX3_copyFrom_65 (rfl : _ = 66) rfl rfl ?_
      refine V_get Y.1 fi_X3_39 hN.1.1 rfl dX3_copyFrom_66 (rfl : _ = 69) ?_
      refine V_put Y.1 fi_X3_39 fw_X3 rfl rfl hK.1.1 (Or.inl ⟨by omega, by omega⟩) rfl rfl (Nat.le_of_ble_eq_true rfl) dX3_copyFrom_69 (rfl : _ = 72) (fun H69_16 h_new o_69 => ?_)
      have hN := hN.keep (o_69.off (F := blk m 1) ⟨by omega, by omega⟩) (fun q h1 h2 => by have := h1.1; have := h1.2; have := h2.1; have := h2.2; omega) (fun q h1 h2 => hK.2.2 q h1 ⟨by have := h2.1; omega, by have := h2.2; omega⟩)
      have hK : Mk D kA _ m ((upd (upd (m_cp B M1 j).1 1 (M1.1 1)) 2 (M1.1 2)), ((upd (m_cp B M1 j).1 1 (M1.1 1)), (m_cp B M1 j).2).2) _ _ := hK.g o_69 (upd (upd (m_cp B M1 j).1 1 (M1.1 1)) 2 (M1.1 2)) h_new rfl rfl
      have sz : Array.size H69_16 = H0.size := o_69.1.trans sz
      clear h_new
      refine V_aload_n Y.1 1 dX3_copyFrom_72 (rfl : _ = 73) rfl rfl ?_
      refine V_aload_n Y.1 2 dX3_copyFrom_73 (rfl : _ = 74) rfl rfl ?_
      refine V_get Y.1 fi_X3_42 hN.1.1 rfl dX3_copyFrom_74 (rfl : _ = 77) ?_
      refine V_put Y.1 fi_X3_42 fw_X3 rfl rfl hK.1.1 (Or.inl ⟨by omega, by omega⟩) rfl rfl (Nat.le_of_ble_eq_true rfl) dX3_copyFrom_77 (rfl : _ = 80) (fun H77_24 h_new o_77 => ?_)
      have hN := hN.keep (o_77.off (F := blk m 1) ⟨by omega, by omega⟩) (fun q h1 h2 => by have := h1.1; have := h1.2; have := h2.1; have := h2.2; omega) (fun q h1 h2 => hK.2.2 q h1 ⟨by have := h2.1; omega, by have := h2.2; omega⟩)
      have hK : Mk D kA _ m ((upd (upd (upd (m_cp B M1 j).1 1 (M1.1 1)) 2 (M1.1 2)) 3 (M1.1 3)), ((upd (upd (m_cp B M1 j).1 1 (M1.1 1)) 2 (M1.1 2)), ((upd (m_cp B M1 j).1 1 (M1.1 1)), (m_cp B M1 j).2).2).2) _ _ := hK.g o_77 (upd (upd (upd (m_cp B M1 j).1 1 (M1.1 1)) 2 (M1.1 2)) 3 (M1.1 3)) h_new rfl rfl
      have sz : Array.size H77_24 = H0.size := o_77.1.trans sz
      clear h_new
      refine V_aload_n Y.1 1 dX3_copyFrom_80 (rfl : _ = 81) rfl rfl ?_
      refine V_aload_n Y.1 2 dX3_copyFrom_81 (rfl : _ = 82) rfl rfl ?_
      refine V_get Y.1 fi_X3_45 hN.1.1 rfl dX3_copyFrom_82 (rfl : _ = 85) ?_
      refine V_put Y.1 fi_X3_45 fw_X3 rfl rfl hK.1.1 (Or.inl ⟨by omega, by omega⟩) rfl rfl (Nat.le_of_ble_eq_true rfl) dX3_copyFrom_85 (rfl : _ = 88) (fun H85_32 h_new o_85 => ?_)
      have hN := hN.keep (o_85.off (F := blk m 1) ⟨by omega, by omega⟩) (fun q h1 h2 => by have := h1.1; have := h1.2; have := h2.1; have := h2.2; omega) (fun q h1 h2 => hK.2.2 q h1 ⟨by have := h2.1; omega, by have := h2.2; omega⟩)
      have hK : Mk D kA _ m ((upd (upd (upd (upd (m_cp B M1 j).1 1 (M1.1 1)) 2 (M1.1 2)) 3 (M1.1 3)) 4 (M1.1 4)), ((upd (upd (upd (m_cp B M1 j).1 1 (M1.1 1)) 2 (M1.1 2)) 3 (M1.1 3)), ((upd (upd (m_cp B M1 j).1 1 (M1.1 1)) 2 (M1.1 2)), ((upd (m_cp B M1 j).1 1 (M1.1 1)), (m_cp B M1 j).2).2).2).2) _ _ := hK.g o_85 (upd (upd (upd (upd (m_cp B M1 j).1 1 (M1.1 1)) 2 (M1.1 2)) 3 (M1.1 3)) 4 (M1.1 4)) h_new rfl rfl
      have sz : Array.size H85_32 = H0.size := o_85.1.trans sz
      clear h_new
      refine V_aload_n Y.1 1 dX3_copyFrom_88 (rfl : _ = 89) rfl rfl ?_
      refine V_aload_n Y.1 2 dX3_copyFrom_89 (rfl : _ = 90) rfl rfl ?_
      refine V_get Y.1 fi_X3_48 hN.1.1 rfl dX3_copyFrom_90 (rfl : _ = 93) ?_
      refine V_put Y.1 fi_X3_48 fw_X3 rfl rfl hK.1.1 (Or.inl ⟨by omega, by omega⟩) rfl rfl (Nat.le_of_ble_eq_true rfl) dX3_copyFrom_93 (rfl : _ = 96) (fun H93_40 h_new o_93 => ?_)
      have hN := hN.keep (o_93.off (F := blk m 1) ⟨by omega, by omega⟩) (fun q h1 h2 => by have := h1.1; have := h1.2; have := h2.1; have := h2.2; omega) (fun q h1 h2 => hK.2.2 q h1 ⟨by have := h2.1; omega, by have := h2.2; omega⟩)
      have hK : Mk D kA _ m ((upd (upd (upd (upd (upd (m_cp B M1 j).1 1 (M1.1 1)) 2 (M1.1 2)) 3 (M1.1 3)) 4 (M1.1 4)) 5 (M1.1 5)), ((upd (upd (upd (upd (m_cp B M1 j).1 1 (M1.1 1)) 2 (M1.1 2)) 3 (M1.1 3)) 4 (M1.1 4)), ((upd (upd (upd (m_cp B M1 j).1 1 (M1.1 1)) 2 (M1.1 2)) 3 (M1.1 3)), ((upd (upd (m_cp B M1 j).1 1 (M1.1 1)) 2 (M1.1 2)), ((upd (m_cp B M1 j).1 1 (M1.1 1)), (m_cp B M1 j).2).2).2).2).2) _ _ := hK.g o_93 (upd (upd (upd (upd (upd (m_cp B M1 j).1 1 (M1.1 1)) 2 (M1.1 2)) 3 (M1.1 3)) 4 (M1.1 4)) 5 (M1.1 5)) h_new rfl rfl
      have sz : Array.size H93_40 = H0.size := o_93.1.trans sz
      clear h_new
      refine V_aload_n Y.1 1 dX3_copyFrom_96 (rfl : _ = 97) rfl rfl ?_
      refine V_aload_n Y.1 2 dX3_copyFrom_97 (rfl : _ = 98) rfl rfl ?_
      refine V_get Y.1 fi_X3_51 hN.1.1 rfl dX3_copyFrom_98 (rfl : _ = 101) ?_
      refine V_put Y.1 fi_X3_51 fw_X3 rfl rfl hK.1.1 (Or.inl ⟨by omega, by omega⟩) rfl rfl (Nat.le_of_ble_eq_true rfl) dX3_copyFrom_101 (rfl : _ = 104) (fun H101_48 h_new o_101 => ?_)
      have hN := hN.keep (o_101.off (F := blk m 1) ⟨by omega, by omega⟩) (fun q h1 h2 => by have := h1.1; have := h1.2; have := h2.1; have := h2.2; omega) (fun q h1 h2 => hK.2.2 q h1 ⟨by have := h2.1; omega, by have := h2.2; omega⟩)
      have hK : Mk D kA _ m ((upd (upd (upd (upd (upd (upd (m_cp B M1 j).1 1 (M1.1 1)) 2 (M1.1 2)) 3 (M1.1 3)) 4 (M1.1 4)) 5 (M1.1 5)) 6 (M1.1 6)), ((upd (upd (upd (upd (upd (m_cp B M1 j).1 1 (M1.1 1)) 2 (M1.1 2)) 3 (M1.1 3)) 4 (M1.1 4)) 5 (M1.1 5)), ((upd (upd (upd (upd (m_cp B M1 j).1 1 (M1.1 1)) 2 (M1.1 2)) 3 (M1.1 3)) 4 (M1.1 4)), ((upd (upd (upd (m_cp B M1 j).1 1 (M1.1 1)) 2 (M1.1 2)) 3 (M1.1 3)), ((upd (upd (m_cp B M1 j).1 1 (M1.1 1)) 2 (M1.1 2)), ((upd (m_cp B M1 j).1 1 (M1.1 1)), (m_cp B M1 j).2).2).2).2).2).2) _ _ := hK.g o_101 (upd (upd (upd (upd (upd (upd (m_cp B M1 j).1 1 (M1.1 1)) 2 (M1.1 2)) 3 (M1.1 3)) 4 (M1.1 4)) 5 (M1.1 5)) 6 (M1.1 6)) h_new rfl rfl
      have sz : Array.size H101_48 = H0.size := o_101.1.trans sz
      clear h_new
      exact V_retV Y.1 dX3_copyFrom_104 (Nat.le_of_ble_eq_true rfl) (Nat.le_of_ble_eq_true rfl) ⟨⟨_, by
      have e9 : mF m (upd (upd (upd (upd (upd (upd (m_cp B M1 j).1 1 (M1.1 1)) 2 (M1.1 2)) 3 (M1.1 3)) 4 (M1.1 4)) 5 (M1.1 5)) 6 (M1.1 6)) = mF m M1.1 := by
        have q0 : (m_cp B M1 j).1 0 = M1.1 0 := by rw [b1, hB0, hn]
        unfold mF
        rw [show (upd (upd (upd (upd (upd (upd (m_cp B M1 j).1 1 (M1.1 1)) 2 (M1.1 2)) 3 (M1.1 3)) 4 (M1.1 4)) 5 (M1.1 5)) 6 (M1.1 6)) 0 = M1.1 0 from q0]
        rfl
      refine ⟨⟨by rw [show (m_copy M M1 n).1 = M1.1 from rfl, ← e9]; exact hK.1.1, ?_, hK.1.2.2.1, fun i hi => ?_⟩, fun i hi => ?_, hK.2.2⟩
      · have h9 := hK.1.2.1
        rw [show ((upd (upd (upd (upd (upd (upd (m_cp B M1 j).1 1 (M1.1 1)) 2 (M1.1 2)) 3 (M1.1 3)) 4 (M1.1 4)) 5 (M1.1 5)) 6 (M1.1 6)), (m_cp B M1 j).2).1 7 = M1.1 7 from (by rw [← hB7, ← b1]; rfl), show ((upd (upd (upd (upd (upd (upd (m_cp B M1 j).1 1 (M1.1 1)) 2 (M1.1 2)) 3 (M1.1 3)) 4 (M1.1 4)) 5 (M1.1 5)) 6 (M1.1 6)), (m_cp B M1 j).2).1 8 = M1.1 8 from (by rw [← hB8, ← b1]; rfl)] at h9
        have q1 : (m_cp B M1 j).2.1 = M1.2.1 := by rw [b2, hB2.1]
        have q2 : (m_cp B M1 j).2.2.1 = M1.2.2.1 := by rw [b3, hB2.2.1]
        show Ln D kA _ (m + 1) M1.2.1 M1.2.2.1 (M1.1 7) (M1.1 8)
        rw [← q1, ← q2]
        exact h9
      · have h9 := hK.1.2.2.2 i hi
        show Cd D kA _ _ ((m_cp M M1 n).2.2.2.1 i) _
        rw [show n = j by omega, ← e45]
        exact h9
      · have h9 := hK.2.1 i hi
        show Chn D _ ES _ ((m_cp M M1 n).2.2.2.2 i)
        rw [show n = j by omega, ← e45]
        exact h9⟩, sz⟩
    | succ n9 ih =>
      intro j H E hjn hK hN sz
      obtain ⟨b1, b2, b3⟩ := m_cp_123 B M1 j
      refine V_iload_n Y.1 0 dX3_copyFrom_21 (rfl : _ = 22) rfl rfl ?_
      refine V_aload_n Y.1 1 dX3_copyFrom_22 (rfl : _ = 23) rfl rfl ?_
      refine V_get Y.1 fi_X3_29 hK.1.1 rfl dX3_copyFrom_23 (rfl : _ = 26) ?_
      refine V_nm (v := nI n) (by rw [b1]; exact hB0) ?_
      refine V_icmp_ge Y.1 (tgt := 56) dX3_copyFrom_26 (by decide) (rfl : _ = 29) (fun c_n => absurd c_n (by simp (disch := omega) only [Int32.lt_iff_toInt_lt, Int32.le_iff_toInt_le, ge_iff_le, gt_iff_lt, nI_toInt, Int32.reduceToInt] ; omega)) (fun _ => ?_)
      refine V_iload_n Y.1 0 dX3_copyFrom_29 (rfl : _ = 30) rfl rfl ?_
      refine V_bipush Y.1 (v := 8) dX3_copyFrom_30 (rfl : _ = 32) (by decide) ?_
      refine V_icmp_ge Y.1 (tgt := 56) dX3_copyFrom_32 (by decide) (rfl : _ = 35) (fun c_n => absurd c_n (by simp (disch := omega) only [Int32.lt_iff_toInt_lt, Int32.le_iff_toInt_le, ge_iff_le, gt_iff_lt, nI_toInt, Int32.reduceToInt] ; omega)) (fun _ => ?_)
      refine V_aload_n Y.1 1 dX3_copyFrom_35 (rfl : _ = 36) rfl rfl ?_
      refine V_get Y.1 fi_X3_20 hK.1.1 rfl dX3_copyFrom_36 (rfl : _ = 39) ?_
      refine V_iload_n Y.1 0 dX3_copyFrom_39 (rfl : _ = 40) rfl rfl ?_
      refine V_aldK Y.1 (v := m_ca m j) hK.1.2.2.1 (by first | assumption | exact vp_in_nI (by omega) (by omega)) (by rw [nI_clamp (by omega)]) dX3_copyFrom_40 (rfl : _ = 41) ?_
      refine V_aload_n Y.1 2 dX3_copyFrom_41 (rfl : _ = 42) rfl rfl ?_
      refine V_get Y.1 fi_X3_20 hN.1.1 rfl dX3_copyFrom_42 (rfl : _ = 45) ?_
      refine V_iload_n Y.1 0 dX3_copyFrom_45 (rfl : _ = 46) rfl rfl ?_
      refine V_aldK Y.1 (v := m_ca m1 j) hN.1.2.2.1 (by first | assumption | exact vp_in_nI (by omega) (by omega)) (by rw [nI_clamp (by omega)]) dX3_copyFrom_46 (rfl : _ = 47) ?_
      refine V_cV Y (rV Y (c_X0_copyFrom l D kA _ _ _ _ _ _ _ (hK.1.2.2.2 j (by omega)) (hN.1.2.2.2 j (by omega)) (by unfold m_ca; omega) (hok j (by omega))) mi_X0_copyFrom vi_X3_33 rfl (hK.1.2.2.2 j (by omega)).1 rfl rfl (Nat.le_of_ble_eq_true rfl) ⟨Nat.le_of_ble_eq_true rfl, Nat.le_of_ble_eq_true rfl⟩ (Nat.le_of_ble_eq_true rfl) (Nat.le_of_ble_eq_true rfl) dX3_copyFrom_47) (fun q hq => Or.inl (blk_sub (by unfold m_ca; omega) (by unfold m_ca; omega) q hq)) (rfl : _ = 50) (fun H47_16 hq_47 o_47 => ?_)
      obtain ⟨hC, z47⟩ := hq_47
      have hb9 : ∀ q, blk (m_ca m j) 3 q → blk m 29 q := fun q hq => ⟨by have := hq.1; unfold m_ca at this; omega, by have := hq.2; unfold m_ca at this; omega⟩
      have hN := hN.keep o_47 (fun q h1 h2 => by have := h1.1; have := h1.2; have := (hb9 q h2).1; have := (hb9 q h2).2; omega) (fun q h1 h2 => hK.2.2 q h1 (hb9 q h2))
      have hK : Mk D kA _ m (m_cp B M1 (j + 1)) _ _ := hK.set (by omega) o_47 hC (hN.2.1 j (by omega))
      have sz : Array.size H47_16 = H0.size := z47.trans sz
      refine V_iinc Y.1 (v := nI (j + 1)) (ls' := [(2, _), (0, _), (1, _)]) 0 dX3_copyFrom_50 (rfl : _ = 53) rfl (nI_1 _) (by decide) rfl ?_
      refine V_goto Y.1 (tgt := 21) dX3_copyFrom_53 (by decide) ?_
      exact V_forget (ls' := [(2, _), (0, _), (1, _)]) [0, 1, 2] rfl (ih (j + 1) _ _ (by omega) hK hN sz)
  exact lp n 0 _ _ (by omega) hK hN sz
