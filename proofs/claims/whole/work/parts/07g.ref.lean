set_option maxRecDepth 100000 in
set_option maxHeartbeats 4000000 in
theorem c_X6_stationByTaps (l : Launch) (D : va_G) (kA : Nat → ClassId) (H0 : Heap) (o : Nat) (F s b v p u t c : Nat → Int32) (x : Int32) (hM : Rs D kA H0 o F s b v p u t c)  : Ct l D kA yX6_stationByTaps cX6_stationByTaps 8 (some .int) 2 42 0 0 H0 [.ref o, .int x] (blk o 8) (pI fun v9 H => v9 = (g_st s x).2 ∧ Rs D kA H o (upd F 6 (nI (g_st s x).1)) s b v p u t c) := by
  refine Ct.of mi_X6_stationByTaps (Nat.le_of_ble_eq_true rfl) (ls0 := [(0, _), (1, _)]) rfl ?_
  intro Pp Ee Ss Mm Ar Bl Me Cc Y hs hnm
  refine V_iconst Y.1 (v := 0) dX6_stationByTaps_0 (rfl : _ = 1) (by decide) ?_
  refine V_istore_n Y.1 (ls' := [(2, _), (0, _), (1, _)]) dX6_stationByTaps_1 (rfl : _ = 2) rfl (by decide) rfl ?_
  refine V_aload_n Y.1 1 dX6_stationByTaps_2 (rfl : _ = 3) rfl rfl ?_
  refine V_iload_n Y.1 2 dX6_stationByTaps_3 (rfl : _ = 4) rfl rfl ?_
  refine V_cP Y (rS Y (c_X6_isStation l D kA _ _) mi_X6_isStation si_X6_120 rfl rfl (Nat.le_of_ble_eq_true rfl) ⟨Nat.le_of_ble_eq_true rfl, Nat.le_of_ble_eq_true rfl⟩ (Nat.le_of_ble_eq_true rfl) (Nat.le_of_ble_eq_true rfl) dX6_stationByTaps_4) (rfl : _ = 7) ?_
  refine V_cI Y (rV Y (c_X6_isThere l D kA _ _ _ _ _ _ _ _ _ _ _ hM (r_in_01 _ _ _)) mi_X6_isThere vi_X6_149 rfl hM.1 rfl rfl (Nat.le_of_ble_eq_true rfl) ⟨Nat.le_of_ble_eq_true rfl, Nat.le_of_ble_eq_true rfl⟩ (Nat.le_of_ble_eq_true rfl) (Nat.le_of_ble_eq_true rfl) dX6_stationByTaps_7) (fun q hq => Or.inl (blk_sub (by omega) (by omega) q hq)) (rfl : _ = 10) (fun v_7 H7_5 hq_7 o_7 => ?_)
  obtain ⟨rfl, hM⟩ := hq_7
  refine V_istore_n Y.1 (ls' := [(3, _), (2, _), (0, _), (1, _)]) dX6_stationByTaps_10 (rfl : _ = 11) rfl (by decide) rfl ?_
  by_cases hz : r_in x 0 11 = 0
  · rw [hz] at hM
    have hM := Rs.z (z := 1) hM
    refine V_iconst Y.1 (v := 0) dX6_stationByTaps_11 (rfl : _ = 12) (by decide) ?_
    refine V_istore Y.1 (ls' := [(4, _), (3, _), (2, _), (0, _), (1, _)]) dX6_stationByTaps_12 (rfl : _ = 14) (by decide) rfl ?_
    refine V_iload Y.1 0 dX6_stationByTaps_14 (rfl : _ = 16) rfl ?_
    refine V_bipush Y.1 (v := 12) dX6_stationByTaps_16 (rfl : _ = 18) (by decide) ?_
    refine V_icmp_ge Y.1 (tgt := 113) dX6_stationByTaps_18 (by decide) (rfl : _ = 21) (fun c_n => absurd c_n (by decide)) (fun _ => ?_)
    refine V_iload_n Y.1 1 dX6_stationByTaps_21 (rfl : _ = 22) rfl rfl ?_
    refine V_if_eq Y.1 (tgt := 113) dX6_stationByTaps_22 (by decide) (rfl : _ = 25) (fun _ => ?_) (fun c_n => absurd hz c_n)
    refine V_iload_n Y.1 2 dX6_stationByTaps_113 (rfl : _ = 114) rfl rfl ?_
    exact V_ret Y.1 dX6_stationByTaps_114 rfl (Nat.le_of_ble_eq_true rfl) (Nat.le_of_ble_eq_true rfl) (g_e rfl hM (by unfold g_st; rw [if_pos hz]))
  · have c1 := (r_in_01 _ _ _).resolve_left hz
    rw [c1] at hM
    have hM := Rs.z (z := 0) hM
    obtain ⟨j, hj, rfl⟩ := r_in_st hz
    have ej : (nI j).toNatClampNeg = j := nI_clamp (by omega)
    have lp : ∀ (r k : Nat), k + r = 12 → V Pp l Ee (rmO 2 42 0 0) Ss Mm Ar Bl Me Cc 8 (AA H0 (blk o 8)) (QC Bl Ar Ss 0 0 H0 (blk o 8) (pI fun v9 H => v9 = (g_st s (nI j)).2 ∧ Rs D kA H o (upd F 6 (nI (g_st s (nI j)).1)) s b v p u t c)) H7_5 0 0 14 [(4, .int (nI k)), (3, .int (r_in (nI j) 0 11)), (2, .int (nI (r_fnd (fun i => r_rkT s i 12) j k))), (0, .ref o), (1, .int (nI j))] [] := by
      intro r
      induction r with
      | zero =>
        intro k hk
        obtain rfl : k = 12 := by omega
        refine V_iload Y.1 0 dX6_stationByTaps_14 (rfl : _ = 16) rfl ?_
        refine V_bipush Y.1 (v := 12) dX6_stationByTaps_16 (rfl : _ = 18) (by decide) ?_
        refine V_icmp_ge Y.1 (tgt := 113) dX6_stationByTaps_18 (by decide) (rfl : _ = 21) (fun _ => ?_) (fun c_n => absurd (by simp (disch := omega) only [Int32.lt_iff_toInt_lt, Int32.le_iff_toInt_le, ge_iff_le, gt_iff_lt, nI_toInt, Int32.reduceToInt] ; omega) c_n)
        refine V_iload_n Y.1 2 dX6_stationByTaps_113 (rfl : _ = 114) rfl rfl ?_
        exact V_ret Y.1 dX6_stationByTaps_114 rfl (Nat.le_of_ble_eq_true rfl) (Nat.le_of_ble_eq_true rfl) (g_e rfl hM (by unfold g_st; rw [if_neg hz, ej]))
      | succ r ih =>
        intro k hk
        refine V_iload Y.1 0 dX6_stationByTaps_14 (rfl : _ = 16) rfl ?_
        refine V_bipush Y.1 (v := 12) dX6_stationByTaps_16 (rfl : _ = 18) (by decide) ?_
        refine V_icmp_ge Y.1 (tgt := 113) dX6_stationByTaps_18 (by decide) (rfl : _ = 21) (fun c_n => absurd c_n (by simp (disch := omega) only [Int32.lt_iff_toInt_lt, Int32.le_iff_toInt_le, ge_iff_le, gt_iff_lt, nI_toInt, Int32.reduceToInt] ; omega)) (fun _ => ?_)
        refine V_iload_n Y.1 1 dX6_stationByTaps_21 (rfl : _ = 22) rfl rfl ?_
        refine V_if_eq Y.1 (tgt := 113) dX6_stationByTaps_22 (by decide) (rfl : _ = 25) (fun c_n => absurd c_n hz) (fun _ => ?_)
        refine V_iconst Y.1 (v := 0) dX6_stationByTaps_25 (rfl : _ = 26) (by decide) ?_
        refine V_istore Y.1 (ls' := [(5, _), (4, _), (3, _), (2, _), (0, _), (1, _)]) dX6_stationByTaps_26 (rfl : _ = 28) (by decide) rfl ?_
        refine V_iconst Y.1 (v := 0) dX6_stationByTaps_28 (rfl : _ = 29) (by decide) ?_
        refine V_istore Y.1 (ls' := [(6, _), (5, _), (4, _), (3, _), (2, _), (0, _), (1, _)]) dX6_stationByTaps_29 (rfl : _ = 31) (by decide) rfl ?_
        have lq : ∀ (r2 m : Nat), m + r2 = 12 → V Pp l Ee (rmO 2 42 0 0) Ss Mm Ar Bl Me Cc 8 (AA H0 (blk o 8)) (QC Bl Ar Ss 0 0 H0 (blk o 8) (pI fun v9 H => v9 = (g_st s (nI j)).2 ∧ Rs D kA H o (upd F 6 (nI (g_st s (nI j)).1)) s b v p u t c)) H7_5 0 0 31 [(6, .int (nI m)), (5, .int (nI (r_rkT s k m))), (4, .int (nI k)), (3, .int (r_in (nI j) 0 11)), (2, .int (nI (r_fnd (fun i => r_rkT s i 12) j k))), (0, .ref o), (1, .int (nI j))] [] := by
          intro r2
          induction r2 with
          | zero =>
            intro m hm
            obtain rfl : m = 12 := by omega
            have hle := r_rkT_le s k 12
            refine V_iload Y.1 0 dX6_stationByTaps_31 (rfl : _ = 33) rfl ?_
            refine V_bipush Y.1 (v := 12) dX6_stationByTaps_33 (rfl : _ = 35) (by decide) ?_
            refine V_icmp_ge Y.1 (tgt := 94) dX6_stationByTaps_35 (by decide) (rfl : _ = 38) (fun _ => ?_) (fun c_n => absurd (by simp (disch := omega) only [Int32.lt_iff_toInt_lt, Int32.le_iff_toInt_le, ge_iff_le, gt_iff_lt, nI_toInt, Int32.reduceToInt] ; omega) c_n)
            refine V_iload Y.1 1 dX6_stationByTaps_94 (rfl : _ = 96) rfl ?_
            refine V_iload_n Y.1 6 dX6_stationByTaps_96 (rfl : _ = 97) rfl rfl ?_
            refine V_icmp_ne Y.1 (tgt := 105) dX6_stationByTaps_97 (by decide) (rfl : _ = 100) (fun c_97 => ?_) (fun c_97 => ?_)
            · refine V_iload_n Y.1 4 dX6_stationByTaps_105 (rfl : _ = 106) rfl rfl ?_
              refine V_istore_n Y.1 (ls' := [(2, _), (6, _), (5, _), (4, _), (3, _), (0, _), (1, _)]) dX6_stationByTaps_106 (rfl : _ = 107) rfl (by decide) rfl ?_
              refine V_iinc Y.1 (v := nI (k + 1)) (ls' := [(4, _), (2, _), (6, _), (5, _), (3, _), (0, _), (1, _)]) 3 dX6_stationByTaps_107 (rfl : _ = 110) rfl (nI_1 _) (by decide) rfl ?_
              refine V_goto Y.1 (tgt := 14) dX6_stationByTaps_110 (by decide) ?_
              exact V_forget (ls' := [(4, _), (3, _), (2, _), (0, _), (1, _)]) [0, 4, 1, 5, 6] rfl (by have e9 : r_fnd (fun i => r_rkT s i 12) j (k + 1) = _ := if_neg (fun q => c_97 (by rw [show r_rkT s k 12 = j from q])); have g := ih (k + 1) (by omega); rw [e9] at g; exact g)
            · refine V_iload Y.1 2 dX6_stationByTaps_100 (rfl : _ = 102) rfl ?_
              refine V_goto Y.1 (tgt := 106) dX6_stationByTaps_102 (by decide) ?_
              refine V_istore_n Y.1 (ls' := [(2, _), (6, _), (5, _), (4, _), (3, _), (0, _), (1, _)]) dX6_stationByTaps_106 (rfl : _ = 107) rfl (by decide) rfl ?_
              refine V_iinc Y.1 (v := nI (k + 1)) (ls' := [(4, _), (2, _), (6, _), (5, _), (3, _), (0, _), (1, _)]) 3 dX6_stationByTaps_107 (rfl : _ = 110) rfl (nI_1 _) (by decide) rfl ?_
              refine V_goto Y.1 (tgt := 14) dX6_stationByTaps_110 (by decide) ?_
              exact V_forget (ls' := [(4, _), (3, _), (2, _), (0, _), (1, _)]) [0, 4, 1, 5, 6] rfl (by have e9 : r_fnd (fun i => r_rkT s i 12) j (k + 1) = _ := if_pos ((nI_eq (by omega) (by omega)).mp c_97); have g := ih (k + 1) (by omega); rw [e9] at g; exact g)
          | succ r2 iq =>
            intro m hm
            refine V_iload Y.1 0 dX6_stationByTaps_31 (rfl : _ = 33) rfl ?_
            refine V_bipush Y.1 (v := 12) dX6_stationByTaps_33 (rfl : _ = 35) (by decide) ?_
            refine V_icmp_ge Y.1 (tgt := 94) dX6_stationByTaps_35 (by decide) (rfl : _ = 38) (fun c_n => absurd c_n (by simp (disch := omega) only [Int32.lt_iff_toInt_lt, Int32.le_iff_toInt_le, ge_iff_le, gt_iff_lt, nI_toInt, Int32.reduceToInt] ; omega)) (fun _ => ?_)
            refine V_aload_n Y.1 5 dX6_stationByTaps_38 (rfl : _ = 39) rfl rfl ?_
            refine V_get Y.1 fi_X6_9 hM.1 rfl dX6_stationByTaps_39 (rfl : _ = 42) ?_
            refine V_bipush Y.1 (v := 21) dX6_stationByTaps_42 (rfl : _ = 44) (by decide) ?_
            refine V_iload Y.1 0 dX6_stationByTaps_44 (rfl : _ = 46) rfl ?_
            refine V_iadd Y.1 dX6_stationByTaps_46 (rfl : _ = 47) ?_
            refine V_nm (v := nI (21 + m)) (nI_add _ _) ?_
            refine V_iald Y.1 (v := s (21 + m)) hM.2.1 (by first | assumption | exact vp_in_nI (by omega) (by omega)) (by rw [nI_clamp (by omega)]) dX6_stationByTaps_47 (rfl : _ = 48) ?_
            refine V_aload_n Y.1 5 dX6_stationByTaps_48 (rfl : _ = 49) rfl rfl ?_
            refine V_get Y.1 fi_X6_9 hM.1 rfl dX6_stationByTaps_49 (rfl : _ = 52) ?_
            refine V_bipush Y.1 (v := 21) dX6_stationByTaps_52 (rfl : _ = 54) (by decide) ?_
            refine V_iload Y.1 2 dX6_stationByTaps_54 (rfl : _ = 56) rfl ?_
            refine V_iadd Y.1 dX6_stationByTaps_56 (rfl : _ = 57) ?_
            refine V_nm (v := nI (21 + k)) (nI_add _ _) ?_
            refine V_iald Y.1 (v := s (21 + k)) hM.2.1 (by first | assumption | exact vp_in_nI (by omega) (by omega)) (by rw [nI_clamp (by omega)]) dX6_stationByTaps_57 (rfl : _ = 58) ?_
            refine V_isub Y.1 dX6_stationByTaps_58 (rfl : _ = 59) ?_
            refine V_istore Y.1 (ls' := [(7, _), (6, _), (5, _), (4, _), (3, _), (2, _), (0, _), (1, _)]) dX6_stationByTaps_59 (rfl : _ = 61) (by decide) rfl ?_
            refine V_iload Y.1 2 dX6_stationByTaps_61 (rfl : _ = 63) rfl ?_
            refine V_iload Y.1 0 dX6_stationByTaps_63 (rfl : _ = 65) rfl ?_
            refine V_if_gt Y.1 (tgt := 80) dX6_stationByTaps_65 (by decide) (rfl : _ = 68) (fun c_65 => ?_) (fun c_65 => ?_)
            · refine V_iconst Y.1 (v := 1) dX6_stationByTaps_80 (rfl : _ = 81) (by decide) ?_
              refine V_goto Y.1 (tgt := 85) dX6_stationByTaps_81 (by decide) ?_
              refine V_iadd Y.1 dX6_stationByTaps_85 (rfl : _ = 86) ?_
              refine V_nm (v := nI (r_rkT s k m + 1)) (nI_1 _) ?_
              refine V_istore Y.1 (ls' := [(5, _), (7, _), (6, _), (4, _), (3, _), (2, _), (0, _), (1, _)]) dX6_stationByTaps_86 (rfl : _ = 88) (by decide) rfl ?_
              refine V_iinc Y.1 (v := nI (m + 1)) (ls' := [(6, _), (5, _), (7, _), (4, _), (3, _), (2, _), (0, _), (1, _)]) 2 dX6_stationByTaps_88 (rfl : _ = 91) rfl (nI_1 _) (by decide) rfl ?_
              refine V_goto Y.1 (tgt := 31) dX6_stationByTaps_91 (by decide) ?_
              exact V_forget (ls' := [(6, _), (5, _), (4, _), (3, _), (2, _), (0, _), (1, _)]) [0, 1, 3, 4, 5, 6, 7] rfl (by have e9 : r_rkT s k (m + 1) = _ := if_pos (Or.inl c_65); have g := iq (m + 1) (by omega); rw [e9] at g; exact g)
            · refine V_iload Y.1 0 dX6_stationByTaps_68 (rfl : _ = 70) rfl ?_
              refine V_if_ne Y.1 (tgt := 84) dX6_stationByTaps_70 (by decide) (rfl : _ = 73) (fun c_70 => ?_) (fun c_70 => ?_)
              · refine V_iconst Y.1 (v := 0) dX6_stationByTaps_84 (rfl : _ = 85) (by decide) ?_
                refine V_iadd Y.1 dX6_stationByTaps_85 (rfl : _ = 86) ?_
                refine V_nm (v := nI (r_rkT s k m)) (Int32.add_zero _) ?_
                refine V_istore Y.1 (ls' := [(5, _), (7, _), (6, _), (4, _), (3, _), (2, _), (0, _), (1, _)]) dX6_stationByTaps_86 (rfl : _ = 88) (by decide) rfl ?_
                refine V_iinc Y.1 (v := nI (m + 1)) (ls' := [(6, _), (5, _), (7, _), (4, _), (3, _), (2, _), (0, _), (1, _)]) 2 dX6_stationByTaps_88 (rfl : _ = 91) rfl (nI_1 _) (by decide) rfl ?_
                refine V_goto Y.1 (tgt := 31) dX6_stationByTaps_91 (by decide) ?_
                exact V_forget (ls' := [(6, _), (5, _), (4, _), (3, _), (2, _), (0, _), (1, _)]) [0, 1, 3, 4, 5, 6, 7] rfl (by have e9 : r_rkT s k (m + 1) = _ := if_neg (fun q => q.elim c_65 (fun q => c_70 q.1)); have g := iq (m + 1) (by omega); rw [e9] at g; exact g)
              · refine V_iload Y.1 1 dX6_stationByTaps_73 (rfl : _ = 75) rfl ?_
                refine V_iload Y.1 3 dX6_stationByTaps_75 (rfl : _ = 77) rfl ?_
                refine V_icmp_ge Y.1 (tgt := 84) dX6_stationByTaps_77 (by decide) (rfl : _ = 80) (fun c_77 => ?_) (fun c_77 => ?_)
                · refine V_iconst Y.1 (v := 0) dX6_stationByTaps_84 (rfl : _ = 85) (by decide) ?_
                  refine V_iadd Y.1 dX6_stationByTaps_85 (rfl : _ = 86) ?_
                  refine V_nm (v := nI (r_rkT s k m)) (Int32.add_zero _) ?_
                  refine V_istore Y.1 (ls' := [(5, _), (7, _), (6, _), (4, _), (3, _), (2, _), (0, _), (1, _)]) dX6_stationByTaps_86 (rfl : _ = 88) (by decide) rfl ?_
                  refine V_iinc Y.1 (v := nI (m + 1)) (ls' := [(6, _), (5, _), (7, _), (4, _), (3, _), (2, _), (0, _), (1, _)]) 2 dX6_stationByTaps_88 (rfl : _ = 91) rfl (nI_1 _) (by decide) rfl ?_
                  refine V_goto Y.1 (tgt := 31) dX6_stationByTaps_91 (by decide) ?_
                  exact V_forget (ls' := [(6, _), (5, _), (4, _), (3, _), (2, _), (0, _), (1, _)]) [0, 1, 3, 4, 5, 6, 7] rfl (by have e9 : r_rkT s k (m + 1) = _ := if_neg (fun q => q.elim c_65 (fun q => absurd q.2 (by rw [nI_leI (by omega) (by omega)] at c_77; omega))); have g := iq (m + 1) (by omega); rw [e9] at g; exact g)
                · refine V_iconst Y.1 (v := 1) dX6_stationByTaps_80 (rfl : _ = 81) (by decide) ?_
                  refine V_goto Y.1 (tgt := 85) dX6_stationByTaps_81 (by decide) ?_
                  refine V_iadd Y.1 dX6_stationByTaps_85 (rfl : _ = 86) ?_
                  refine V_nm (v := nI (r_rkT s k m + 1)) (nI_1 _) ?_
                  refine V_istore Y.1 (ls' := [(5, _), (7, _), (6, _), (4, _), (3, _), (2, _), (0, _), (1, _)]) dX6_stationByTaps_86 (rfl : _ = 88) (by decide) rfl ?_
                  refine V_iinc Y.1 (v := nI (m + 1)) (ls' := [(6, _), (5, _), (7, _), (4, _), (3, _), (2, _), (0, _), (1, _)]) 2 dX6_stationByTaps_88 (rfl : _ = 91) rfl (nI_1 _) (by decide) rfl ?_
                  refine V_goto Y.1 (tgt := 31) dX6_stationByTaps_91 (by decide) ?_
                  exact V_forget (ls' := [(6, _), (5, _), (4, _), (3, _), (2, _), (0, _), (1, _)]) [0, 1, 3, 4, 5, 6, 7] rfl (by have e9 : r_rkT s k (m + 1) = _ := if_pos (Or.inr ⟨c_70, (by rw [nI_leI (by omega) (by omega)] at c_77; omega)⟩); have g := iq (m + 1) (by omega); rw [e9] at g; exact g)
        exact lq 12 0 rfl
    refine V_iconst Y.1 (v := 0) dX6_stationByTaps_11 (rfl : _ = 12) (by decide) ?_
    refine V_istore Y.1 (ls' := [(4, _), (3, _), (2, _), (0, _), (1, _)]) dX6_stationByTaps_12 (rfl : _ = 14) (by decide) rfl ?_
    exact lp 12 0 rfl

set_option maxRecDepth 100000 in
set_option maxHeartbeats 4000000 in
theorem c_X6_cardBySpending (l : Launch) (D : va_G) (kA : Nat → ClassId) (H0 : Heap) (o : Nat) (F s b v p u t c : Nat → Int32) (n t0 : Nat) (x : Int32) (hM : Rs D kA H0 o F s b v p u t c) (hI : RI s n t0) : Ct l D kA yX6_cardBySpending cX6_cardBySpending 9 (some .int) 2 45 0 0 H0 [.ref o, .int x] (blk o 8) (pI fun v9 H => v9 = (g_ca s n (t0 / 1440) x).2 ∧ Rs D kA H o (upd F 6 (nI (g_ca s n (t0 / 1440) x).1)) s b v p u t c) := by
  refine Ct.of mi_X6_cardBySpending (Nat.le_of_ble_eq_true rfl) (ls0 := [(0, _), (1, _)]) rfl ?_
  intro Pp Ee Ss Mm Ar Bl Me Cc Y hs hnm
  refine V_iconst Y.1 (v := 0) dX6_cardBySpending_0 (rfl : _ = 1) (by decide) ?_
  refine V_istore_n Y.1 (ls' := [(2, _), (0, _), (1, _)]) dX6_cardBySpending_1 (rfl : _ = 2) rfl (by decide) rfl ?_
  refine V_aload_n Y.1 1 dX6_cardBySpending_2 (rfl : _ = 3) rfl rfl ?_
  refine V_aload_n Y.1 1 dX6_cardBySpending_3 (rfl : _ = 4) rfl rfl ?_
  refine V_iload_n Y.1 2 dX6_cardBySpending_4 (rfl : _ = 5) rfl rfl ?_
  refine V_cP Y (rV Y (c_X6_isCard l D kA _ _ _ _ _ _ _ _ _ _ _ hM) mi_X6_isCard vi_X6_113 rfl hM.1 rfl rfl (Nat.le_of_ble_eq_true rfl) ⟨Nat.le_of_ble_eq_true rfl, Nat.le_of_ble_eq_true rfl⟩ (Nat.le_of_ble_eq_true rfl) (Nat.le_of_ble_eq_true rfl) dX6_cardBySpending_5) (rfl : _ = 8) ?_
  refine V_cI Y (rV Y (c_X6_isThere l D kA _ _ _ _ _ _ _ _ _ _ _ hM (r_in_01 _ _ _)) mi_X6_isThere vi_X6_149 rfl hM.1 rfl rfl (Nat.le_of_ble_eq_true rfl) ⟨Nat.le_of_ble_eq_true rfl, Nat.le_of_ble_eq_true rfl⟩ (Nat.le_of_ble_eq_true rfl) (Nat.le_of_ble_eq_true rfl) dX6_cardBySpending_8) (fun q hq => Or.inl (blk_sub (by omega) (by omega) q hq)) (rfl : _ = 11) (fun v_8 H8_6 hq_8 o_8 => ?_)
  obtain ⟨rfl, hM⟩ := hq_8
  refine V_istore_n Y.1 (ls' := [(3, _), (2, _), (0, _), (1, _)]) dX6_cardBySpending_11 (rfl : _ = 12) rfl (by decide) rfl ?_
  by_cases hz : r_in x 0 (s 0 - 1) = 0
  · rw [hz] at hM
    have hM := Rs.z (z := 1) hM
    refine V_iconst Y.1 (v := 0) dX6_cardBySpending_12 (rfl : _ = 13) (by decide) ?_
    refine V_istore Y.1 (ls' := [(4, _), (3, _), (2, _), (0, _), (1, _)]) dX6_cardBySpending_13 (rfl : _ = 15) (by decide) rfl ?_
    refine V_iload Y.1 0 dX6_cardBySpending_15 (rfl : _ = 17) rfl ?_
    refine V_aload_n Y.1 3 dX6_cardBySpending_17 (rfl : _ = 18) rfl rfl ?_
    refine V_get Y.1 fi_X6_9 hM.1 rfl dX6_cardBySpending_18 (rfl : _ = 21) ?_
    refine V_iconst Y.1 (v := 0) dX6_cardBySpending_21 (rfl : _ = 22) (by decide) ?_
    refine V_iald Y.1 (v := s 0) hM.2.1 (by unfold vp_in; decide) rfl dX6_cardBySpending_22 (rfl : _ = 23) ?_
    refine V_icmp_ge Y.1 (tgt := 149) dX6_cardBySpending_23 (by decide) (rfl : _ = 26) (fun c_23 => ?_) (fun c_23 => ?_)
    · refine V_iload_n Y.1 2 dX6_cardBySpending_149 (rfl : _ = 150) rfl rfl ?_
      exact V_ret Y.1 dX6_cardBySpending_150 rfl (Nat.le_of_ble_eq_true rfl) (Nat.le_of_ble_eq_true rfl) (g_e rfl hM (by unfold g_ca; rw [if_pos hz]))
    · refine V_iload_n Y.1 1 dX6_cardBySpending_26 (rfl : _ = 27) rfl rfl ?_
      refine V_if_eq Y.1 (tgt := 149) dX6_cardBySpending_27 (by decide) (rfl : _ = 30) (fun _ => ?_) (fun c_n => absurd hz c_n)
      refine V_iload_n Y.1 2 dX6_cardBySpending_149 (rfl : _ = 150) rfl rfl ?_
      exact V_ret Y.1 dX6_cardBySpending_150 rfl (Nat.le_of_ble_eq_true rfl) (Nat.le_of_ble_eq_true rfl) (g_e rfl hM (by unfold g_ca; rw [if_pos hz]))
  · have c1 := (r_in_01 _ _ _).resolve_left hz
    rw [c1] at hM
    have hM := Rs.z (z := 0) hM
    obtain ⟨j, hj, rfl⟩ := r_in_ca hI.1 hI.2.1 hz
    have h8 := hI.2.1
    have hd := hI.d
    have ej : (nI j).toNatClampNeg = j := nI_clamp (by omega)
    have lp : ∀ (r k : Nat), k + r = n → V Pp l Ee (rmO 2 45 0 0) Ss Mm Ar Bl Me Cc 9 (AA H0 (blk o 8)) (QC Bl Ar Ss 0 0 H0 (blk o 8) (pI fun v9 H => v9 = (g_ca s n (t0 / 1440) (nI j)).2 ∧ Rs D kA H o (upd F 6 (nI (g_ca s n (t0 / 1440) (nI j)).1)) s b v p u t c)) H8_6 0 0 15 [(4, .int (nI k)), (3, .int (r_in (nI j) 0 (s 0 - 1))), (2, .int (nI (r_fnd (fun i => r_rkC s (t0 / 1440) i n) j k))), (0, .ref o), (1, .int (nI j))] [] := by
      intro r
      induction r with
      | zero =>
        intro k hk
        obtain rfl : k = n := by omega
        refine V_iload Y.1 0 dX6_cardBySpending_15 (rfl : _ = 17) rfl ?_
        refine V_aload_n Y.1 3 dX6_cardBySpending_17 (rfl : _ = 18) rfl rfl ?_
        refine V_get Y.1 fi_X6_9 hM.1 rfl dX6_cardBySpending_18 (rfl : _ = 21) ?_
        refine V_iconst Y.1 (v := 0) dX6_cardBySpending_21 (rfl : _ = 22) (by decide) ?_
        refine V_iald Y.1 (v := nI k) hM.2.1 (by unfold vp_in; decide) hI.1 dX6_cardBySpending_22 (rfl : _ = 23) ?_
        refine V_icmp_ge Y.1 (tgt := 149) dX6_cardBySpending_23 (by decide) (rfl : _ = 26) (fun _ => ?_) (fun c_n => absurd (by simp (disch := omega) only [Int32.lt_iff_toInt_lt, Int32.le_iff_toInt_le, ge_iff_le, gt_iff_lt, nI_toInt, Int32.reduceToInt] ; omega) c_n)
        refine V_iload_n Y.1 2 dX6_cardBySpending_149 (rfl : _ = 150) rfl rfl ?_
        exact V_ret Y.1 dX6_cardBySpending_150 rfl (Nat.le_of_ble_eq_true rfl) (Nat.le_of_ble_eq_true rfl) (g_e rfl hM (by unfold g_ca; rw [if_neg hz, ej]))
      | succ r ih =>
        intro k hk
        refine V_iload Y.1 0 dX6_cardBySpending_15 (rfl : _ = 17) rfl ?_
        refine V_aload_n Y.1 3 dX6_cardBySpending_17 (rfl : _ = 18) rfl rfl ?_
        refine V_get Y.1 fi_X6_9 hM.1 rfl dX6_cardBySpending_18 (rfl : _ = 21) ?_
        refine V_iconst Y.1 (v := 0) dX6_cardBySpending_21 (rfl : _ = 22) (by decide) ?_
        refine V_iald Y.1 (v := nI n) hM.2.1 (by unfold vp_in; decide) hI.1 dX6_cardBySpending_22 (rfl : _ = 23) ?_
        refine V_icmp_ge Y.1 (tgt := 149) dX6_cardBySpending_23 (by decide) (rfl : _ = 26) (fun c_n => absurd c_n (by simp (disch := omega) only [Int32.lt_iff_toInt_lt, Int32.le_iff_toInt_le, ge_iff_le, gt_iff_lt, nI_toInt, Int32.reduceToInt] ; omega)) (fun _ => ?_)
        refine V_iload_n Y.1 1 dX6_cardBySpending_26 (rfl : _ = 27) rfl rfl ?_
        refine V_if_eq Y.1 (tgt := 149) dX6_cardBySpending_27 (by decide) (rfl : _ = 30) (fun c_n => absurd c_n hz) (fun _ => ?_)
        refine V_iconst Y.1 (v := 0) dX6_cardBySpending_30 (rfl : _ = 31) (by decide) ?_
        refine V_istore Y.1 (ls' := [(5, _), (4, _), (3, _), (2, _), (0, _), (1, _)]) dX6_cardBySpending_31 (rfl : _ = 33) (by decide) rfl ?_
        refine V_iconst Y.1 (v := 0) dX6_cardBySpending_33 (rfl : _ = 34) (by decide) ?_
        refine V_istore Y.1 (ls' := [(6, _), (5, _), (4, _), (3, _), (2, _), (0, _), (1, _)]) dX6_cardBySpending_34 (rfl : _ = 36) (by decide) rfl ?_
        have lq : ∀ (r2 m : Nat), m + r2 = n → V Pp l Ee (rmO 2 45 0 0) Ss Mm Ar Bl Me Cc 9 (AA H0 (blk o 8)) (QC Bl Ar Ss 0 0 H0 (blk o 8) (pI fun v9 H => v9 = (g_ca s n (t0 / 1440) (nI j)).2 ∧ Rs D kA H o (upd F 6 (nI (g_ca s n (t0 / 1440) (nI j)).1)) s b v p u t c)) H8_6 0 0 36 [(6, .int (nI m)), (5, .int (nI (r_rkC s (t0 / 1440) k m))), (4, .int (nI k)), (3, .int (r_in (nI j) 0 (s 0 - 1))), (2, .int (nI (r_fnd (fun i => r_rkC s (t0 / 1440) i n) j k))), (0, .ref o), (1, .int (nI j))] [] := by
          intro r2
          induction r2 with
          | zero =>
            intro m hm
            obtain rfl : m = n := by omega
            have hle := r_rkC_le s (t0 / 1440) k m
            refine V_iload Y.1 0 dX6_cardBySpending_36 (rfl : _ = 38) rfl ?_
            refine V_aload_n Y.1 5 dX6_cardBySpending_38 (rfl : _ = 39) rfl rfl ?_
            refine V_get Y.1 fi_X6_9 hM.1 rfl dX6_cardBySpending_39 (rfl : _ = 42) ?_
            refine V_iconst Y.1 (v := 0) dX6_cardBySpending_42 (rfl : _ = 43) (by decide) ?_
            refine V_iald Y.1 (v := nI m) hM.2.1 (by unfold vp_in; decide) hI.1 dX6_cardBySpending_43 (rfl : _ = 44) ?_
            refine V_icmp_ge Y.1 (tgt := 130) dX6_cardBySpending_44 (by decide) (rfl : _ = 47) (fun _ => ?_) (fun c_n => absurd (by simp (disch := omega) only [Int32.lt_iff_toInt_lt, Int32.le_iff_toInt_le, ge_iff_le, gt_iff_lt, nI_toInt, Int32.reduceToInt] ; omega) c_n)
            refine V_iload Y.1 1 dX6_cardBySpending_130 (rfl : _ = 132) rfl ?_
            refine V_iload_n Y.1 6 dX6_cardBySpending_132 (rfl : _ = 133) rfl rfl ?_
            refine V_icmp_ne Y.1 (tgt := 141) dX6_cardBySpending_133 (by decide) (rfl : _ = 136) (fun c_133 => ?_) (fun c_133 => ?_)
            · refine V_iload_n Y.1 4 dX6_cardBySpending_141 (rfl : _ = 142) rfl rfl ?_
              refine V_istore_n Y.1 (ls' := [(2, _), (6, _), (5, _), (4, _), (3, _), (0, _), (1, _)]) dX6_cardBySpending_142 (rfl : _ = 143) rfl (by decide) rfl ?_
              refine V_iinc Y.1 (v := nI (k + 1)) (ls' := [(4, _), (2, _), (6, _), (5, _), (3, _), (0, _), (1, _)]) 3 dX6_cardBySpending_143 (rfl : _ = 146) rfl (nI_1 _) (by decide) rfl ?_
              refine V_goto Y.1 (tgt := 15) dX6_cardBySpending_146 (by decide) ?_
              exact V_forget (ls' := [(4, _), (3, _), (2, _), (0, _), (1, _)]) [0, 4, 1, 5, 6] rfl (by have e9 : r_fnd (fun i => r_rkC s (t0 / 1440) i m) j (k + 1) = _ := if_neg (fun q => c_133 (by rw [show r_rkC s (t0 / 1440) k _ = j from q])); have g := ih (k + 1) (by omega); rw [e9] at g; exact g)
            · refine V_iload Y.1 2 dX6_cardBySpending_136 (rfl : _ = 138) rfl ?_
              refine V_goto Y.1 (tgt := 142) dX6_cardBySpending_138 (by decide) ?_
              refine V_istore_n Y.1 (ls' := [(2, _), (6, _), (5, _), (4, _), (3, _), (0, _), (1, _)]) dX6_cardBySpending_142 (rfl : _ = 143) rfl (by decide) rfl ?_
              refine V_iinc Y.1 (v := nI (k + 1)) (ls' := [(4, _), (2, _), (6, _), (5, _), (3, _), (0, _), (1, _)]) 3 dX6_cardBySpending_143 (rfl : _ = 146) rfl (nI_1 _) (by decide) rfl ?_
              refine V_goto Y.1 (tgt := 15) dX6_cardBySpending_146 (by decide) ?_
              exact V_forget (ls' := [(4, _), (3, _), (2, _), (0, _), (1, _)]) [0, 4, 1, 5, 6] rfl (by have e9 : r_fnd (fun i => r_rkC s (t0 / 1440) i m) j (k + 1) = _ := if_pos ((nI_eq (by omega) (by omega)).mp c_133); have g := ih (k + 1) (by omega); rw [e9] at g; exact g)
          | succ r2 iq =>
            intro m hm
            refine V_iload Y.1 0 dX6_cardBySpending_36 (rfl : _ = 38) rfl ?_
            refine V_aload_n Y.1 5 dX6_cardBySpending_38 (rfl : _ = 39) rfl rfl ?_
            refine V_get Y.1 fi_X6_9 hM.1 rfl dX6_cardBySpending_39 (rfl : _ = 42) ?_
            refine V_iconst Y.1 (v := 0) dX6_cardBySpending_42 (rfl : _ = 43) (by decide) ?_
            refine V_iald Y.1 (v := nI n) hM.2.1 (by unfold vp_in; decide) hI.1 dX6_cardBySpending_43 (rfl : _ = 44) ?_
            refine V_icmp_ge Y.1 (tgt := 130) dX6_cardBySpending_44 (by decide) (rfl : _ = 47) (fun c_n => absurd c_n (by simp (disch := omega) only [Int32.lt_iff_toInt_lt, Int32.le_iff_toInt_le, ge_iff_le, gt_iff_lt, nI_toInt, Int32.reduceToInt] ; omega)) (fun _ => ?_)
            refine V_aload_n Y.1 5 dX6_cardBySpending_47 (rfl : _ = 48) rfl rfl ?_
            refine V_iload Y.1 0 dX6_cardBySpending_48 (rfl : _ = 50) rfl ?_
            refine V_aload_n Y.1 5 dX6_cardBySpending_50 (rfl : _ = 51) rfl rfl ?_
            refine V_cP Y (rV Y (c_X6_today l D kA _ _ _ _ _ _ _ _ _ _  hM) mi_X6_today vi_X6_81 rfl hM.1 rfl rfl (Nat.le_of_ble_eq_true rfl) ⟨Nat.le_of_ble_eq_true rfl, Nat.le_of_ble_eq_true rfl⟩ (Nat.le_of_ble_eq_true rfl) (Nat.le_of_ble_eq_true rfl) dX6_cardBySpending_51) (rfl : _ = 54) ?_
            refine V_nm (v := nI (t0 / 1440)) hI.day ?_
            refine V_cP Y (rV Y (c_X6_sumOn l D kA _ _ _ _ _ _ _ _ _ _ m (by omega) (t0 / 1440) hd hM) mi_X6_sumOn vi_X6_70 rfl hM.1 rfl rfl (Nat.le_of_ble_eq_true rfl) ⟨Nat.le_of_ble_eq_true rfl, Nat.le_of_ble_eq_true rfl⟩ (Nat.le_of_ble_eq_true rfl) (Nat.le_of_ble_eq_true rfl) dX6_cardBySpending_54) (rfl : _ = 57) ?_
            refine V_aload_n Y.1 5 dX6_cardBySpending_57 (rfl : _ = 58) rfl rfl ?_
            refine V_iload Y.1 2 dX6_cardBySpending_58 (rfl : _ = 60) rfl ?_
            refine V_aload_n Y.1 5 dX6_cardBySpending_60 (rfl : _ = 61) rfl rfl ?_
            refine V_cP Y (rV Y (c_X6_today l D kA _ _ _ _ _ _ _ _ _ _  hM) mi_X6_today vi_X6_81 rfl hM.1 rfl rfl (Nat.le_of_ble_eq_true rfl) ⟨Nat.le_of_ble_eq_true rfl, Nat.le_of_ble_eq_true rfl⟩ (Nat.le_of_ble_eq_true rfl) (Nat.le_of_ble_eq_true rfl) dX6_cardBySpending_61) (rfl : _ = 64) ?_
            refine V_nm (v := nI (t0 / 1440)) hI.day ?_
            refine V_cP Y (rV Y (c_X6_sumOn l D kA _ _ _ _ _ _ _ _ _ _ k (by omega) (t0 / 1440) hd hM) mi_X6_sumOn vi_X6_70 rfl hM.1 rfl rfl (Nat.le_of_ble_eq_true rfl) ⟨Nat.le_of_ble_eq_true rfl, Nat.le_of_ble_eq_true rfl⟩ (Nat.le_of_ble_eq_true rfl) (Nat.le_of_ble_eq_true rfl) dX6_cardBySpending_64) (rfl : _ = 67) ?_
            refine V_isub Y.1 dX6_cardBySpending_67 (rfl : _ = 68) ?_
            refine V_istore Y.1 (ls' := [(7, _), (6, _), (5, _), (4, _), (3, _), (2, _), (0, _), (1, _)]) dX6_cardBySpending_68 (rfl : _ = 70) (by decide) rfl ?_
            refine V_aload_n Y.1 6 dX6_cardBySpending_70 (rfl : _ = 71) rfl rfl ?_
            refine V_iload Y.1 3 dX6_cardBySpending_71 (rfl : _ = 73) rfl ?_
            refine V_iconst Y.1 (v := 1) dX6_cardBySpending_73 (rfl : _ = 74) (by decide) ?_
            refine V_cP Y (rV Y (c_X6_of l D kA _ _ _ _ _ _ _ _ _ _ k (by omega) 1 (by decide) hM) mi_X6_of vi_X6_67 rfl hM.1 rfl rfl (Nat.le_of_ble_eq_true rfl) ⟨Nat.le_of_ble_eq_true rfl, Nat.le_of_ble_eq_true rfl⟩ (Nat.le_of_ble_eq_true rfl) (Nat.le_of_ble_eq_true rfl) dX6_cardBySpending_74) (rfl : _ = 77) ?_
            refine V_aload_n Y.1 6 dX6_cardBySpending_77 (rfl : _ = 78) rfl rfl ?_
            refine V_iload Y.1 1 dX6_cardBySpending_78 (rfl : _ = 80) rfl ?_
            refine V_iconst Y.1 (v := 1) dX6_cardBySpending_80 (rfl : _ = 81) (by decide) ?_
            refine V_cP Y (rV Y (c_X6_of l D kA _ _ _ _ _ _ _ _ _ _ m (by omega) 1 (by decide) hM) mi_X6_of vi_X6_67 rfl hM.1 rfl rfl (Nat.le_of_ble_eq_true rfl) ⟨Nat.le_of_ble_eq_true rfl, Nat.le_of_ble_eq_true rfl⟩ (Nat.le_of_ble_eq_true rfl) (Nat.le_of_ble_eq_true rfl) dX6_cardBySpending_81) (rfl : _ = 84) ?_
            refine V_isub Y.1 dX6_cardBySpending_84 (rfl : _ = 85) ?_
            refine V_istore Y.1 (ls' := [(8, _), (7, _), (6, _), (5, _), (4, _), (3, _), (2, _), (0, _), (1, _)]) dX6_cardBySpending_85 (rfl : _ = 87) (by decide) rfl ?_
            refine V_iload Y.1 3 dX6_cardBySpending_87 (rfl : _ = 89) rfl ?_
            refine V_iload Y.1 1 dX6_cardBySpending_89 (rfl : _ = 91) rfl ?_
            refine V_if_gt Y.1 (tgt := 116) dX6_cardBySpending_91 (by decide) (rfl : _ = 94) (fun c_91 => ?_) (fun c_91 => ?_)
            · refine V_iconst Y.1 (v := 1) dX6_cardBySpending_116 (rfl : _ = 117) (by decide) ?_
              refine V_goto Y.1 (tgt := 121) dX6_cardBySpending_117 (by decide) ?_
              refine V_iadd Y.1 dX6_cardBySpending_121 (rfl : _ = 122) ?_
              refine V_nm (v := nI (r_rkC s (t0 / 1440) k m + 1)) (nI_1 _) ?_
              refine V_istore Y.1 (ls' := [(5, _), (8, _), (7, _), (6, _), (4, _), (3, _), (2, _), (0, _), (1, _)]) dX6_cardBySpending_122 (rfl : _ = 124) (by decide) rfl ?_
              refine V_iinc Y.1 (v := nI (m + 1)) (ls' := [(6, _), (5, _), (8, _), (7, _), (4, _), (3, _), (2, _), (0, _), (1, _)]) 3 dX6_cardBySpending_124 (rfl : _ = 127) rfl (nI_1 _) (by decide) rfl ?_
              refine V_goto Y.1 (tgt := 36) dX6_cardBySpending_127 (by decide) ?_
              exact V_forget (ls' := [(6, _), (5, _), (4, _), (3, _), (2, _), (0, _), (1, _)]) [0, 1, 4, 5, 6, 7, 8] rfl (by have e9 : r_rkC s (t0 / 1440) k (m + 1) = _ := if_pos (Or.inl c_91); have g := iq (m + 1) (by omega); rw [e9] at g; exact g)
            · refine V_iload Y.1 1 dX6_cardBySpending_94 (rfl : _ = 96) rfl ?_
              refine V_if_ne Y.1 (tgt := 120) dX6_cardBySpending_96 (by decide) (rfl : _ = 99) (fun c_96 => ?_) (fun c_96 => ?_)
              · refine V_iconst Y.1 (v := 0) dX6_cardBySpending_120 (rfl : _ = 121) (by decide) ?_
                refine V_iadd Y.1 dX6_cardBySpending_121 (rfl : _ = 122) ?_
                refine V_nm (v := nI (r_rkC s (t0 / 1440) k m)) (Int32.add_zero _) ?_
                refine V_istore Y.1 (ls' := [(5, _), (8, _), (7, _), (6, _), (4, _), (3, _), (2, _), (0, _), (1, _)]) dX6_cardBySpending_122 (rfl : _ = 124) (by decide) rfl ?_
                refine V_iinc Y.1 (v := nI (m + 1)) (ls' := [(6, _), (5, _), (8, _), (7, _), (4, _), (3, _), (2, _), (0, _), (1, _)]) 3 dX6_cardBySpending_124 (rfl : _ = 127) rfl (nI_1 _) (by decide) rfl ?_
                refine V_goto Y.1 (tgt := 36) dX6_cardBySpending_127 (by decide) ?_
                exact V_forget (ls' := [(6, _), (5, _), (4, _), (3, _), (2, _), (0, _), (1, _)]) [0, 1, 4, 5, 6, 7, 8] rfl (by have e9 : r_rkC s (t0 / 1440) k (m + 1) = _ := if_neg (fun q => q.elim c_91 (fun q => c_96 q.1)); have g := iq (m + 1) (by omega); rw [e9] at g; exact g)
              · refine V_iload Y.1 0 dX6_cardBySpending_99 (rfl : _ = 101) rfl ?_
                refine V_if_gt Y.1 (tgt := 116) dX6_cardBySpending_101 (by decide) (rfl : _ = 104) (fun c_101 => ?_) (fun c_101 => ?_)
                · refine V_iconst Y.1 (v := 1) dX6_cardBySpending_116 (rfl : _ = 117) (by decide) ?_
                  refine V_goto Y.1 (tgt := 121) dX6_cardBySpending_117 (by decide) ?_
                  refine V_iadd Y.1 dX6_cardBySpending_121 (rfl : _ = 122) ?_
                  refine V_nm (v := nI (r_rkC s (t0 / 1440) k m + 1)) (nI_1 _) ?_
                  refine V_istore Y.1 (ls' := [(5, _), (8, _), (7, _), (6, _), (4, _), (3, _), (2, _), (0, _), (1, _)]) dX6_cardBySpending_122 (rfl : _ = 124) (by decide) rfl ?_
                  refine V_iinc Y.1 (v := nI (m + 1)) (ls' := [(6, _), (5, _), (8, _), (7, _), (4, _), (3, _), (2, _), (0, _), (1, _)]) 3 dX6_cardBySpending_124 (rfl : _ = 127) rfl (nI_1 _) (by decide) rfl ?_
                  refine V_goto Y.1 (tgt := 36) dX6_cardBySpending_127 (by decide) ?_
                  exact V_forget (ls' := [(6, _), (5, _), (4, _), (3, _), (2, _), (0, _), (1, _)]) [0, 1, 4, 5, 6, 7, 8] rfl (by have e9 : r_rkC s (t0 / 1440) k (m + 1) = _ := if_pos (Or.inr ⟨c_96, Or.inl c_101⟩); have g := iq (m + 1) (by omega); rw [e9] at g; exact g)
                · refine V_iload Y.1 0 dX6_cardBySpending_104 (rfl : _ = 106) rfl ?_
                  refine V_if_ne Y.1 (tgt := 120) dX6_cardBySpending_106 (by decide) (rfl : _ = 109) (fun c_106 => ?_) (fun c_106 => ?_)
                  · refine V_iconst Y.1 (v := 0) dX6_cardBySpending_120 (rfl : _ = 121) (by decide) ?_
                    refine V_iadd Y.1 dX6_cardBySpending_121 (rfl : _ = 122) ?_
                    refine V_nm (v := nI (r_rkC s (t0 / 1440) k m)) (Int32.add_zero _) ?_
                    refine V_istore Y.1 (ls' := [(5, _), (8, _), (7, _), (6, _), (4, _), (3, _), (2, _), (0, _), (1, _)]) dX6_cardBySpending_122 (rfl : _ = 124) (by decide) rfl ?_
                    refine V_iinc Y.1 (v := nI (m + 1)) (ls' := [(6, _), (5, _), (8, _), (7, _), (4, _), (3, _), (2, _), (0, _), (1, _)]) 3 dX6_cardBySpending_124 (rfl : _ = 127) rfl (nI_1 _) (by decide) rfl ?_
                    refine V_goto Y.1 (tgt := 36) dX6_cardBySpending_127 (by decide) ?_
                    exact V_forget (ls' := [(6, _), (5, _), (4, _), (3, _), (2, _), (0, _), (1, _)]) [0, 1, 4, 5, 6, 7, 8] rfl (by have e9 : r_rkC s (t0 / 1440) k (m + 1) = _ := if_neg (fun q => q.elim c_91 (fun q => q.2.elim c_101 (fun q => c_106 q.1))); have g := iq (m + 1) (by omega); rw [e9] at g; exact g)
                  · refine V_iload Y.1 2 dX6_cardBySpending_109 (rfl : _ = 111) rfl ?_
                    refine V_iload Y.1 4 dX6_cardBySpending_111 (rfl : _ = 113) rfl ?_
                    refine V_icmp_ge Y.1 (tgt := 120) dX6_cardBySpending_113 (by decide) (rfl : _ = 116) (fun c_113 => ?_) (fun c_113 => ?_)
                    · refine V_iconst Y.1 (v := 0) dX6_cardBySpending_120 (rfl : _ = 121) (by decide) ?_
                      refine V_iadd Y.1 dX6_cardBySpending_121 (rfl : _ = 122) ?_
                      refine V_nm (v := nI (r_rkC s (t0 / 1440) k m)) (Int32.add_zero _) ?_
                      refine V_istore Y.1 (ls' := [(5, _), (8, _), (7, _), (6, _), (4, _), (3, _), (2, _), (0, _), (1, _)]) dX6_cardBySpending_122 (rfl : _ = 124) (by decide) rfl ?_
                      refine V_iinc Y.1 (v := nI (m + 1)) (ls' := [(6, _), (5, _), (8, _), (7, _), (4, _), (3, _), (2, _), (0, _), (1, _)]) 3 dX6_cardBySpending_124 (rfl : _ = 127) rfl (nI_1 _) (by decide) rfl ?_
                      refine V_goto Y.1 (tgt := 36) dX6_cardBySpending_127 (by decide) ?_
                      exact V_forget (ls' := [(6, _), (5, _), (4, _), (3, _), (2, _), (0, _), (1, _)]) [0, 1, 4, 5, 6, 7, 8] rfl (by have e9 : r_rkC s (t0 / 1440) k (m + 1) = _ := if_neg (fun q => q.elim c_91 (fun q => q.2.elim c_101 (fun q => absurd q.2 (by rw [nI_leI (by omega) (by omega)] at c_113; omega)))); have g := iq (m + 1) (by omega); rw [e9] at g; exact g)
                    · refine V_iconst Y.1 (v := 1) dX6_cardBySpending_116 (rfl : _ = 117) (by decide) ?_
                      refine V_goto Y.1 (tgt := 121) dX6_cardBySpending_117 (by decide) ?_
                      refine V_iadd Y.1 dX6_cardBySpending_121 (rfl : _ = 122) ?_
                      refine V_nm (v := nI (r_rkC s (t0 / 1440) k m + 1)) (nI_1 _) ?_
                      refine V_istore Y.1 (ls' := [(5, _), (8, _), (7, _), (6, _), (4, _), (3, _), (2, _), (0, _), (1, _)]) dX6_cardBySpending_122 (rfl : _ = 124) (by decide) rfl ?_
                      refine V_iinc Y.1 (v := nI (m + 1)) (ls' := [(6, _), (5, _), (8, _), (7, _), (4, _), (3, _), (2, _), (0, _), (1, _)]) 3 dX6_cardBySpending_124 (rfl : _ = 127) rfl (nI_1 _) (by decide) rfl ?_
                      refine V_goto Y.1 (tgt := 36) dX6_cardBySpending_127 (by decide) ?_
                      exact V_forget (ls' := [(6, _), (5, _), (4, _), (3, _), (2, _), (0, _), (1, _)]) [0, 1, 4, 5, 6, 7, 8] rfl (by have e9 : r_rkC s (t0 / 1440) k (m + 1) = _ := if_pos (Or.inr ⟨c_96, Or.inr ⟨c_106, (by rw [nI_leI (by omega) (by omega)] at c_113; omega)⟩⟩); have g := iq (m + 1) (by omega); rw [e9] at g; exact g)
        exact lq n 0 (by omega)
    refine V_iconst Y.1 (v := 0) dX6_cardBySpending_12 (rfl : _ = 13) (by decide) ?_
    refine V_istore Y.1 (ls' := [(4, _), (3, _), (2, _), (0, _), (1, _)]) dX6_cardBySpending_13 (rfl : _ = 15) (by decide) rfl ?_
    exact lp n 0 (by omega)

set_option maxRecDepth 100000 in
set_option maxHeartbeats 4000000 in
theorem c_X6_save (l : Launch) (D : va_G) (kA : Nat → ClassId) (H0 : Heap) (o : Nat) (F s b v p u t c : Nat → Int32)  (hM : Rs D kA H0 o F s b v p u t c)  : Ct l D kA yX6_save cX6_save 1 (some .int) 1 48 0 0 H0 [.ref o] (blk o 8) (pI fun v9 H => v9 = s 0 ∧ Rs D kA H o (upd (upd F 6 0) 3 1) s b (s) p u t c) := by
  refine Ct.of mi_X6_save (Nat.le_of_ble_eq_true rfl) (ls0 := [(0, _)]) rfl ?_
  intro Pp Ee Ss Mm Ar Bl Me Cc Y hs hnm
  refine V_aload_n Y.1 0 dX6_save_0 (rfl : _ = 1) rfl rfl ?_
  refine V_iconst Y.1 (v := 0) dX6_save_1 (rfl : _ = 2) (by decide) ?_
  refine V_put Y.1 fi_X6_39 fw_X6 rfl rfl hM.1 (Or.inl ⟨by omega, by omega⟩) rfl rfl (Nat.le_of_ble_eq_true rfl) dX6_save_2 (rfl : _ = 5) (fun H2_2 h_new o_2 => ?_)
  have hM := hM.f6 o_2 h_new
  clear h_new
  refine V_aload_n Y.1 0 dX6_save_5 (rfl : _ = 6) rfl rfl ?_
  refine V_get Y.1 fi_X6_9 hM.1 rfl dX6_save_6 (rfl : _ = 9) ?_
  refine V_iconst Y.1 (v := 0) dX6_save_9 (rfl : _ = 10) (by decide) ?_
  refine V_aload_n Y.1 0 dX6_save_10 (rfl : _ = 11) rfl rfl ?_
  refine V_get Y.1 fi_X6_16 hM.1 rfl dX6_save_11 (rfl : _ = 14) ?_
  refine V_iconst Y.1 (v := 0) dX6_save_14 (rfl : _ = 15) (by decide) ?_
  refine V_sipush Y.1 (v := 169) dX6_save_15 (rfl : _ = 18) (by decide) ?_
  refine V_copy Y.1 aw_X6_42 (sp := 0) (dp := 0) (N := 169) hM.2.1 hM.2.2.2.1 rfl rfl (Or.inl ⟨by omega, by omega⟩) rfl rfl rfl (by omega) (by omega) (by omega) (by omega) (fun _ _ => rfl) (Nat.le_of_ble_eq_true rfl) (Nat.le_of_ble_eq_true rfl) dX6_save_18 (rfl : _ = 21) (fun H18_12 h_new o_18 => ?_)
  have h_new := h_new.cpy
  have hM := hM.a3 o_18 h_new
  clear h_new
  refine V_aload_n Y.1 0 dX6_save_21 (rfl : _ = 22) rfl rfl ?_
  refine V_iconst Y.1 (v := 1) dX6_save_22 (rfl : _ = 23) (by decide) ?_
  refine V_put Y.1 fi_X6_252 fw_X6 rfl rfl hM.1 (Or.inl ⟨by omega, by omega⟩) rfl rfl (Nat.le_of_ble_eq_true rfl) dX6_save_23 (rfl : _ = 26) (fun H23_18 h_new o_23 => ?_)
  have hM := hM.f3 o_23 h_new
  clear h_new
  refine V_aload_n Y.1 0 dX6_save_26 (rfl : _ = 27) rfl rfl ?_
  refine V_get Y.1 fi_X6_9 hM.1 rfl dX6_save_27 (rfl : _ = 30) ?_
  refine V_iconst Y.1 (v := 0) dX6_save_30 (rfl : _ = 31) (by decide) ?_
  refine V_iald Y.1 (v := s 0) hM.2.1 (by unfold vp_in; decide) rfl dX6_save_31 (rfl : _ = 32) ?_
  exact V_ret Y.1 dX6_save_32 rfl (Nat.le_of_ble_eq_true rfl) (Nat.le_of_ble_eq_true rfl) ⟨rfl, hM⟩

set_option maxRecDepth 100000 in
set_option maxHeartbeats 4000000 in
theorem c_X6_restore_n (l : Launch) (D : va_G) (kA : Nat → ClassId) (H0 : Heap) (o : Nat) (F s b v p u t c : Nat → Int32)  (hM : Rs D kA H0 o F s b v p u t c) (h3 : F 3 = 0) : Ct l D kA yX6_restore cX6_restore 1 (some .int) 1 48 0 0 H0 [.ref o] (blk o 8) (pI fun v9 H => v9 = 0 ∧ Rs D kA H o (upd F 6 1) s b v p u t c) := by
  refine Ct.of mi_X6_restore (Nat.le_of_ble_eq_true rfl) (ls0 := [(0, _)]) rfl ?_
  intro Pp Ee Ss Mm Ar Bl Me Cc Y hs hnm
  refine V_aload_n Y.1 0 dX6_restore_0 (rfl : _ = 1) rfl rfl ?_
  refine V_aload_n Y.1 0 dX6_restore_1 (rfl : _ = 2) rfl rfl ?_
  refine V_get Y.1 fi_X6_252 hM.1 rfl dX6_restore_2 (rfl : _ = 5) ?_
  refine V_if_eq Y.1 (tgt := 12) dX6_restore_5 (by decide) (rfl : _ = 8) (fun _ => ?_) (fun c_n => absurd h3 c_n)
  refine V_iconst Y.1 (v := 1) dX6_restore_12 (rfl : _ = 13) (by decide) ?_
  refine V_put Y.1 fi_X6_39 fw_X6 rfl rfl hM.1 (Or.inl ⟨by omega, by omega⟩) rfl rfl (Nat.le_of_ble_eq_true rfl) dX6_restore_13 (rfl : _ = 16) (fun H13_5 h_new o_13 => ?_)
  have hM := hM.f6 o_13 h_new
  clear h_new
  have hM := Rs.z (z := 1) hM
  refine V_aload_n Y.1 0 dX6_restore_16 (rfl : _ = 17) rfl rfl ?_
  refine V_get Y.1 fi_X6_39 hM.1 rfl dX6_restore_17 (rfl : _ = 20) ?_
  refine V_nm (v := 1) rfl ?_
  refine V_if_le Y.1 (tgt := 25) dX6_restore_20 (by decide) (rfl : _ = 23) (fun c_n => absurd c_n (by decide)) (fun _ => ?_)
  refine V_iconst Y.1 (v := 0) dX6_restore_23 (rfl : _ = 24) (by decide) ?_
  exact V_ret Y.1 dX6_restore_24 rfl (Nat.le_of_ble_eq_true rfl) (Nat.le_of_ble_eq_true rfl) ⟨rfl, hM⟩

set_option maxRecDepth 100000 in
set_option maxHeartbeats 4000000 in
theorem c_X6_restore_y (l : Launch) (D : va_G) (kA : Nat → ClassId) (H0 : Heap) (o : Nat) (F s b v p u t c : Nat → Int32)  (hM : Rs D kA H0 o F s b v p u t c) (h3 : F 3 = 1) : Ct l D kA yX6_restore cX6_restore 1 (some .int) 1 48 0 0 H0 [.ref o] (blk o 8) (pI fun v9 H => v9 = v 0 ∧ Rs D kA H o (upd (upd F 6 0) 5 0) (v) b v p u t c) := by
  refine Ct.of mi_X6_restore (Nat.le_of_ble_eq_true rfl) (ls0 := [(0, _)]) rfl ?_
  intro Pp Ee Ss Mm Ar Bl Me Cc Y hs hnm
  refine V_aload_n Y.1 0 dX6_restore_0 (rfl : _ = 1) rfl rfl ?_
  refine V_aload_n Y.1 0 dX6_restore_1 (rfl : _ = 2) rfl rfl ?_
  refine V_get Y.1 fi_X6_252 hM.1 rfl dX6_restore_2 (rfl : _ = 5) ?_
  refine V_if_eq Y.1 (tgt := 12) dX6_restore_5 (by decide) (rfl : _ = 8) (fun c_n => absurd c_n (by rw [h3]; decide)) (fun _ => ?_)
  refine V_iconst Y.1 (v := 0) dX6_restore_8 (rfl : _ = 9) (by decide) ?_
  refine V_goto Y.1 (tgt := 13) dX6_restore_9 (by decide) ?_
  refine V_put Y.1 fi_X6_39 fw_X6 rfl rfl hM.1 (Or.inl ⟨by omega, by omega⟩) rfl rfl (Nat.le_of_ble_eq_true rfl) dX6_restore_13 (rfl : _ = 16) (fun H13_6 h_new o_13 => ?_)
  have hM := hM.f6 o_13 h_new
  clear h_new
  have hM := Rs.z (z := 0) hM
  refine V_aload_n Y.1 0 dX6_restore_16 (rfl : _ = 17) rfl rfl ?_
  refine V_get Y.1 fi_X6_39 hM.1 rfl dX6_restore_17 (rfl : _ = 20) ?_
  refine V_nm (v := 0) rfl ?_
  refine V_if_le Y.1 (tgt := 25) dX6_restore_20 (by decide) (rfl : _ = 23) (fun _ => ?_) (fun c_n => absurd (by decide) c_n)
  refine V_aload_n Y.1 0 dX6_restore_25 (rfl : _ = 26) rfl rfl ?_
  refine V_get Y.1 fi_X6_16 hM.1 rfl dX6_restore_26 (rfl : _ = 29) ?_
  refine V_iconst Y.1 (v := 0) dX6_restore_29 (rfl : _ = 30) (by decide) ?_
  refine V_aload_n Y.1 0 dX6_restore_30 (rfl : _ = 31) rfl rfl ?_
  refine V_get Y.1 fi_X6_9 hM.1 rfl dX6_restore_31 (rfl : _ = 34) ?_
  refine V_iconst Y.1 (v := 0) dX6_restore_34 (rfl : _ = 35) (by decide) ?_
  refine V_sipush Y.1 (v := 169) dX6_restore_35 (rfl : _ = 38) (by decide) ?_
  refine V_copy Y.1 aw_X6_42 (sp := 0) (dp := 0) (N := 169) hM.2.2.2.1 hM.2.1 rfl rfl (Or.inl ⟨by omega, by omega⟩) rfl rfl rfl (by omega) (by omega) (by omega) (by omega) (fun _ _ => rfl) (Nat.le_of_ble_eq_true rfl) (Nat.le_of_ble_eq_true rfl) dX6_restore_38 (rfl : _ = 41) (fun H38_21 h_new o_38 => ?_)
  have h_new := h_new.cpy
  have hM := hM.a1 o_38 h_new
  clear h_new
  refine V_aload_n Y.1 0 dX6_restore_41 (rfl : _ = 42) rfl rfl ?_
  refine V_iconst Y.1 (v := 0) dX6_restore_42 (rfl : _ = 43) (by decide) ?_
  refine V_put Y.1 fi_X6_48 fw_X6 rfl rfl hM.1 (Or.inl ⟨by omega, by omega⟩) rfl rfl (Nat.le_of_ble_eq_true rfl) dX6_restore_43 (rfl : _ = 46) (fun H43_27 h_new o_43 => ?_)
  have hM := hM.f5 o_43 h_new
  clear h_new
  refine V_aload_n Y.1 0 dX6_restore_46 (rfl : _ = 47) rfl rfl ?_
  refine V_get Y.1 fi_X6_9 hM.1 rfl dX6_restore_47 (rfl : _ = 50) ?_
  refine V_iconst Y.1 (v := 0) dX6_restore_50 (rfl : _ = 51) (by decide) ?_
  refine V_iald Y.1 hM.2.1 (by unfold vp_in; decide) rfl dX6_restore_51 (rfl : _ = 52) ?_
  exact V_ret Y.1 dX6_restore_52 rfl (Nat.le_of_ble_eq_true rfl) (Nat.le_of_ble_eq_true rfl) ⟨rfl, hM⟩

set_option maxRecDepth 100000 in
set_option maxHeartbeats 4000000 in
theorem c_X6_undo_n (l : Launch) (D : va_G) (kA : Nat → ClassId) (H0 : Heap) (o : Nat) (F s b v p u t c : Nat → Int32)  (hM : Rs D kA H0 o F s b v p u t c) (h5 : F 5 = 0) : Ct l D kA yX6_undo cX6_undo 1 (some .int) 1 48 0 0 H0 [.ref o] (blk o 8) (pI fun v9 H => v9 = 0 ∧ Rs D kA H o (upd F 6 1) s b v p u t c) := by
  refine Ct.of mi_X6_undo (Nat.le_of_ble_eq_true rfl) (ls0 := [(0, _)]) rfl ?_
  intro Pp Ee Ss Mm Ar Bl Me Cc Y hs hnm
  refine V_aload_n Y.1 0 dX6_undo_0 (rfl : _ = 1) rfl rfl ?_
  refine V_aload_n Y.1 0 dX6_undo_1 (rfl : _ = 2) rfl rfl ?_
  refine V_get Y.1 fi_X6_48 hM.1 rfl dX6_undo_2 (rfl : _ = 5) ?_
  refine V_if_ne Y.1 (tgt := 12) dX6_undo_5 (by decide) (rfl : _ = 8) (fun c_n => absurd h5 c_n) (fun _ => ?_)
  refine V_iconst Y.1 (v := 1) dX6_undo_8 (rfl : _ = 9) (by decide) ?_
  refine V_goto Y.1 (tgt := 13) dX6_undo_9 (by decide) ?_
  refine V_put Y.1 fi_X6_39 fw_X6 rfl rfl hM.1 (Or.inl ⟨by omega, by omega⟩) rfl rfl (Nat.le_of_ble_eq_true rfl) dX6_undo_13 (rfl : _ = 16) (fun H13_6 h_new o_13 => ?_)
  have hM := hM.f6 o_13 h_new
  clear h_new
  have hM := Rs.z (z := 1) hM
  refine V_aload_n Y.1 0 dX6_undo_16 (rfl : _ = 17) rfl rfl ?_
  refine V_get Y.1 fi_X6_39 hM.1 rfl dX6_undo_17 (rfl : _ = 20) ?_
  refine V_nm (v := 1) rfl ?_
  refine V_if_le Y.1 (tgt := 25) dX6_undo_20 (by decide) (rfl : _ = 23) (fun c_n => absurd c_n (by decide)) (fun _ => ?_)
  refine V_iconst Y.1 (v := 0) dX6_undo_23 (rfl : _ = 24) (by decide) ?_
  exact V_ret Y.1 dX6_undo_24 rfl (Nat.le_of_ble_eq_true rfl) (Nat.le_of_ble_eq_true rfl) ⟨rfl, hM⟩

set_option maxRecDepth 100000 in
set_option maxHeartbeats 4000000 in
theorem c_X6_undo_y (l : Launch) (D : va_G) (kA : Nat → ClassId) (H0 : Heap) (o : Nat) (F s b v p u t c : Nat → Int32) (k : Nat) (hk : k < 8) (hM : Rs D kA H0 o F s b v p u t c) (h5 : F 5 = nI (k + 1)) : Ct l D kA yX6_undo cX6_undo 1 (some .int) 1 48 0 0 H0 [.ref o] (blk o 8) (pI fun v9 H => v9 = nI k ∧ Rs D kA H o (upd (upd F 6 0) 5 (nI k)) (fun q => p (169 * k + q)) b v p u t c) := by
  refine Ct.of mi_X6_undo (Nat.le_of_ble_eq_true rfl) (ls0 := [(0, _)]) rfl ?_
  intro Pp Ee Ss Mm Ar Bl Me Cc Y hs hnm
  refine V_aload_n Y.1 0 dX6_undo_0 (rfl : _ = 1) rfl rfl ?_
  refine V_aload_n Y.1 0 dX6_undo_1 (rfl : _ = 2) rfl rfl ?_
  refine V_get Y.1 fi_X6_48 hM.1 rfl dX6_undo_2 (rfl : _ = 5) ?_
  refine V_if_ne Y.1 (tgt := 12) dX6_undo_5 (by decide) (rfl : _ = 8) (fun _ => ?_) (fun c_n => absurd c_n (by rw [h5]; exact nI_ne0 (by omega) (by omega)))
  refine V_iconst Y.1 (v := 0) dX6_undo_12 (rfl : _ = 13) (by decide) ?_
  refine V_put Y.1 fi_X6_39 fw_X6 rfl rfl hM.1 (Or.inl ⟨by omega, by omega⟩) rfl rfl (Nat.le_of_ble_eq_true rfl) dX6_undo_13 (rfl : _ = 16) (fun H13_5 h_new o_13 => ?_)
  have hM := hM.f6 o_13 h_new
  clear h_new
  have hM := Rs.z (z := 0) hM
  refine V_aload_n Y.1 0 dX6_undo_16 (rfl : _ = 17) rfl rfl ?_
  refine V_get Y.1 fi_X6_39 hM.1 rfl dX6_undo_17 (rfl : _ = 20) ?_
  refine V_nm (v := 0) rfl ?_
  refine V_if_le Y.1 (tgt := 25) dX6_undo_20 (by decide) (rfl : _ = 23) (fun _ => ?_) (fun c_n => absurd (by decide) c_n)
  refine V_aload_n Y.1 0 dX6_undo_25 (rfl : _ = 26) rfl rfl ?_
  refine V_dup Y.1 dX6_undo_26 (rfl : _ = 27) rfl ?_
  refine V_get Y.1 fi_X6_48 hM.1 rfl dX6_undo_27 (rfl : _ = 30) ?_
  refine V_iconst Y.1 (v := 1) dX6_undo_30 (rfl : _ = 31) (by decide) ?_
  refine V_isub Y.1 dX6_undo_31 (rfl : _ = 32) ?_
  refine V_nm (v := nI k) (by show F 5 - 1 = _; rw [h5, nI_pred]) ?_
  refine V_put Y.1 fi_X6_48 fw_X6 rfl rfl hM.1 (Or.inl ⟨by omega, by omega⟩) rfl rfl (Nat.le_of_ble_eq_true rfl) dX6_undo_32 (rfl : _ = 35) (fun H32_19 h_new o_32 => ?_)
  have hM := hM.f5 o_32 h_new
  clear h_new
  refine V_aload_n Y.1 0 dX6_undo_35 (rfl : _ = 36) rfl rfl ?_
  refine V_get Y.1 fi_X6_19 hM.1 rfl dX6_undo_36 (rfl : _ = 39) ?_
  refine V_sipush Y.1 (v := 169) dX6_undo_39 (rfl : _ = 42) (by decide) ?_
  refine V_aload_n Y.1 0 dX6_undo_42 (rfl : _ = 43) rfl rfl ?_
  refine V_get Y.1 fi_X6_48 hM.1 rfl dX6_undo_43 (rfl : _ = 46) ?_
  refine V_imul Y.1 dX6_undo_46 (rfl : _ = 47) ?_
  refine V_nm (v := nI (169 * k)) (by rw [pk_us]; exact pk_mul 169 k) ?_
  refine V_aload_n Y.1 0 dX6_undo_47 (rfl : _ = 48) rfl rfl ?_
  refine V_get Y.1 fi_X6_9 hM.1 rfl dX6_undo_48 (rfl : _ = 51) ?_
  refine V_iconst Y.1 (v := 0) dX6_undo_51 (rfl : _ = 52) (by decide) ?_
  refine V_sipush Y.1 (v := 169) dX6_undo_52 (rfl : _ = 55) (by decide) ?_
  refine V_copy Y.1 aw_X6_42 (sp := 169 * k) (dp := 0) (N := 169) hM.2.2.2.2.1 hM.2.1 rfl rfl (Or.inl ⟨by omega, by omega⟩) rfl rfl rfl (by omega) (by omega) (by omega) (by omega) (fun _ _ => rfl) (Nat.le_of_ble_eq_true rfl) (Nat.le_of_ble_eq_true rfl) dX6_undo_55 (rfl : _ = 58) (fun H55_33 h_new o_55 => ?_)
  have h_new := h_new.cpyS
  have hM := hM.a1 o_55 h_new
  clear h_new
  refine V_aload_n Y.1 0 dX6_undo_58 (rfl : _ = 59) rfl rfl ?_
  refine V_get Y.1 fi_X6_48 hM.1 rfl dX6_undo_59 (rfl : _ = 62) ?_
  exact V_ret Y.1 dX6_undo_62 rfl (Nat.le_of_ble_eq_true rfl) (Nat.le_of_ble_eq_true rfl) ⟨by show upd _ 5 _ 5 = _; rw [pk_us], hM⟩

set_option maxRecDepth 100000 in
set_option maxHeartbeats 4000000 in
theorem c_X6_errorPosition_n (l : Launch) (D : va_G) (kA : Nat → ClassId) (H0 : Heap) (o : Nat) (F s b v p u t c : Nat → Int32)  (hM : Rs D kA H0 o F s b v p u t c) (h : F 13 < 0) : Ct l D kA yX6_errorPosition cX6_errorPosition 1 (some .int) 1 21 0 0 H0 [.ref o] (blk o 8) (pI fun v9 H => v9 = 0 ∧ Rs D kA H o (upd F 6 1) s b v p u t c) := by
  refine Ct.of mi_X6_errorPosition (Nat.le_of_ble_eq_true rfl) (ls0 := [(0, _)]) rfl ?_
  intro Pp Ee Ss Mm Ar Bl Me Cc Y hs hnm
  refine V_aload_n Y.1 0 dX6_errorPosition_0 (rfl : _ = 1) rfl rfl ?_
  refine V_aload_n Y.1 0 dX6_errorPosition_1 (rfl : _ = 2) rfl rfl ?_
  refine V_get Y.1 fi_X6_29 hM.1 rfl dX6_errorPosition_2 (rfl : _ = 5) ?_
  refine V_if_lt Y.1 (tgt := 12) dX6_errorPosition_5 (by decide) (rfl : _ = 8) (fun _ => ?_) (fun c_n => absurd h c_n)
  refine V_iconst Y.1 (v := 0) dX6_errorPosition_12 (rfl : _ = 13) (by decide) ?_
  refine V_cI Y (rV Y (c_X6_isThere l D kA _ _ _ _ _ _ _ _ _ _ 0 hM (by decide)) mi_X6_isThere vi_X6_149 rfl hM.1 rfl rfl (Nat.le_of_ble_eq_true rfl) ⟨Nat.le_of_ble_eq_true rfl, Nat.le_of_ble_eq_true rfl⟩ (Nat.le_of_ble_eq_true rfl) (Nat.le_of_ble_eq_true rfl) dX6_errorPosition_13) (fun q hq => Or.inl (blk_sub (by omega) (by omega) q hq)) (rfl : _ = 16) (fun v_13 H13_5 hq_13 o_13 => ?_)
  obtain ⟨rfl, hM⟩ := hq_13
  refine V_if_eq Y.1 (tgt := 26) dX6_errorPosition_16 (by decide) (rfl : _ = 19) (fun _ => ?_) (fun c_n => absurd rfl c_n)
  refine V_iconst Y.1 (v := 0) dX6_errorPosition_26 (rfl : _ = 27) (by decide) ?_
  exact V_ret Y.1 dX6_errorPosition_27 rfl (Nat.le_of_ble_eq_true rfl) (Nat.le_of_ble_eq_true rfl) ⟨rfl, hM⟩

set_option maxRecDepth 100000 in
set_option maxHeartbeats 4000000 in
theorem c_X6_errorPosition_y (l : Launch) (D : va_G) (kA : Nat → ClassId) (H0 : Heap) (o : Nat) (F s b v p u t c : Nat → Int32)  (hM : Rs D kA H0 o F s b v p u t c) (h : ¬ F 13 < 0) : Ct l D kA yX6_errorPosition cX6_errorPosition 1 (some .int) 1 21 0 0 H0 [.ref o] (blk o 8) (pI fun v9 H => v9 = F 13 ∧ Rs D kA H o (upd F 6 0) s b v p u t c) := by
  refine Ct.of mi_X6_errorPosition (Nat.le_of_ble_eq_true rfl) (ls0 := [(0, _)]) rfl ?_
  intro Pp Ee Ss Mm Ar Bl Me Cc Y hs hnm
  refine V_aload_n Y.1 0 dX6_errorPosition_0 (rfl : _ = 1) rfl rfl ?_
  refine V_aload_n Y.1 0 dX6_errorPosition_1 (rfl : _ = 2) rfl rfl ?_
  refine V_get Y.1 fi_X6_29 hM.1 rfl dX6_errorPosition_2 (rfl : _ = 5) ?_
  refine V_if_lt Y.1 (tgt := 12) dX6_errorPosition_5 (by decide) (rfl : _ = 8) (fun c_n => absurd c_n h) (fun _ => ?_)
  refine V_iconst Y.1 (v := 1) dX6_errorPosition_8 (rfl : _ = 9) (by decide) ?_
  refine V_goto Y.1 (tgt := 13) dX6_errorPosition_9 (by decide) ?_
  refine V_cI Y (rV Y (c_X6_isThere l D kA _ _ _ _ _ _ _ _ _ _ 1 hM (by decide)) mi_X6_isThere vi_X6_149 rfl hM.1 rfl rfl (Nat.le_of_ble_eq_true rfl) ⟨Nat.le_of_ble_eq_true rfl, Nat.le_of_ble_eq_true rfl⟩ (Nat.le_of_ble_eq_true rfl) (Nat.le_of_ble_eq_true rfl) dX6_errorPosition_13) (fun q hq => Or.inl (blk_sub (by omega) (by omega) q hq)) (rfl : _ = 16) (fun v_13 H13_6 hq_13 o_13 => ?_)
  obtain ⟨rfl, hM⟩ := hq_13
  refine V_if_eq Y.1 (tgt := 26) dX6_errorPosition_16 (by decide) (rfl : _ = 19) (fun c_n => absurd c_n (by decide)) (fun _ => ?_)
  refine V_aload_n Y.1 0 dX6_errorPosition_19 (rfl : _ = 20) rfl rfl ?_
  refine V_get Y.1 fi_X6_29 hM.1 rfl dX6_errorPosition_20 (rfl : _ = 23) ?_
  refine V_goto Y.1 (tgt := 27) dX6_errorPosition_23 (by decide) ?_
  exact V_ret Y.1 dX6_errorPosition_27 rfl (Nat.le_of_ble_eq_true rfl) (Nat.le_of_ble_eq_true rfl) ⟨rfl, hM⟩

set_option maxRecDepth 100000 in
set_option maxHeartbeats 4000000 in
theorem c_X6_failedCommand_n (l : Launch) (D : va_G) (kA : Nat → ClassId) (H0 : Heap) (o : Nat) (F s b v p u t c : Nat → Int32)  (hM : Rs D kA H0 o F s b v p u t c) (h : F 14 < 0) : Ct l D kA yX6_failedCommand cX6_failedCommand 1 (some .int) 1 21 0 0 H0 [.ref o] (blk o 8) (pI fun v9 H => v9 = 0 ∧ Rs D kA H o (upd F 6 1) s b v p u t c) := by
  refine Ct.of mi_X6_failedCommand (Nat.le_of_ble_eq_true rfl) (ls0 := [(0, _)]) rfl ?_
  intro Pp Ee Ss Mm Ar Bl Me Cc Y hs hnm
  refine V_aload_n Y.1 0 dX6_failedCommand_0 (rfl : _ = 1) rfl rfl ?_
  refine V_aload_n Y.1 0 dX6_failedCommand_1 (rfl : _ = 2) rfl rfl ?_
  refine V_get Y.1 fi_X6_33 hM.1 rfl dX6_failedCommand_2 (rfl : _ = 5) ?_
  refine V_if_lt Y.1 (tgt := 12) dX6_failedCommand_5 (by decide) (rfl : _ = 8) (fun _ => ?_) (fun c_n => absurd h c_n)
  refine V_iconst Y.1 (v := 0) dX6_failedCommand_12 (rfl : _ = 13) (by decide) ?_
  refine V_cI Y (rV Y (c_X6_isThere l D kA _ _ _ _ _ _ _ _ _ _ 0 hM (by decide)) mi_X6_isThere vi_X6_149 rfl hM.1 rfl rfl (Nat.le_of_ble_eq_true rfl) ⟨Nat.le_of_ble_eq_true rfl, Nat.le_of_ble_eq_true rfl⟩ (Nat.le_of_ble_eq_true rfl) (Nat.le_of_ble_eq_true rfl) dX6_failedCommand_13) (fun q hq => Or.inl (blk_sub (by omega) (by omega) q hq)) (rfl : _ = 16) (fun v_13 H13_5 hq_13 o_13 => ?_)
  obtain ⟨rfl, hM⟩ := hq_13
  refine V_if_eq Y.1 (tgt := 26) dX6_failedCommand_16 (by decide) (rfl : _ = 19) (fun _ => ?_) (fun c_n => absurd rfl c_n)
  refine V_iconst Y.1 (v := 0) dX6_failedCommand_26 (rfl : _ = 27) (by decide) ?_
  exact V_ret Y.1 dX6_failedCommand_27 rfl (Nat.le_of_ble_eq_true rfl) (Nat.le_of_ble_eq_true rfl) ⟨rfl, hM⟩

set_option maxRecDepth 100000 in
set_option maxHeartbeats 4000000 in
theorem c_X6_failedCommand_y (l : Launch) (D : va_G) (kA : Nat → ClassId) (H0 : Heap) (o : Nat) (F s b v p u t c : Nat → Int32)  (hM : Rs D kA H0 o F s b v p u t c) (h : ¬ F 14 < 0) : Ct l D kA yX6_failedCommand cX6_failedCommand 1 (some .int) 1 21 0 0 H0 [.ref o] (blk o 8) (pI fun v9 H => v9 = F 14 ∧ Rs D kA H o (upd F 6 0) s b v p u t c) := by
  refine Ct.of mi_X6_failedCommand (Nat.le_of_ble_eq_true rfl) (ls0 := [(0, _)]) rfl ?_
  intro Pp Ee Ss Mm Ar Bl Me Cc Y hs hnm
  refine V_aload_n Y.1 0 dX6_failedCommand_0 (rfl : _ = 1) rfl rfl ?_
  refine V_aload_n Y.1 0 dX6_failedCommand_1 (rfl : _ = 2) rfl rfl ?_
  refine V_get Y.1 fi_X6_33 hM.1 rfl dX6_failedCommand_2 (rfl : _ = 5) ?_
  refine V_if_lt Y.1 (tgt := 12) dX6_failedCommand_5 (by decide) (rfl : _ = 8) (fun c_n => absurd c_n h) (fun _ => ?_)
  refine V_iconst Y.1 (v := 1) dX6_failedCommand_8 (rfl : _ = 9) (by decide) ?_
  refine V_goto Y.1 (tgt := 13) dX6_failedCommand_9 (by decide) ?_
  refine V_cI Y (rV Y (c_X6_isThere l D kA _ _ _ _ _ _ _ _ _ _ 1 hM (by decide)) mi_X6_isThere vi_X6_149 rfl hM.1 rfl rfl (Nat.le_of_ble_eq_true rfl) ⟨Nat.le_of_ble_eq_true rfl, Nat.le_of_ble_eq_true rfl⟩ (Nat.le_of_ble_eq_true rfl) (Nat.le_of_ble_eq_true rfl) dX6_failedCommand_13) (fun q hq => Or.inl (blk_sub (by omega) (by omega) q hq)) (rfl : _ = 16) (fun v_13 H13_6 hq_13 o_13 => ?_)
  obtain ⟨rfl, hM⟩ := hq_13
  refine V_if_eq Y.1 (tgt := 26) dX6_failedCommand_16 (by decide) (rfl : _ = 19) (fun c_n => absurd c_n (by decide)) (fun _ => ?_)
  refine V_aload_n Y.1 0 dX6_failedCommand_19 (rfl : _ = 20) rfl rfl ?_
  refine V_get Y.1 fi_X6_33 hM.1 rfl dX6_failedCommand_20 (rfl : _ = 23) ?_
  refine V_goto Y.1 (tgt := 27) dX6_failedCommand_23 (by decide) ?_
  exact V_ret Y.1 dX6_failedCommand_27 rfl (Nat.le_of_ble_eq_true rfl) (Nat.le_of_ble_eq_true rfl) ⟨rfl, hM⟩

