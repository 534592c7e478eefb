def g_type (x : Int32) (len : Nat) : Nat := if r_in x 32 126 = 0 then 1 else if len = 60 then 2 else 0
theorem q_do_99 (s : Nat → Int32) (n t : Nat) (x y : Int32) : q_do s n t 99 x y = q_issue s (if x = 1 then 1 else 0) := by unfold q_do; rw [if_pos rfl]
theorem q_do_119 (s : Nat → Int32) (n t : Nat) (x y : Int32) : q_do s n t 119 x y = q_wait s n t x := by unfold q_do; rw [if_neg (by decide), if_pos rfl]
theorem q_do_108 (s : Nat → Int32) (n t : Nat) (x y : Int32) : q_do s n t 108 x y = q_load s x y := by unfold q_do; rw [if_neg (by decide), if_neg (by decide), if_pos rfl]
theorem q_do_105 (s : Nat → Int32) (n t : Nat) (x y : Int32) : q_do s n t 105 x y = q_in s (t / 1440) x y := by unfold q_do; rw [if_neg (by decide), if_neg (by decide), if_neg (by decide), if_pos rfl]
theorem q_do_111 (s : Nat → Int32) (n t : Nat) (x y : Int32) : q_do s n t 111 x y = q_out s (t / 1440) x y := by unfold q_do; rw [if_neg (by decide), if_neg (by decide), if_neg (by decide), if_neg (by decide), if_pos rfl]
theorem q_do_102 (s : Nat → Int32) (n t : Nat) (x y : Int32) : q_do s n t 102 x y = q_fix s (t / 1440) x y := by unfold q_do; rw [if_neg (by decide), if_neg (by decide), if_neg (by decide), if_neg (by decide), if_neg (by decide), if_pos rfl]
theorem q_do_122 (s : Nat → Int32) (n t : Nat) (x y : Int32) : q_do s n t 122 x y = q_zone s x y := by unfold q_do; rw [if_neg (by decide), if_neg (by decide), if_neg (by decide), if_neg (by decide), if_neg (by decide), if_neg (by decide)]
set_option maxRecDepth 100000 in
set_option maxHeartbeats 4000000 in
theorem c_X6_does_issue (l : Launch) (D : va_G) (kA : Nat → ClassId) (H0 : Heap) (o : Nat) (F s b v p u t c : Nat → Int32) (k n t0 : Nat) (hM : Rs D kA H0 o F s b v p u t c) (hI : RI s n t0) (ht2 : t0 + 2000 < 2 ^ 30) (h6 : F 6 = 0) (hk : k < 60) (e0 : c (3 * k) = 99) : Ct l D kA yX6_does cX6_does 5 none 6 138 0 0 H0 [.ref o, .int (nI k)] (blk o 8) (pV fun H => Rs D kA H o (upd F 6 (nI (q_do s n t0 (c (3 * k)) (c (3 * k + 1)) (c (3 * k + 2))).1)) ((q_do s n t0 (c (3 * k)) (c (3 * k + 1)) (c (3 * k + 2))).2.2) b v p u t c) := by
  refine Ct.of mi_X6_does (Nat.le_of_ble_eq_true rfl) (ls0 := [(0, _), (1, _)]) rfl ?_
  intro Pp Ee Ss Mm Ar Bl Me Cc Y hs hnm
  refine V_aload_n Y.1 0 dX6_does_0 (rfl : _ = 1) rfl rfl ?_
  refine V_get Y.1 fi_X6_36 hM.1 rfl dX6_does_1 (rfl : _ = 4) ?_
  refine V_iconst Y.1 (v := 3) dX6_does_4 (rfl : _ = 5) (by decide) ?_
  refine V_iload_n Y.1 1 dX6_does_5 (rfl : _ = 6) rfl rfl ?_
  refine V_imul Y.1 dX6_does_6 (rfl : _ = 7) ?_
  refine V_nm (v := nI (3 * k)) (pk_mul 3 k) ?_
  refine V_iconst Y.1 (v := 1) dX6_does_7 (rfl : _ = 8) (by decide) ?_
  refine V_iadd Y.1 dX6_does_8 (rfl : _ = 9) ?_
  refine V_nm (v := nI (3 * k + 1)) (nI_add _ _) ?_
  refine V_iald Y.1 (v := c (3 * k + 1)) hM.2.2.2.2.2.2.2 (vp_in_nI (by omega) (by omega)) (by rw [nI_clamp (by omega)]) dX6_does_9 (rfl : _ = 10) ?_
  refine V_istore_n Y.1 (ls' := [(2, _), (0, _), (1, _)]) dX6_does_10 (rfl : _ = 11) rfl (by decide) rfl ?_
  refine V_aload_n Y.1 1 dX6_does_11 (rfl : _ = 12) rfl rfl ?_
  refine V_get Y.1 fi_X6_36 hM.1 rfl dX6_does_12 (rfl : _ = 15) ?_
  refine V_iconst Y.1 (v := 3) dX6_does_15 (rfl : _ = 16) (by decide) ?_
  refine V_iload_n Y.1 2 dX6_does_16 (rfl : _ = 17) rfl rfl ?_
  refine V_imul Y.1 dX6_does_17 (rfl : _ = 18) ?_
  refine V_nm (v := nI (3 * k)) (pk_mul 3 k) ?_
  refine V_iconst Y.1 (v := 2) dX6_does_18 (rfl : _ = 19) (by decide) ?_
  refine V_iadd Y.1 dX6_does_19 (rfl : _ = 20) ?_
  refine V_nm (v := nI (3 * k + 2)) (nI_add _ _) ?_
  refine V_iald Y.1 (v := c (3 * k + 2)) hM.2.2.2.2.2.2.2 (vp_in_nI (by omega) (by omega)) (by rw [nI_clamp (by omega)]) dX6_does_20 (rfl : _ = 21) ?_
  refine V_istore_n Y.1 (ls' := [(3, _), (2, _), (0, _), (1, _)]) dX6_does_21 (rfl : _ = 22) rfl (by decide) rfl ?_
  refine V_aload_n Y.1 2 dX6_does_22 (rfl : _ = 23) rfl rfl ?_
  refine V_get Y.1 fi_X6_36 hM.1 rfl dX6_does_23 (rfl : _ = 26) ?_
  refine V_iconst Y.1 (v := 3) dX6_does_26 (rfl : _ = 27) (by decide) ?_
  refine V_iload_n Y.1 3 dX6_does_27 (rfl : _ = 28) rfl rfl ?_
  refine V_imul Y.1 dX6_does_28 (rfl : _ = 29) ?_
  refine V_nm (v := nI (3 * k)) (pk_mul 3 k) ?_
  refine V_iald Y.1 (v := 99) hM.2.2.2.2.2.2.2 (vp_in_nI (by omega) (by omega)) (by rw [nI_clamp (by omega)]; exact e0) dX6_does_29 (rfl : _ = 30) ?_
  refine V_lookup Y.1 (off := 58) (tgt := 88) dX6_does_30 (by decide) (by decide) (by decide) ?_
  refine V_aload_n Y.1 2 dX6_does_88 (rfl : _ = 89) rfl rfl ?_
  refine V_iload_n Y.1 1 dX6_does_89 (rfl : _ = 90) rfl rfl ?_
  refine V_iconst Y.1 (v := 1) dX6_does_90 (rfl : _ = 91) (by decide) ?_
  refine V_icmp_ne Y.1 (tgt := 98) dX6_does_91 (by decide) (rfl : _ = 94) (fun c_91 => ?_) (fun c_91 => ?_)
  · have c91 := c_91
    refine V_iconst Y.1 (v := 0) dX6_does_98 (rfl : _ = 99) (by decide) ?_
    refine V_cI Y (rV Y (c_X6_doIssueCard l D kA _ _ _ _ _ _ _ _ _ _ n t0 0 hM hI h6) mi_X6_doIssueCard vi_X6_106 rfl hM.1 rfl rfl (Nat.le_of_ble_eq_true rfl) ⟨Nat.le_of_ble_eq_true rfl, Nat.le_of_ble_eq_true rfl⟩ (Nat.le_of_ble_eq_true rfl) (Nat.le_of_ble_eq_true rfl) dX6_does_99) (fun q hq => Or.inl (blk_sub (by omega) (by omega) q hq)) (rfl : _ = 102) (fun v_99 H99_36 hq_99 o_99 => ?_)
    obtain ⟨e99, hM⟩ := hq_99
    refine V_istore Y.1 (ls' := [(4, _), (3, _), (2, _), (0, _), (1, _)]) dX6_does_102 (rfl : _ = 104) (by decide) rfl ?_
    refine V_goto Y.1 (tgt := 169) dX6_does_104 (by decide) ?_
    exact V_retV Y.1 dX6_does_169 (Nat.le_of_ble_eq_true rfl) (Nat.le_of_ble_eq_true rfl) (by rw [e0, q_do_99]; first | (rw [if_pos c91]; exact hM) | (rw [if_neg c91]; exact hM))
  · have c91 := c_91
    refine V_iconst Y.1 (v := 1) dX6_does_94 (rfl : _ = 95) (by decide) ?_
    refine V_goto Y.1 (tgt := 99) dX6_does_95 (by decide) ?_
    refine V_cI Y (rV Y (c_X6_doIssueCard l D kA _ _ _ _ _ _ _ _ _ _ n t0 1 hM hI h6) mi_X6_doIssueCard vi_X6_106 rfl hM.1 rfl rfl (Nat.le_of_ble_eq_true rfl) ⟨Nat.le_of_ble_eq_true rfl, Nat.le_of_ble_eq_true rfl⟩ (Nat.le_of_ble_eq_true rfl) (Nat.le_of_ble_eq_true rfl) dX6_does_99) (fun q hq => Or.inl (blk_sub (by omega) (by omega) q hq)) (rfl : _ = 102) (fun v_99 H99_44 hq_99 o_99 => ?_)
    obtain ⟨e99, hM⟩ := hq_99
    refine V_istore Y.1 (ls' := [(4, _), (3, _), (2, _), (0, _), (1, _)]) dX6_does_102 (rfl : _ = 104) (by decide) rfl ?_
    refine V_goto Y.1 (tgt := 169) dX6_does_104 (by decide) ?_
    exact V_retV Y.1 dX6_does_169 (Nat.le_of_ble_eq_true rfl) (Nat.le_of_ble_eq_true rfl) (by rw [e0, q_do_99]; first | (rw [if_pos c91]; exact hM) | (rw [if_neg c91]; exact hM))

set_option maxRecDepth 100000 in
set_option maxHeartbeats 4000000 in
theorem c_X6_does_wait (l : Launch) (D : va_G) (kA : Nat → ClassId) (H0 : Heap) (o : Nat) (F s b v p u t c : Nat → Int32) (k n t0 : Nat) (hM : Rs D kA H0 o F s b v p u t c) (hI : RI s n t0) (ht2 : t0 + 2000 < 2 ^ 30) (h6 : F 6 = 0) (hk : k < 60) (e0 : c (3 * k) = 119) : Ct l D kA yX6_does cX6_does 5 none 6 138 0 0 H0 [.ref o, .int (nI k)] (blk o 8) (pV fun H => Rs D kA H o (upd F 6 (nI (q_do s n t0 (c (3 * k)) (c (3 * k + 1)) (c (3 * k + 2))).1)) ((q_do s n t0 (c (3 * k)) (c (3 * k + 1)) (c (3 * k + 2))).2.2) b v p u t c) := by
  refine Ct.of mi_X6_does (Nat.le_of_ble_eq_true rfl) (ls0 := [(0, _), (1, _)]) rfl ?_
  intro Pp Ee Ss Mm Ar Bl Me Cc Y hs hnm
  refine V_aload_n Y.1 0 dX6_does_0 (rfl : _ = 1) rfl rfl ?_
  refine V_get Y.1 fi_X6_36 hM.1 rfl dX6_does_1 (rfl : _ = 4) ?_
  refine V_iconst Y.1 (v := 3) dX6_does_4 (rfl : _ = 5) (by decide) ?_
  refine V_iload_n Y.1 1 dX6_does_5 (rfl : _ = 6) rfl rfl ?_
  refine V_imul Y.1 dX6_does_6 (rfl : _ = 7) ?_
  refine V_nm (v := nI (3 * k)) (pk_mul 3 k) ?_
  refine V_iconst Y.1 (v := 1) dX6_does_7 (rfl : _ = 8) (by decide) ?_
  refine V_iadd Y.1 dX6_does_8 (rfl : _ = 9) ?_
  refine V_nm (v := nI (3 * k + 1)) (nI_add _ _) ?_
  refine V_iald Y.1 (v := c (3 * k + 1)) hM.2.2.2.2.2.2.2 (vp_in_nI (by omega) (by omega)) (by rw [nI_clamp (by omega)]) dX6_does_9 (rfl : _ = 10) ?_
  refine V_istore_n Y.1 (ls' := [(2, _), (0, _), (1, _)]) dX6_does_10 (rfl : _ = 11) rfl (by decide) rfl ?_
  refine V_aload_n Y.1 1 dX6_does_11 (rfl : _ = 12) rfl rfl ?_
  refine V_get Y.1 fi_X6_36 hM.1 rfl dX6_does_12 (rfl : _ = 15) ?_
  refine V_iconst Y.1 (v := 3) dX6_does_15 (rfl : _ = 16) (by decide) ?_
  refine V_iload_n Y.1 2 dX6_does_16 (rfl : _ = 17) rfl rfl ?_
  refine V_imul Y.1 dX6_does_17 (rfl : _ = 18) ?_
  refine V_nm (v := nI (3 * k)) (pk_mul 3 k) ?_
  refine V_iconst Y.1 (v := 2) dX6_does_18 (rfl : _ = 19) (by decide) ?_
  refine V_iadd Y.1 dX6_does_19 (rfl : _ = 20) ?_
  refine V_nm (v := nI (3 * k + 2)) (nI_add _ _) ?_
  refine V_iald Y.1 (v := c (3 * k + 2)) hM.2.2.2.2.2.2.2 (vp_in_nI (by omega) (by omega)) (by rw [nI_clamp (by omega)]) dX6_does_20 (rfl : _ = 21) ?_
  refine V_istore_n Y.1 (ls' := [(3, _), (2, _), (0, _), (1, _)]) dX6_does_21 (rfl : _ = 22) rfl (by decide) rfl ?_
  refine V_aload_n Y.1 2 dX6_does_22 (rfl : _ = 23) rfl rfl ?_
  refine V_get Y.1 fi_X6_36 hM.1 rfl dX6_does_23 (rfl : _ = 26) ?_
  refine V_iconst Y.1 (v := 3) dX6_does_26 (rfl : _ = 27) (by decide) ?_
  refine V_iload_n Y.1 3 dX6_does_27 (rfl : _ = 28) rfl rfl ?_
  refine V_imul Y.1 dX6_does_28 (rfl : _ = 29) ?_
  refine V_nm (v := nI (3 * k)) (pk_mul 3 k) ?_
  refine V_iald Y.1 (v := 119) hM.2.2.2.2.2.2.2 (vp_in_nI (by omega) (by omega)) (by rw [nI_clamp (by omega)]; exact e0) dX6_does_29 (rfl : _ = 30) ?_
  refine V_lookup Y.1 (off := 77) (tgt := 107) dX6_does_30 (by decide) (by decide) (by decide) ?_
  refine V_aload_n Y.1 2 dX6_does_107 (rfl : _ = 108) rfl rfl ?_
  refine V_iload_n Y.1 1 dX6_does_108 (rfl : _ = 109) rfl rfl ?_
  refine V_cI Y (rV Y (c_X6_doAdvance l D kA _ _ _ _ _ _ _ _ _ _ n t0 _ hM hI ht2 h6) mi_X6_doAdvance vi_X6_146 rfl hM.1 rfl rfl (Nat.le_of_ble_eq_true rfl) ⟨Nat.le_of_ble_eq_true rfl, Nat.le_of_ble_eq_true rfl⟩ (Nat.le_of_ble_eq_true rfl) (Nat.le_of_ble_eq_true rfl) dX6_does_109) (fun q hq => Or.inl (blk_sub (by omega) (by omega) q hq)) (rfl : _ = 112) (fun v_109 H109_32 hq_109 o_109 => ?_)
  obtain ⟨e109, hM⟩ := hq_109
  refine V_istore Y.1 (ls' := [(4, _), (3, _), (2, _), (0, _), (1, _)]) dX6_does_112 (rfl : _ = 114) (by decide) rfl ?_
  refine V_goto Y.1 (tgt := 169) dX6_does_114 (by decide) ?_
  exact V_retV Y.1 dX6_does_169 (Nat.le_of_ble_eq_true rfl) (Nat.le_of_ble_eq_true rfl) (by rw [e0, q_do_119]; exact hM)

set_option maxRecDepth 100000 in
set_option maxHeartbeats 4000000 in
theorem c_X6_does_load (l : Launch) (D : va_G) (kA : Nat → ClassId) (H0 : Heap) (o : Nat) (F s b v p u t c : Nat → Int32) (k n t0 : Nat) (hM : Rs D kA H0 o F s b v p u t c) (hI : RI s n t0) (ht2 : t0 + 2000 < 2 ^ 30) (h6 : F 6 = 0) (hk : k < 60) (e0 : c (3 * k) = 108) : Ct l D kA yX6_does cX6_does 5 none 6 138 0 0 H0 [.ref o, .int (nI k)] (blk o 8) (pV fun H => Rs D kA H o (upd F 6 (nI (q_do s n t0 (c (3 * k)) (c (3 * k + 1)) (c (3 * k + 2))).1)) ((q_do s n t0 (c (3 * k)) (c (3 * k + 1)) (c (3 * k + 2))).2.2) b v p u t c) := by
  refine Ct.of mi_X6_does (Nat.le_of_ble_eq_true rfl) (ls0 := [(0, _), (1, _)]) rfl ?_
  intro Pp Ee Ss Mm Ar Bl Me Cc Y hs hnm
  refine V_aload_n Y.1 0 dX6_does_0 (rfl : _ = 1) rfl rfl ?_
  refine V_get Y.1 fi_X6_36 hM.1 rfl dX6_does_1 (rfl : _ = 4) ?_
  refine V_iconst Y.1 (v := 3) dX6_does_4 (rfl : _ = 5) (by decide) ?_
  refine V_iload_n Y.1 1 dX6_does_5 (rfl : _ = 6) rfl rfl ?_
  refine V_imul Y.1 dX6_does_6 (rfl : _ = 7) ?_
  refine V_nm (v := nI (3 * k)) (pk_mul 3 k) ?_
  refine V_iconst Y.1 (v := 1) dX6_does_7 (rfl : _ = 8) (by decide) ?_
  refine V_iadd Y.1 dX6_does_8 (rfl : _ = 9) ?_
  refine V_nm (v := nI (3 * k + 1)) (nI_add _ _) ?_
  refine V_iald Y.1 (v := c (3 * k + 1)) hM.2.2.2.2.2.2.2 (vp_in_nI (by omega) (by omega)) (by rw [nI_clamp (by omega)]) dX6_does_9 (rfl : _ = 10) ?_
  refine V_istore_n Y.1 (ls' := [(2, _), (0, _), (1, _)]) dX6_does_10 (rfl : _ = 11) rfl (by decide) rfl ?_
  refine V_aload_n Y.1 1 dX6_does_11 (rfl : _ = 12) rfl rfl ?_
  refine V_get Y.1 fi_X6_36 hM.1 rfl dX6_does_12 (rfl : _ = 15) ?_
  refine V_iconst Y.1 (v := 3) dX6_does_15 (rfl : _ = 16) (by decide) ?_
  refine V_iload_n Y.1 2 dX6_does_16 (rfl : _ = 17) rfl rfl ?_
  refine V_imul Y.1 dX6_does_17 (rfl : _ = 18) ?_
  refine V_nm (v := nI (3 * k)) (pk_mul 3 k) ?_
  refine V_iconst Y.1 (v := 2) dX6_does_18 (rfl : _ = 19) (by decide) ?_
  refine V_iadd Y.1 dX6_does_19 (rfl : _ = 20) ?_
  refine V_nm (v := nI (3 * k + 2)) (nI_add _ _) ?_
  refine V_iald Y.1 (v := c (3 * k + 2)) hM.2.2.2.2.2.2.2 (vp_in_nI (by omega) (by omega)) (by rw [nI_clamp (by omega)]) dX6_does_20 (rfl : _ = 21) ?_
  refine V_istore_n Y.1 (ls' := [(3, _), (2, _), (0, _), (1, _)]) dX6_does_21 (rfl : _ = 22) rfl (by decide) rfl ?_
  refine V_aload_n Y.1 2 dX6_does_22 (rfl : _ = 23) rfl rfl ?_
  refine V_get Y.1 fi_X6_36 hM.1 rfl dX6_does_23 (rfl : _ = 26) ?_
  refine V_iconst Y.1 (v := 3) dX6_does_26 (rfl : _ = 27) (by decide) ?_
  refine V_iload_n Y.1 3 dX6_does_27 (rfl : _ = 28) rfl rfl ?_
  refine V_imul Y.1 dX6_does_28 (rfl : _ = 29) ?_
  refine V_nm (v := nI (3 * k)) (pk_mul 3 k) ?_
  refine V_iald Y.1 (v := 108) hM.2.2.2.2.2.2.2 (vp_in_nI (by omega) (by omega)) (by rw [nI_clamp (by omega)]; exact e0) dX6_does_29 (rfl : _ = 30) ?_
  refine V_lookup Y.1 (off := 87) (tgt := 117) dX6_does_30 (by decide) (by decide) (by decide) ?_
  refine V_aload_n Y.1 2 dX6_does_117 (rfl : _ = 118) rfl rfl ?_
  refine V_iload_n Y.1 1 dX6_does_118 (rfl : _ = 119) rfl rfl ?_
  refine V_iload_n Y.1 0 dX6_does_119 (rfl : _ = 120) rfl rfl ?_
  refine V_cI Y (rV Y (c_X6_doLoad l D kA _ _ _ _ _ _ _ _ _ _ n t0 _ _ hM hI h6) mi_X6_doLoad vi_X6_117 rfl hM.1 rfl rfl (Nat.le_of_ble_eq_true rfl) ⟨Nat.le_of_ble_eq_true rfl, Nat.le_of_ble_eq_true rfl⟩ (Nat.le_of_ble_eq_true rfl) (Nat.le_of_ble_eq_true rfl) dX6_does_120) (fun q hq => Or.inl (blk_sub (by omega) (by omega) q hq)) (rfl : _ = 123) (fun v_120 H120_33 hq_120 o_120 => ?_)
  obtain ⟨e120, hM⟩ := hq_120
  refine V_istore Y.1 (ls' := [(4, _), (3, _), (2, _), (0, _), (1, _)]) dX6_does_123 (rfl : _ = 125) (by decide) rfl ?_
  refine V_goto Y.1 (tgt := 169) dX6_does_125 (by decide) ?_
  exact V_retV Y.1 dX6_does_169 (Nat.le_of_ble_eq_true rfl) (Nat.le_of_ble_eq_true rfl) (by rw [e0, q_do_108]; exact hM)

set_option maxRecDepth 100000 in
set_option maxHeartbeats 4000000 in
theorem c_X6_does_in (l : Launch) (D : va_G) (kA : Nat → ClassId) (H0 : Heap) (o : Nat) (F s b v p u t c : Nat → Int32) (k n t0 : Nat) (hM : Rs D kA H0 o F s b v p u t c) (hI : RI s n t0) (ht2 : t0 + 2000 < 2 ^ 30) (h6 : F 6 = 0) (hk : k < 60) (e0 : c (3 * k) = 105) : Ct l D kA yX6_does cX6_does 5 none 6 138 0 0 H0 [.ref o, .int (nI k)] (blk o 8) (pV fun H => Rs D kA H o (upd F 6 (nI (q_do s n t0 (c (3 * k)) (c (3 * k + 1)) (c (3 * k + 2))).1)) ((q_do s n t0 (c (3 * k)) (c (3 * k + 1)) (c (3 * k + 2))).2.2) b v p u t c) := by
  refine Ct.of mi_X6_does (Nat.le_of_ble_eq_true rfl) (ls0 := [(0, _), (1, _)]) rfl ?_
  intro Pp Ee Ss Mm Ar Bl Me Cc Y hs hnm
  refine V_aload_n Y.1 0 dX6_does_0 (rfl : _ = 1) rfl rfl ?_
  refine V_get Y.1 fi_X6_36 hM.1 rfl dX6_does_1 (rfl : _ = 4) ?_
  refine V_iconst Y.1 (v := 3) dX6_does_4 (rfl : _ = 5) (by decide) ?_
  refine V_iload_n Y.1 1 dX6_does_5 (rfl : _ = 6) rfl rfl ?_
  refine V_imul Y.1 dX6_does_6 (rfl : _ = 7) ?_
  refine V_nm (v := nI (3 * k)) (pk_mul 3 k) ?_
  refine V_iconst Y.1 (v := 1) dX6_does_7 (rfl : _ = 8) (by decide) ?_
  refine V_iadd Y.1 dX6_does_8 (rfl : _ = 9) ?_
  refine V_nm (v := nI (3 * k + 1)) (nI_add _ _) ?_
  refine V_iald Y.1 (v := c (3 * k + 1)) hM.2.2.2.2.2.2.2 (vp_in_nI (by omega) (by omega)) (by rw [nI_clamp (by omega)]) dX6_does_9 (rfl : _ = 10) ?_
  refine V_istore_n Y.1 (ls' := [(2, _), (0, _), (1, _)]) dX6_does_10 (rfl : _ = 11) rfl (by decide) rfl ?_
  refine V_aload_n Y.1 1 dX6_does_11 (rfl : _ = 12) rfl rfl ?_
  refine V_get Y.1 fi_X6_36 hM.1 rfl dX6_does_12 (rfl : _ = 15) ?_
  refine V_iconst Y.1 (v := 3) dX6_does_15 (rfl : _ = 16) (by decide) ?_
  refine V_iload_n Y.1 2 dX6_does_16 (rfl : _ = 17) rfl rfl ?_
  refine V_imul Y.1 dX6_does_17 (rfl : _ = 18) ?_
  refine V_nm (v := nI (3 * k)) (pk_mul 3 k) ?_
  refine V_iconst Y.1 (v := 2) dX6_does_18 (rfl : _ = 19) (by decide) ?_
  refine V_iadd Y.1 dX6_does_19 (rfl : _ = 20) ?_
  refine V_nm (v := nI (3 * k + 2)) (nI_add _ _) ?_
  refine V_iald Y.1 (v := c (3 * k + 2)) hM.2.2.2.2.2.2.2 (vp_in_nI (by omega) (by omega)) (by rw [nI_clamp (by omega)]) dX6_does_20 (rfl : _ = 21) ?_
  refine V_istore_n Y.1 (ls' := [(3, _), (2, _), (0, _), (1, _)]) dX6_does_21 (rfl : _ = 22) rfl (by decide) rfl ?_
  refine V_aload_n Y.1 2 dX6_does_22 (rfl : _ = 23) rfl rfl ?_
  refine V_get Y.1 fi_X6_36 hM.1 rfl dX6_does_23 (rfl : _ = 26) ?_
  refine V_iconst Y.1 (v := 3) dX6_does_26 (rfl : _ = 27) (by decide) ?_
  refine V_iload_n Y.1 3 dX6_does_27 (rfl : _ = 28) rfl rfl ?_
  refine V_imul Y.1 dX6_does_28 (rfl : _ = 29) ?_
  refine V_nm (v := nI (3 * k)) (pk_mul 3 k) ?_
  refine V_iald Y.1 (v := 105) hM.2.2.2.2.2.2.2 (vp_in_nI (by omega) (by omega)) (by rw [nI_clamp (by omega)]; exact e0) dX6_does_29 (rfl : _ = 30) ?_
  refine V_lookup Y.1 (off := 98) (tgt := 128) dX6_does_30 (by decide) (by decide) (by decide) ?_
  refine V_aload_n Y.1 2 dX6_does_128 (rfl : _ = 129) rfl rfl ?_
  refine V_iload_n Y.1 1 dX6_does_129 (rfl : _ = 130) rfl rfl ?_
  refine V_iload_n Y.1 0 dX6_does_130 (rfl : _ = 131) rfl rfl ?_
  refine V_cI Y (rV Y (c_X6_doTapIn l D kA _ _ _ _ _ _ _ _ _ _ n t0 _ _ hM hI h6) mi_X6_doTapIn vi_X6_131 rfl hM.1 rfl rfl (Nat.le_of_ble_eq_true rfl) ⟨Nat.le_of_ble_eq_true rfl, Nat.le_of_ble_eq_true rfl⟩ (Nat.le_of_ble_eq_true rfl) (Nat.le_of_ble_eq_true rfl) dX6_does_131) (fun q hq => Or.inl (blk_sub (by omega) (by omega) q hq)) (rfl : _ = 134) (fun v_131 H131_33 hq_131 o_131 => ?_)
  obtain ⟨e131, hM⟩ := hq_131
  refine V_istore Y.1 (ls' := [(4, _), (3, _), (2, _), (0, _), (1, _)]) dX6_does_134 (rfl : _ = 136) (by decide) rfl ?_
  refine V_goto Y.1 (tgt := 169) dX6_does_136 (by decide) ?_
  exact V_retV Y.1 dX6_does_169 (Nat.le_of_ble_eq_true rfl) (Nat.le_of_ble_eq_true rfl) (by rw [e0, q_do_105]; exact hM)

set_option maxRecDepth 100000 in
set_option maxHeartbeats 4000000 in
theorem c_X6_does_out (l : Launch) (D : va_G) (kA : Nat → ClassId) (H0 : Heap) (o : Nat) (F s b v p u t c : Nat → Int32) (k n t0 : Nat) (hM : Rs D kA H0 o F s b v p u t c) (hI : RI s n t0) (ht2 : t0 + 2000 < 2 ^ 30) (h6 : F 6 = 0) (hk : k < 60) (e0 : c (3 * k) = 111) : Ct l D kA yX6_does cX6_does 5 none 6 138 0 0 H0 [.ref o, .int (nI k)] (blk o 8) (pV fun H => Rs D kA H o (upd F 6 (nI (q_do s n t0 (c (3 * k)) (c (3 * k + 1)) (c (3 * k + 2))).1)) ((q_do s n t0 (c (3 * k)) (c (3 * k + 1)) (c (3 * k + 2))).2.2) b v p u t c) := by
  refine Ct.of mi_X6_does (Nat.le_of_ble_eq_true rfl) (ls0 := [(0, _), (1, _)]) rfl ?_
  intro Pp Ee Ss Mm Ar Bl Me Cc Y hs hnm
  refine V_aload_n Y.1 0 dX6_does_0 (rfl : _ = 1) rfl rfl ?_
  refine V_get Y.1 fi_X6_36 hM.1 rfl dX6_does_1 (rfl : _ = 4) ?_
  refine V_iconst Y.1 (v := 3) dX6_does_4 (rfl : _ = 5) (by decide) ?_
  refine V_iload_n Y.1 1 dX6_does_5 (rfl : _ = 6) rfl rfl ?_
  refine V_imul Y.1 dX6_does_6 (rfl : _ = 7) ?_
  refine V_nm (v := nI (3 * k)) (pk_mul 3 k) ?_
  refine V_iconst Y.1 (v := 1) dX6_does_7 (rfl : _ = 8) (by decide) ?_
  refine V_iadd Y.1 dX6_does_8 (rfl : _ = 9) ?_
  refine V_nm (v := nI (3 * k + 1)) (nI_add _ _) ?_
  refine V_iald Y.1 (v := c (3 * k + 1)) hM.2.2.2.2.2.2.2 (vp_in_nI (by omega) (by omega)) (by rw [nI_clamp (by omega)]) dX6_does_9 (rfl : _ = 10) ?_
  refine V_istore_n Y.1 (ls' := [(2, _), (0, _), (1, _)]) dX6_does_10 (rfl : _ = 11) rfl (by decide) rfl ?_
  refine V_aload_n Y.1 1 dX6_does_11 (rfl : _ = 12) rfl rfl ?_
  refine V_get Y.1 fi_X6_36 hM.1 rfl dX6_does_12 (rfl : _ = 15) ?_
  refine V_iconst Y.1 (v := 3) dX6_does_15 (rfl : _ = 16) (by decide) ?_
  refine V_iload_n Y.1 2 dX6_does_16 (rfl : _ = 17) rfl rfl ?_
  refine V_imul Y.1 dX6_does_17 (rfl : _ = 18) ?_
  refine V_nm (v := nI (3 * k)) (pk_mul 3 k) ?_
  refine V_iconst Y.1 (v := 2) dX6_does_18 (rfl : _ = 19) (by decide) ?_
  refine V_iadd Y.1 dX6_does_19 (rfl : _ = 20) ?_
  refine V_nm (v := nI (3 * k + 2)) (nI_add _ _) ?_
  refine V_iald Y.1 (v := c (3 * k + 2)) hM.2.2.2.2.2.2.2 (vp_in_nI (by omega) (by omega)) (by rw [nI_clamp (by omega)]) dX6_does_20 (rfl : _ = 21) ?_
  refine V_istore_n Y.1 (ls' := [(3, _), (2, _), (0, _), (1, _)]) dX6_does_21 (rfl : _ = 22) rfl (by decide) rfl ?_
  refine V_aload_n Y.1 2 dX6_does_22 (rfl : _ = 23) rfl rfl ?_
  refine V_get Y.1 fi_X6_36 hM.1 rfl dX6_does_23 (rfl : _ = 26) ?_
  refine V_iconst Y.1 (v := 3) dX6_does_26 (rfl : _ = 27) (by decide) ?_
  refine V_iload_n Y.1 3 dX6_does_27 (rfl : _ = 28) rfl rfl ?_
  refine V_imul Y.1 dX6_does_28 (rfl : _ = 29) ?_
  refine V_nm (v := nI (3 * k)) (pk_mul 3 k) ?_
  refine V_iald Y.1 (v := 111) hM.2.2.2.2.2.2.2 (vp_in_nI (by omega) (by omega)) (by rw [nI_clamp (by omega)]; exact e0) dX6_does_29 (rfl : _ = 30) ?_
  refine V_lookup Y.1 (off := 109) (tgt := 139) dX6_does_30 (by decide) (by decide) (by decide) ?_
  refine V_aload_n Y.1 2 dX6_does_139 (rfl : _ = 140) rfl rfl ?_
  refine V_iload_n Y.1 1 dX6_does_140 (rfl : _ = 141) rfl rfl ?_
  refine V_iload_n Y.1 0 dX6_does_141 (rfl : _ = 142) rfl rfl ?_
  refine V_cI Y (rV Y (c_X6_doTapOut l D kA _ _ _ _ _ _ _ _ _ _ n t0 _ _ hM hI h6) mi_X6_doTapOut vi_X6_137 rfl hM.1 rfl rfl (Nat.le_of_ble_eq_true rfl) ⟨Nat.le_of_ble_eq_true rfl, Nat.le_of_ble_eq_true rfl⟩ (Nat.le_of_ble_eq_true rfl) (Nat.le_of_ble_eq_true rfl) dX6_does_142) (fun q hq => Or.inl (blk_sub (by omega) (by omega) q hq)) (rfl : _ = 145) (fun v_142 H142_33 hq_142 o_142 => ?_)
  obtain ⟨e142, hM⟩ := hq_142
  refine V_istore Y.1 (ls' := [(4, _), (3, _), (2, _), (0, _), (1, _)]) dX6_does_145 (rfl : _ = 147) (by decide) rfl ?_
  refine V_goto Y.1 (tgt := 169) dX6_does_147 (by decide) ?_
  exact V_retV Y.1 dX6_does_169 (Nat.le_of_ble_eq_true rfl) (Nat.le_of_ble_eq_true rfl) (by rw [e0, q_do_111]; exact hM)

set_option maxRecDepth 100000 in
set_option maxHeartbeats 4000000 in
theorem c_X6_does_fix (l : Launch) (D : va_G) (kA : Nat → ClassId) (H0 : Heap) (o : Nat) (F s b v p u t c : Nat → Int32) (k n t0 : Nat) (hM : Rs D kA H0 o F s b v p u t c) (hI : RI s n t0) (ht2 : t0 + 2000 < 2 ^ 30) (h6 : F 6 = 0) (hk : k < 60) (e0 : c (3 * k) = 102) : Ct l D kA yX6_does cX6_does 5 none 6 138 0 0 H0 [.ref o, .int (nI k)] (blk o 8) (pV fun H => Rs D kA H o (upd F 6 (nI (q_do s n t0 (c (3 * k)) (c (3 * k + 1)) (c (3 * k + 2))).1)) ((q_do s n t0 (c (3 * k)) (c (3 * k + 1)) (c (3 * k + 2))).2.2) b v p u t c) := by
  refine Ct.of mi_X6_does (Nat.le_of_ble_eq_true rfl) (ls0 := [(0, _), (1, _)]) rfl ?_
  intro Pp Ee Ss Mm Ar Bl Me Cc Y hs hnm
  refine V_aload_n Y.1 0 dX6_does_0 (rfl : _ = 1) rfl rfl ?_
  refine V_get Y.1 fi_X6_36 hM.1 rfl dX6_does_1 (rfl : _ = 4) ?_
  refine V_iconst Y.1 (v := 3) dX6_does_4 (rfl : _ = 5) (by decide) ?_
  refine V_iload_n Y.1 1 dX6_does_5 (rfl : _ = 6) rfl rfl ?_
  refine V_imul Y.1 dX6_does_6 (rfl : _ = 7) ?_
  refine V_nm (v := nI (3 * k)) (pk_mul 3 k) ?_
  refine V_iconst Y.1 (v := 1) dX6_does_7 (rfl : _ = 8) (by decide) ?_
  refine V_iadd Y.1 dX6_does_8 (rfl : _ = 9) ?_
  refine V_nm (v := nI (3 * k + 1)) (nI_add _ _) ?_
  refine V_iald Y.1 (v := c (3 * k + 1)) hM.2.2.2.2.2.2.2 (vp_in_nI (by omega) (by omega)) (by rw [nI_clamp (by omega)]) dX6_does_9 (rfl : _ = 10) ?_
  refine V_istore_n Y.1 (ls' := [(2, _), (0, _), (1, _)]) dX6_does_10 (rfl : _ = 11) rfl (by decide) rfl ?_
  refine V_aload_n Y.1 1 dX6_does_11 (rfl : _ = 12) rfl rfl ?_
  refine V_get Y.1 fi_X6_36 hM.1 rfl dX6_does_12 (rfl : _ = 15) ?_
  refine V_iconst Y.1 (v := 3) dX6_does_15 (rfl : _ = 16) (by decide) ?_
  refine V_iload_n Y.1 2 dX6_does_16 (rfl : _ = 17) rfl rfl ?_
  refine V_imul Y.1 dX6_does_17 (rfl : _ = 18) ?_
  refine V_nm (v := nI (3 * k)) (pk_mul 3 k) ?_
  refine V_iconst Y.1 (v := 2) dX6_does_18 (rfl : _ = 19) (by decide) ?_
  refine V_iadd Y.1 dX6_does_19 (rfl : _ = 20) ?_
  refine V_nm (v := nI (3 * k + 2)) (nI_add _ _) ?_
  refine V_iald Y.1 (v := c (3 * k + 2)) hM.2.2.2.2.2.2.2 (vp_in_nI (by omega) (by omega)) (by rw [nI_clamp (by omega)]) dX6_does_20 (rfl : _ = 21) ?_
  refine V_istore_n Y.1 (ls' := [(3, _), (2, _), (0, _), (1, _)]) dX6_does_21 (rfl : _ = 22) rfl (by decide) rfl ?_
  refine V_aload_n Y.1 2 dX6_does_22 (rfl : _ = 23) rfl rfl ?_
  refine V_get Y.1 fi_X6_36 hM.1 rfl dX6_does_23 (rfl : _ = 26) ?_
  refine V_iconst Y.1 (v := 3) dX6_does_26 (rfl : _ = 27) (by decide) ?_
  refine V_iload_n Y.1 3 dX6_does_27 (rfl : _ = 28) rfl rfl ?_
  refine V_imul Y.1 dX6_does_28 (rfl : _ = 29) ?_
  refine V_nm (v := nI (3 * k)) (pk_mul 3 k) ?_
  refine V_iald Y.1 (v := 102) hM.2.2.2.2.2.2.2 (vp_in_nI (by omega) (by omega)) (by rw [nI_clamp (by omega)]; exact e0) dX6_does_29 (rfl : _ = 30) ?_
  refine V_lookup Y.1 (off := 120) (tgt := 150) dX6_does_30 (by decide) (by decide) (by decide) ?_
  refine V_aload_n Y.1 2 dX6_does_150 (rfl : _ = 151) rfl rfl ?_
  refine V_iload_n Y.1 1 dX6_does_151 (rfl : _ = 152) rfl rfl ?_
  refine V_iload_n Y.1 0 dX6_does_152 (rfl : _ = 153) rfl rfl ?_
  refine V_cI Y (rV Y (c_X6_doRepair l D kA _ _ _ _ _ _ _ _ _ _ n t0 _ _ hM hI h6) mi_X6_doRepair vi_X6_140 rfl hM.1 rfl rfl (Nat.le_of_ble_eq_true rfl) ⟨Nat.le_of_ble_eq_true rfl, Nat.le_of_ble_eq_true rfl⟩ (Nat.le_of_ble_eq_true rfl) (Nat.le_of_ble_eq_true rfl) dX6_does_153) (fun q hq => Or.inl (blk_sub (by omega) (by omega) q hq)) (rfl : _ = 156) (fun v_153 H153_33 hq_153 o_153 => ?_)
  obtain ⟨e153, hM⟩ := hq_153
  refine V_istore Y.1 (ls' := [(4, _), (3, _), (2, _), (0, _), (1, _)]) dX6_does_156 (rfl : _ = 158) (by decide) rfl ?_
  refine V_goto Y.1 (tgt := 169) dX6_does_158 (by decide) ?_
  exact V_retV Y.1 dX6_does_169 (Nat.le_of_ble_eq_true rfl) (Nat.le_of_ble_eq_true rfl) (by rw [e0, q_do_102]; exact hM)

set_option maxRecDepth 100000 in
set_option maxHeartbeats 4000000 in
theorem c_X6_does_zone (l : Launch) (D : va_G) (kA : Nat → ClassId) (H0 : Heap) (o : Nat) (F s b v p u t c : Nat → Int32) (k n t0 : Nat) (hM : Rs D kA H0 o F s b v p u t c) (hI : RI s n t0) (ht2 : t0 + 2000 < 2 ^ 30) (h6 : F 6 = 0) (hk : k < 60) (e0 : c (3 * k) = 122) : Ct l D kA yX6_does cX6_does 5 none 6 138 0 0 H0 [.ref o, .int (nI k)] (blk o 8) (pV fun H => Rs D kA H o (upd F 6 (nI (q_do s n t0 (c (3 * k)) (c (3 * k + 1)) (c (3 * k + 2))).1)) ((q_do s n t0 (c (3 * k)) (c (3 * k + 1)) (c (3 * k + 2))).2.2) b v p u t c) := by
  refine Ct.of mi_X6_does (Nat.le_of_ble_eq_true rfl) (ls0 := [(0, _), (1, _)]) rfl ?_
  intro Pp Ee Ss Mm Ar Bl Me Cc Y hs hnm
  refine V_aload_n Y.1 0 dX6_does_0 (rfl : _ = 1) rfl rfl ?_
  refine V_get Y.1 fi_X6_36 hM.1 rfl dX6_does_1 (rfl : _ = 4) ?_
  refine V_iconst Y.1 (v := 3) dX6_does_4 (rfl : _ = 5) (by decide) ?_
  refine V_iload_n Y.1 1 dX6_does_5 (rfl : _ = 6) rfl rfl ?_
  refine V_imul Y.1 dX6_does_6 (rfl : _ = 7) ?_
  refine V_nm (v := nI (3 * k)) (pk_mul 3 k) ?_
  refine V_iconst Y.1 (v := 1) dX6_does_7 (rfl : _ = 8) (by decide) ?_
  refine V_iadd Y.1 dX6_does_8 (rfl : _ = 9) ?_
  refine V_nm (v := nI (3 * k + 1)) (nI_add _ _) ?_
  refine V_iald Y.1 (v := c (3 * k + 1)) hM.2.2.2.2.2.2.2 (vp_in_nI (by omega) (by omega)) (by rw [nI_clamp (by omega)]) dX6_does_9 (rfl : _ = 10) ?_
  refine V_istore_n Y.1 (ls' := [(2, _), (0, _), (1, _)]) dX6_does_10 (rfl : _ = 11) rfl (by decide) rfl ?_
  refine V_aload_n Y.1 1 dX6_does_11 (rfl : _ = 12) rfl rfl ?_
  refine V_get Y.1 fi_X6_36 hM.1 rfl dX6_does_12 (rfl : _ = 15) ?_
  refine V_iconst Y.1 (v := 3) dX6_does_15 (rfl : _ = 16) (by decide) ?_
  refine V_iload_n Y.1 2 dX6_does_16 (rfl : _ = 17) rfl rfl ?_
  refine V_imul Y.1 dX6_does_17 (rfl : _ = 18) ?_
  refine V_nm (v := nI (3 * k)) (pk_mul 3 k) ?_
  refine V_iconst Y.1 (v := 2) dX6_does_18 (rfl : _ = 19) (by decide) ?_
  refine V_iadd Y.1 dX6_does_19 (rfl : _ = 20) ?_
  refine V_nm (v := nI (3 * k + 2)) (nI_add _ _) ?_
  refine V_iald Y.1 (v := c (3 * k + 2)) hM.2.2.2.2.2.2.2 (vp_in_nI (by omega) (by omega)) (by rw [nI_clamp (by omega)]) dX6_does_20 (rfl : _ = 21) ?_
  refine V_istore_n Y.1 (ls' := [(3, _), (2, _), (0, _), (1, _)]) dX6_does_21 (rfl : _ = 22) rfl (by decide) rfl ?_
  refine V_aload_n Y.1 2 dX6_does_22 (rfl : _ = 23) rfl rfl ?_
  refine V_get Y.1 fi_X6_36 hM.1 rfl dX6_does_23 (rfl : _ = 26) ?_
  refine V_iconst Y.1 (v := 3) dX6_does_26 (rfl : _ = 27) (by decide) ?_
  refine V_iload_n Y.1 3 dX6_does_27 (rfl : _ = 28) rfl rfl ?_
  refine V_imul Y.1 dX6_does_28 (rfl : _ = 29) ?_
  refine V_nm (v := nI (3 * k)) (pk_mul 3 k) ?_
  refine V_iald Y.1 (v := 122) hM.2.2.2.2.2.2.2 (vp_in_nI (by omega) (by omega)) (by rw [nI_clamp (by omega)]; exact e0) dX6_does_29 (rfl : _ = 30) ?_
  refine V_lookup Y.1 (off := 131) (tgt := 161) dX6_does_30 (by decide) (by decide) (by decide) ?_
  refine V_aload_n Y.1 2 dX6_does_161 (rfl : _ = 162) rfl rfl ?_
  refine V_iload_n Y.1 1 dX6_does_162 (rfl : _ = 163) rfl rfl ?_
  refine V_iload_n Y.1 0 dX6_does_163 (rfl : _ = 164) rfl rfl ?_
  refine V_cI Y (rV Y (c_X6_doSetZone l D kA _ _ _ _ _ _ _ _ _ _ _ _ hM h6) mi_X6_doSetZone vi_X6_143 rfl hM.1 rfl rfl (Nat.le_of_ble_eq_true rfl) ⟨Nat.le_of_ble_eq_true rfl, Nat.le_of_ble_eq_true rfl⟩ (Nat.le_of_ble_eq_true rfl) (Nat.le_of_ble_eq_true rfl) dX6_does_164) (fun q hq => Or.inl (blk_sub (by omega) (by omega) q hq)) (rfl : _ = 167) (fun v_164 H164_33 hq_164 o_164 => ?_)
  obtain ⟨e164, hM⟩ := hq_164
  refine V_istore Y.1 (ls' := [(4, _), (3, _), (2, _), (0, _), (1, _)]) dX6_does_167 (rfl : _ = 169) (by decide) rfl ?_
  exact V_retV Y.1 dX6_does_169 (Nat.le_of_ble_eq_true rfl) (Nat.le_of_ble_eq_true rfl) (by rw [e0, q_do_122]; exact hM)

set_option maxRecDepth 100000 in
set_option maxHeartbeats 4000000 in
theorem c_X6_type_n (l : Launch) (D : va_G) (kA : Nat → ClassId) (H0 : Heap) (o : Nat) (F s b v p u t c : Nat → Int32) (x : Int32) (len : Nat) (hl : F 10 = nI len) (hlen : len ≤ 60) (hx : narrow .char (.int x) = .int x) (hM : Rs D kA H0 o F s b v p u t c) (h0 : g_type x len ≠ 0) : Ct l D kA yX6_type cX6_type 2 (some .int) 1 22 0 0 H0 [.ref o, .int x] (blk o 8) (pI fun v9 H => v9 = 0 ∧ Rs D kA H o (upd F 6 (nI (g_type x len))) s b v p u t c) := by
  refine Ct.of mi_X6_type (Nat.le_of_ble_eq_true rfl) (ls0 := [(0, _), (1, _)]) rfl ?_
  intro Pp Ee Ss Mm Ar Bl Me Cc Y hs hnm
  refine V_aload_n Y.1 0 dX6_type_0 (rfl : _ = 1) rfl rfl ?_
  refine V_iload_n Y.1 1 dX6_type_1 (rfl : _ = 2) rfl rfl ?_
  refine V_bipush Y.1 (v := 32) dX6_type_2 (rfl : _ = 4) (by decide) ?_
  refine V_bipush Y.1 (v := 126) dX6_type_4 (rfl : _ = 6) (by decide) ?_
  refine V_cP Y (rS Y (c_X6_in l D kA _ _ _ _) mi_X6_in si_X6_51 rfl rfl (Nat.le_of_ble_eq_true rfl) ⟨Nat.le_of_ble_eq_true rfl, Nat.le_of_ble_eq_true rfl⟩ (Nat.le_of_ble_eq_true rfl) (Nat.le_of_ble_eq_true rfl) dX6_type_6) (rfl : _ = 9) ?_
  refine V_if_ne Y.1 (tgt := 16) dX6_type_9 (by decide) (rfl : _ = 12) (fun c_9 => ?_) (fun c_9 => ?_)
  · refine V_aload_n Y.1 0 dX6_type_16 (rfl : _ = 17) rfl rfl ?_
    refine V_get Y.1 fi_X6_195 hM.1 rfl dX6_type_17 (rfl : _ = 20) ?_
    refine V_nm (v := nI len) hl ?_
    refine V_bipush Y.1 (v := 60) dX6_type_20 (rfl : _ = 22) (by decide) ?_
    refine V_icmp_ne Y.1 (tgt := 29) dX6_type_22 (by decide) (rfl : _ = 25) (fun c_22 => ?_) (fun c_22 => ?_)
    · refine V_iconst Y.1 (v := 0) dX6_type_29 (rfl : _ = 30) (by decide) ?_
      refine V_put Y.1 fi_X6_39 fw_X6 rfl rfl hM.1 (Or.inl ⟨by omega, by omega⟩) rfl rfl (Nat.le_of_ble_eq_true rfl) dX6_type_30 (rfl : _ = 33) (fun H30_12 h_new o_30 => ?_)
      have hM := hM.f6 o_30 h_new
      clear h_new
      have hM := Rs.z (z := 0) hM
      refine V_aload_n Y.1 0 dX6_type_33 (rfl : _ = 34) rfl rfl ?_
      refine V_get Y.1 fi_X6_39 hM.1 rfl dX6_type_34 (rfl : _ = 37) ?_
      refine V_nm (v := 0) rfl ?_
      refine V_if_le Y.1 (tgt := 42) dX6_type_37 (by decide) (rfl : _ = 40) (fun _ => ?_) (fun c_n => absurd (by decide) c_n)
      refine V_aload_n Y.1 0 dX6_type_42 (rfl : _ = 43) rfl rfl ?_
      exact absurd (by unfold g_type; rw [if_neg c_9, if_neg (fun q => c_22 (by rw [q]; rfl))]) h0
    · refine V_iconst Y.1 (v := 2) dX6_type_25 (rfl : _ = 26) (by decide) ?_
      refine V_goto Y.1 (tgt := 30) dX6_type_26 (by decide) ?_
      refine V_put Y.1 fi_X6_39 fw_X6 rfl rfl hM.1 (Or.inl ⟨by omega, by omega⟩) rfl rfl (Nat.le_of_ble_eq_true rfl) dX6_type_30 (rfl : _ = 33) (fun H30_24 h_new o_30 => ?_)
      have hM := hM.f6 o_30 h_new
      clear h_new
      have hM := Rs.z (z := 2) hM
      refine V_aload_n Y.1 0 dX6_type_33 (rfl : _ = 34) rfl rfl ?_
      refine V_get Y.1 fi_X6_39 hM.1 rfl dX6_type_34 (rfl : _ = 37) ?_
      refine V_nm (v := 2) rfl ?_
      refine V_if_le Y.1 (tgt := 42) dX6_type_37 (by decide) (rfl : _ = 40) (fun c_n => absurd c_n (by decide)) (fun _ => ?_)
      refine V_iconst Y.1 (v := 0) dX6_type_40 (rfl : _ = 41) (by decide) ?_
      exact V_ret Y.1 dX6_type_41 rfl (Nat.le_of_ble_eq_true rfl) (Nat.le_of_ble_eq_true rfl) (by first | exact ⟨rfl, by rw [show g_type x len = 2 from by unfold g_type; rw [if_neg c_9, if_pos ((nI_eq (b := 60) (by omega) (by decide)).mp c_22)]]; exact hM⟩ | exact ⟨rfl, by rw [show g_type x len = 1 from by unfold g_type; rw [if_pos c_9]]; exact hM⟩)
  · refine V_iconst Y.1 (v := 1) dX6_type_12 (rfl : _ = 13) (by decide) ?_
    refine V_goto Y.1 (tgt := 30) dX6_type_13 (by decide) ?_
    refine V_put Y.1 fi_X6_39 fw_X6 rfl rfl hM.1 (Or.inl ⟨by omega, by omega⟩) rfl rfl (Nat.le_of_ble_eq_true rfl) dX6_type_30 (rfl : _ = 33) (fun H30_36 h_new o_30 => ?_)
    have hM := hM.f6 o_30 h_new
    clear h_new
    have hM := Rs.z (z := 1) hM
    refine V_aload_n Y.1 0 dX6_type_33 (rfl : _ = 34) rfl rfl ?_
    refine V_get Y.1 fi_X6_39 hM.1 rfl dX6_type_34 (rfl : _ = 37) ?_
    refine V_nm (v := 1) rfl ?_
    refine V_if_le Y.1 (tgt := 42) dX6_type_37 (by decide) (rfl : _ = 40) (fun c_n => absurd c_n (by decide)) (fun _ => ?_)
    refine V_iconst Y.1 (v := 0) dX6_type_40 (rfl : _ = 41) (by decide) ?_
    exact V_ret Y.1 dX6_type_41 rfl (Nat.le_of_ble_eq_true rfl) (Nat.le_of_ble_eq_true rfl) (by first | exact ⟨rfl, by rw [show g_type x len = 2 from by unfold g_type; rw [if_neg c_9, if_pos ((nI_eq (b := 60) (by omega) (by decide)).mp c_22)]]; exact hM⟩ | exact ⟨rfl, by rw [show g_type x len = 1 from by unfold g_type; rw [if_pos c_9]]; exact hM⟩)

set_option maxRecDepth 100000 in
set_option maxHeartbeats 4000000 in
theorem c_X6_type_y (l : Launch) (D : va_G) (kA : Nat → ClassId) (H0 : Heap) (o : Nat) (F s b v p u t c : Nat → Int32) (x : Int32) (len : Nat) (hl : F 10 = nI len) (hlen : len ≤ 60) (hx : narrow .char (.int x) = .int x) (hM : Rs D kA H0 o F s b v p u t c) (h0 : g_type x len = 0) : Ct l D kA yX6_type cX6_type 2 (some .int) 1 22 0 0 H0 [.ref o, .int x] (blk o 8) (pI fun v9 H => v9 = nI (len + 1) ∧ Rs D kA H o (upd (upd F 6 0) 10 (nI (len + 1))) s b v p u (upd t len x) c) := by
  refine Ct.of mi_X6_type (Nat.le_of_ble_eq_true rfl) (ls0 := [(0, _), (1, _)]) rfl ?_
  intro Pp Ee Ss Mm Ar Bl Me Cc Y hs hnm
  have hlt : len < 60 := by
    unfold g_type at h0
    split at h0
    · exact absurd h0 (by decide)
    · split at h0
      · exact absurd h0 (by decide)
      · omega
  refine V_aload_n Y.1 0 dX6_type_0 (rfl : _ = 1) rfl rfl ?_
  refine V_iload_n Y.1 1 dX6_type_1 (rfl : _ = 2) rfl rfl ?_
  refine V_bipush Y.1 (v := 32) dX6_type_2 (rfl : _ = 4) (by decide) ?_
  refine V_bipush Y.1 (v := 126) dX6_type_4 (rfl : _ = 6) (by decide) ?_
  refine V_cP Y (rS Y (c_X6_in l D kA _ _ _ _) mi_X6_in si_X6_51 rfl rfl (Nat.le_of_ble_eq_true rfl) ⟨Nat.le_of_ble_eq_true rfl, Nat.le_of_ble_eq_true rfl⟩ (Nat.le_of_ble_eq_true rfl) (Nat.le_of_ble_eq_true rfl) dX6_type_6) (rfl : _ = 9) ?_
  refine V_if_ne Y.1 (tgt := 16) dX6_type_9 (by decide) (rfl : _ = 12) (fun _ => ?_) (fun c_n => absurd c_n (fun q => by unfold g_type at h0; rw [if_pos q] at h0; exact absurd h0 (by decide)))
  refine V_aload_n Y.1 0 dX6_type_16 (rfl : _ = 17) rfl rfl ?_
  refine V_get Y.1 fi_X6_195 hM.1 rfl dX6_type_17 (rfl : _ = 20) ?_
  refine V_nm (v := nI len) hl ?_
  refine V_bipush Y.1 (v := 60) dX6_type_20 (rfl : _ = 22) (by decide) ?_
  refine V_icmp_ne Y.1 (tgt := 29) dX6_type_22 (by decide) (rfl : _ = 25) (fun _ => ?_) (fun c_n => absurd c_n (fun q => absurd ((nI_eq (b := 60) (by omega) (by decide)).mp q) (by omega)))
  refine V_iconst Y.1 (v := 0) dX6_type_29 (rfl : _ = 30) (by decide) ?_
  refine V_put Y.1 fi_X6_39 fw_X6 rfl rfl hM.1 (Or.inl ⟨by omega, by omega⟩) rfl rfl (Nat.le_of_ble_eq_true rfl) dX6_type_30 (rfl : _ = 33) (fun H30_12 h_new o_30 => ?_)
  have hM := hM.f6 o_30 h_new
  clear h_new
  refine V_aload_n Y.1 0 dX6_type_33 (rfl : _ = 34) rfl rfl ?_
  refine V_get Y.1 fi_X6_39 hM.1 rfl dX6_type_34 (rfl : _ = 37) ?_
  refine V_nm (v := 0) rfl ?_
  refine V_if_le Y.1 (tgt := 42) dX6_type_37 (by decide) (rfl : _ = 40) (fun _ => ?_) (fun c_n => absurd (by decide) c_n)
  refine V_aload_n Y.1 0 dX6_type_42 (rfl : _ = 43) rfl rfl ?_
  refine V_get Y.1 fi_X6_26 hM.1 rfl dX6_type_43 (rfl : _ = 46) ?_
  refine V_aload_n Y.1 0 dX6_type_46 (rfl : _ = 47) rfl rfl ?_
  refine V_get Y.1 fi_X6_195 hM.1 rfl dX6_type_47 (rfl : _ = 50) ?_
  refine V_nm (v := nI len) hl ?_
  refine V_iload_n Y.1 1 dX6_type_50 (rfl : _ = 51) rfl rfl ?_
  refine V_cast Y.1 hM.2.2.2.2.2.2.1 (Or.inl ⟨by omega, by omega⟩) (vp_in_nI hlt (by omega)) hx dX6_type_51 (rfl : _ = 52) (fun H51_25 h_new o_51 => ?_)
  rw [nI_clamp (by omega)] at h_new
  have hM := hM.a6 o_51 h_new
  clear h_new
  refine V_aload_n Y.1 0 dX6_type_52 (rfl : _ = 53) rfl rfl ?_
  refine V_dup Y.1 dX6_type_53 (rfl : _ = 54) rfl ?_
  refine V_get Y.1 fi_X6_195 hM.1 rfl dX6_type_54 (rfl : _ = 57) ?_
  refine V_nm (v := nI len) hl ?_
  refine V_iconst Y.1 (v := 1) dX6_type_57 (rfl : _ = 58) (by decide) ?_
  refine V_iadd Y.1 dX6_type_58 (rfl : _ = 59) ?_
  refine V_nm (v := nI (len + 1)) (nI_1 _) ?_
  refine V_put Y.1 fi_X6_195 fw_X6 rfl rfl hM.1 (Or.inl ⟨by omega, by omega⟩) rfl rfl (Nat.le_of_ble_eq_true rfl) dX6_type_59 (rfl : _ = 62) (fun H59_36 h_new o_59 => ?_)
  have hM := hM.f10 o_59 h_new
  clear h_new
  refine V_aload_n Y.1 0 dX6_type_62 (rfl : _ = 63) rfl rfl ?_
  refine V_get Y.1 fi_X6_195 hM.1 rfl dX6_type_63 (rfl : _ = 66) ?_
  exact V_ret Y.1 dX6_type_66 rfl (Nat.le_of_ble_eq_true rfl) (Nat.le_of_ble_eq_true rfl) ⟨by show upd _ 10 _ 10 = _; rw [pk_us], hM⟩

