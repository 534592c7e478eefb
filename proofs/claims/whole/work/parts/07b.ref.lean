theorem r_wi {i w : Nat} : (33 : Int32) + 17 * nI i + nI w = nI (33 + 17 * i + w) := by
  rw [show (33 : Int32) = nI 33 from rfl, show (17 : Int32) = nI 17 from rfl, pk_mul, nI_add, nI_add]
theorem rw_lo {s : Nat → Int32} {i w j : Nat} {x : Int32} (h : j < 33) : rw_ s i w x j = s j := if_neg (by omega)
theorem r_add_lo {s : Nat → Int32} {i d j : Nat} {x : Int32} (h : j < 33) : r_add s i d x j = s j := by rw [r_add, rw_lo h, rw_lo h]
theorem r_pay_lo {s : Nat → Int32} {i d j : Nat} {x : Int32} (h : j < 33) (h5 : j ≠ 5) : r_pay s i d x j = s j := by
  show upd _ 5 _ j = _
  rw [pk_un h5, rw_lo h, r_add_lo h]
theorem r_rem {d : Nat} (hd : d < 2 ^ 31) : nI d - nI d / 3 * 3 = nI (d % 3) := pk_rem (a := d) (d := 3) hd (by decide) (by decide)
set_option maxRecDepth 100000 in
set_option maxHeartbeats 4000000 in
theorem c_X6_in (l : Launch) (D : va_G) (kA : Nat → ClassId) (H0 : Heap) (x a b : Int32)  : Ct l D kA yX6_in cX6_in 3 (some .boolean) 0 0 0 0 H0 [.int x, .int a, .int b] (nof) (pI fun v9 H => v9 = r_in x a b ∧ H = H0) := by
  refine Ct.of mi_X6_in (Nat.le_of_ble_eq_true rfl) (ls0 := [(0, _), (1, _), (2, _)]) rfl ?_
  intro Pp Ee Ss Mm Ar Bl Me Cc Y hs hnm
  have sz : H0.size = H0.size := rfl
  refine V_iload_n Y.1 0 dX6_in_0 (rfl : _ = 1) rfl rfl ?_
  refine V_iload_n Y.1 1 dX6_in_1 (rfl : _ = 2) rfl rfl ?_
  refine V_icmp_lt Y.1 (tgt := 14) dX6_in_2 (by decide) (rfl : _ = 5) (fun c_2 => ?_) (fun c_2 => ?_)
  · refine V_iconst Y.1 (v := 0) dX6_in_14 (rfl : _ = 15) (by decide) ?_
    exact V_ret Y.1 dX6_in_15 rfl (Nat.le_of_ble_eq_true rfl) (Nat.le_of_ble_eq_true rfl) ⟨by simp [r_in, *], rfl⟩
  · refine V_iload_n Y.1 0 dX6_in_5 (rfl : _ = 6) rfl rfl ?_
    refine V_iload_n Y.1 2 dX6_in_6 (rfl : _ = 7) rfl rfl ?_
    refine V_icmp_gt Y.1 (tgt := 14) dX6_in_7 (by decide) (rfl : _ = 10) (fun c_7 => ?_) (fun c_7 => ?_)
    · refine V_iconst Y.1 (v := 0) dX6_in_14 (rfl : _ = 15) (by decide) ?_
      exact V_ret Y.1 dX6_in_15 rfl (Nat.le_of_ble_eq_true rfl) (Nat.le_of_ble_eq_true rfl) ⟨by simp [r_in, *], rfl⟩
    · refine V_iconst Y.1 (v := 1) dX6_in_10 (rfl : _ = 11) (by decide) ?_
      refine V_goto Y.1 (tgt := 15) dX6_in_11 (by decide) ?_
      exact V_ret Y.1 dX6_in_15 rfl (Nat.le_of_ble_eq_true rfl) (Nat.le_of_ble_eq_true rfl) ⟨by simp [r_in, *], rfl⟩

set_option maxRecDepth 100000 in
set_option maxHeartbeats 4000000 in
theorem c_X6_isStation (l : Launch) (D : va_G) (kA : Nat → ClassId) (H0 : Heap) (x : Int32)  : Ct l D kA yX6_isStation cX6_isStation 1 (some .boolean) 1 22 0 0 H0 [.int x] (nof) (pI fun v9 H => v9 = r_in x 0 11 ∧ H = H0) := by
  refine Ct.of mi_X6_isStation (Nat.le_of_ble_eq_true rfl) (ls0 := [(0, _)]) rfl ?_
  intro Pp Ee Ss Mm Ar Bl Me Cc Y hs hnm
  have sz : H0.size = H0.size := rfl
  refine V_iload_n Y.1 0 dX6_isStation_0 (rfl : _ = 1) rfl rfl ?_
  refine V_iconst Y.1 (v := 0) dX6_isStation_1 (rfl : _ = 2) (by decide) ?_
  refine V_bipush Y.1 (v := 11) dX6_isStation_2 (rfl : _ = 4) (by decide) ?_
  refine V_cP Y (rS Y (c_X6_in l D kA _ x 0 11) mi_X6_in si_X6_51 rfl rfl (Nat.le_of_ble_eq_true rfl) ⟨Nat.le_of_ble_eq_true rfl, Nat.le_of_ble_eq_true rfl⟩ (Nat.le_of_ble_eq_true rfl) (Nat.le_of_ble_eq_true rfl) dX6_isStation_4) (rfl : _ = 7) ?_
  exact V_ret Y.1 dX6_isStation_7 (nb_z (r_in_01 _ _ _)) (Nat.le_of_ble_eq_true rfl) (Nat.le_of_ble_eq_true rfl) ⟨rfl, rfl⟩

set_option maxRecDepth 100000 in
set_option maxHeartbeats 4000000 in
theorem c_X6_thrown (l : Launch) (D : va_G) (kA : Nat → ClassId) (H0 : Heap) (o : Nat) (F s b v p u t c : Nat → Int32)  (hM : Rs D kA H0 o F s b v p u t c)  : Ct l D kA yX6_thrown cX6_thrown 1 (some .int) 0 0 0 0 H0 [.ref o] (nof) (pI fun v9 H => v9 = F 6 ∧ H = H0) := by
  refine Ct.of mi_X6_thrown (Nat.le_of_ble_eq_true rfl) (ls0 := [(0, _)]) rfl ?_
  intro Pp Ee Ss Mm Ar Bl Me Cc Y hs hnm
  refine V_aload_n Y.1 0 dX6_thrown_0 (rfl : _ = 1) rfl rfl ?_
  refine V_get Y.1 fi_X6_39 hM.1 rfl dX6_thrown_1 (rfl : _ = 4) ?_
  exact V_ret Y.1 dX6_thrown_4 rfl (Nat.le_of_ble_eq_true rfl) (Nat.le_of_ble_eq_true rfl) ⟨rfl, rfl⟩

set_option maxRecDepth 100000 in
set_option maxHeartbeats 4000000 in
theorem c_X6_keep (l : Launch) (D : va_G) (kA : Nat → ClassId) (H0 : Heap) (o : Nat) (F s b v p u t c : Nat → Int32)  (hM : Rs D kA H0 o F s b v p u t c)  : Ct l D kA yX6_keep cX6_keep 1 none 1 48 0 0 H0 [.ref o] (blk o 8) (pV fun H => Rs D kA H o (upd F 6 0) s (s) v p u t c) := by
  refine Ct.of mi_X6_keep (Nat.le_of_ble_eq_true rfl) (ls0 := [(0, _)]) rfl ?_
  intro Pp Ee Ss Mm Ar Bl Me Cc Y hs hnm
  refine V_aload_n Y.1 0 dX6_keep_0 (rfl : _ = 1) rfl rfl ?_
  refine V_iconst Y.1 (v := 0) dX6_keep_1 (rfl : _ = 2) (by decide) ?_
  refine V_put Y.1 fi_X6_39 fw_X6 rfl rfl hM.1 (Or.inl ⟨by omega, by omega⟩) rfl rfl (Nat.le_of_ble_eq_true rfl) dX6_keep_2 (rfl : _ = 5) (fun H2_2 h_new o_2 => ?_)
  have hM := hM.f6 o_2 h_new
  clear h_new
  refine V_aload_n Y.1 0 dX6_keep_5 (rfl : _ = 6) rfl rfl ?_
  refine V_get Y.1 fi_X6_9 hM.1 rfl dX6_keep_6 (rfl : _ = 9) ?_
  refine V_iconst Y.1 (v := 0) dX6_keep_9 (rfl : _ = 10) (by decide) ?_
  refine V_aload_n Y.1 0 dX6_keep_10 (rfl : _ = 11) rfl rfl ?_
  refine V_get Y.1 fi_X6_13 hM.1 rfl dX6_keep_11 (rfl : _ = 14) ?_
  refine V_iconst Y.1 (v := 0) dX6_keep_14 (rfl : _ = 15) (by decide) ?_
  refine V_sipush Y.1 (v := 169) dX6_keep_15 (rfl : _ = 18) (by decide) ?_
  refine V_copy Y.1 aw_X6_42 (sp := 0) (dp := 0) (N := 169) hM.2.1 hM.2.2.1 rfl rfl (Or.inl ⟨by omega, by omega⟩) rfl rfl rfl (by omega) (by omega) (by omega) (by omega) (fun _ _ => rfl) (Nat.le_of_ble_eq_true rfl) (Nat.le_of_ble_eq_true rfl) dX6_keep_18 (rfl : _ = 21) (fun H18_12 h_new o_18 => ?_)
  have h_new := h_new.cpy
  have hM := hM.a2 o_18 h_new
  clear h_new
  exact V_retV Y.1 dX6_keep_21 (Nat.le_of_ble_eq_true rfl) (Nat.le_of_ble_eq_true rfl) hM

set_option maxRecDepth 100000 in
set_option maxHeartbeats 4000000 in
theorem c_X6_fails (l : Launch) (D : va_G) (kA : Nat → ClassId) (H0 : Heap) (o : Nat) (F s b v p u t c : Nat → Int32) (x : Int32) (hM : Rs D kA H0 o F s b v p u t c)  : Ct l D kA yX6_fails cX6_fails 2 (some .int) 0 0 0 0 H0 [.ref o, .int x] (blk o 8) (pI fun v9 H => v9 = 0 ∧ Rs D kA H o (upd F 6 x) s b v p u t c) := by
  refine Ct.of mi_X6_fails (Nat.le_of_ble_eq_true rfl) (ls0 := [(0, _), (1, _)]) rfl ?_
  intro Pp Ee Ss Mm Ar Bl Me Cc Y hs hnm
  refine V_aload_n Y.1 0 dX6_fails_0 (rfl : _ = 1) rfl rfl ?_
  refine V_iload_n Y.1 1 dX6_fails_1 (rfl : _ = 2) rfl rfl ?_
  refine V_put Y.1 fi_X6_39 fw_X6 rfl rfl hM.1 (Or.inl ⟨by omega, by omega⟩) rfl rfl (Nat.le_of_ble_eq_true rfl) dX6_fails_2 (rfl : _ = 5) (fun H2_2 h_new o_2 => ?_)
  have hM := hM.f6 o_2 h_new
  clear h_new
  refine V_iconst Y.1 (v := 0) dX6_fails_5 (rfl : _ = 6) (by decide) ?_
  exact V_ret Y.1 dX6_fails_6 rfl (Nat.le_of_ble_eq_true rfl) (Nat.le_of_ble_eq_true rfl) ⟨rfl, hM⟩

set_option maxRecDepth 100000 in
set_option maxHeartbeats 4000000 in
theorem c_X6_isThere (l : Launch) (D : va_G) (kA : Nat → ClassId) (H0 : Heap) (o : Nat) (F s b v p u t c : Nat → Int32) (x : Int32) (hM : Rs D kA H0 o F s b v p u t c) (hx : x = 0 ∨ x = 1) : Ct l D kA yX6_isThere cX6_isThere 2 (some .boolean) 0 0 0 0 H0 [.ref o, .int x] (blk o 8) (pI fun v9 H => v9 = x ∧ Rs D kA H o (upd F 6 (1 - x)) s b v p u t c) := by
  refine Ct.of mi_X6_isThere (Nat.le_of_ble_eq_true rfl) (ls0 := [(0, _), (1, _)]) rfl ?_
  intro Pp Ee Ss Mm Ar Bl Me Cc Y hs hnm
  refine V_aload_n Y.1 0 dX6_isThere_0 (rfl : _ = 1) rfl rfl ?_
  refine V_iload_n Y.1 1 dX6_isThere_1 (rfl : _ = 2) rfl rfl ?_
  refine V_if_eq Y.1 (tgt := 9) dX6_isThere_2 (by decide) (rfl : _ = 5) (fun c_2 => ?_) (fun c_2 => ?_)
  · refine V_iconst Y.1 (v := 1) dX6_isThere_9 (rfl : _ = 10) (by decide) ?_
    refine V_put Y.1 fi_X6_39 fw_X6 rfl rfl hM.1 (Or.inl ⟨by omega, by omega⟩) rfl rfl (Nat.le_of_ble_eq_true rfl) dX6_isThere_10 (rfl : _ = 13) (fun H10_4 h_new o_10 => ?_)
    have hM := hM.f6 o_10 h_new
    clear h_new
    refine V_iload_n Y.1 1 dX6_isThere_13 (rfl : _ = 14) rfl rfl ?_
    exact V_ret Y.1 dX6_isThere_14 (nb_z hx) (Nat.le_of_ble_eq_true rfl) (Nat.le_of_ble_eq_true rfl) ⟨rfl, by obtain rfl : x = 0 := c_2; exact hM⟩
  · refine V_iconst Y.1 (v := 0) dX6_isThere_5 (rfl : _ = 6) (by decide) ?_
    refine V_goto Y.1 (tgt := 10) dX6_isThere_6 (by decide) ?_
    refine V_put Y.1 fi_X6_39 fw_X6 rfl rfl hM.1 (Or.inl ⟨by omega, by omega⟩) rfl rfl (Nat.le_of_ble_eq_true rfl) dX6_isThere_10 (rfl : _ = 13) (fun H10_11 h_new o_10 => ?_)
    have hM := hM.f6 o_10 h_new
    clear h_new
    refine V_iload_n Y.1 1 dX6_isThere_13 (rfl : _ = 14) rfl rfl ?_
    exact V_ret Y.1 dX6_isThere_14 (nb_z hx) (Nat.le_of_ble_eq_true rfl) (Nat.le_of_ble_eq_true rfl) ⟨rfl, by obtain rfl : x = 1 := hx.resolve_left c_2; exact hM⟩

set_option maxRecDepth 100000 in
set_option maxHeartbeats 4000000 in
theorem c_X6_isCard (l : Launch) (D : va_G) (kA : Nat → ClassId) (H0 : Heap) (o : Nat) (F s b v p u t c : Nat → Int32) (x : Int32) (hM : Rs D kA H0 o F s b v p u t c)  : Ct l D kA yX6_isCard cX6_isCard 2 (some .boolean) 1 22 0 0 H0 [.ref o, .int x] (nof) (pI fun v9 H => v9 = r_in x 0 (s 0 - 1) ∧ H = H0) := by
  refine Ct.of mi_X6_isCard (Nat.le_of_ble_eq_true rfl) (ls0 := [(0, _), (1, _)]) rfl ?_
  intro Pp Ee Ss Mm Ar Bl Me Cc Y hs hnm
  refine V_iload_n Y.1 1 dX6_isCard_0 (rfl : _ = 1) rfl rfl ?_
  refine V_iconst Y.1 (v := 0) dX6_isCard_1 (rfl : _ = 2) (by decide) ?_
  refine V_aload_n Y.1 0 dX6_isCard_2 (rfl : _ = 3) rfl rfl ?_
  refine V_get Y.1 fi_X6_9 hM.1 rfl dX6_isCard_3 (rfl : _ = 6) ?_
  refine V_iconst Y.1 (v := 0) dX6_isCard_6 (rfl : _ = 7) (by decide) ?_
  refine V_iald Y.1 (v := s 0) hM.2.1 (by unfold vp_in; decide) rfl dX6_isCard_7 (rfl : _ = 8) ?_
  refine V_iconst Y.1 (v := 1) dX6_isCard_8 (rfl : _ = 9) (by decide) ?_
  refine V_isub Y.1 dX6_isCard_9 (rfl : _ = 10) ?_
  refine V_cP Y (rS Y (c_X6_in l D kA _ _ _ _) mi_X6_in si_X6_51 rfl rfl (Nat.le_of_ble_eq_true rfl) ⟨Nat.le_of_ble_eq_true rfl, Nat.le_of_ble_eq_true rfl⟩ (Nat.le_of_ble_eq_true rfl) (Nat.le_of_ble_eq_true rfl) dX6_isCard_10) (rfl : _ = 13) ?_
  exact V_ret Y.1 dX6_isCard_13 (nb_z (r_in_01 _ _ _)) (Nat.le_of_ble_eq_true rfl) (Nat.le_of_ble_eq_true rfl) ⟨rfl, rfl⟩

set_option maxRecDepth 100000 in
set_option maxHeartbeats 4000000 in
theorem c_X6_of (l : Launch) (D : va_G) (kA : Nat → ClassId) (H0 : Heap) (o : Nat) (F s b v p u t c : Nat → Int32) (i : Nat) (hi : i < 8) (w : Nat) (hw : w < 17) (hM : Rs D kA H0 o F s b v p u t c)  : Ct l D kA yX6_of cX6_of 3 (some .int) 0 0 0 0 H0 [.ref o, .int (nI i), .int (nI w)] (nof) (pI fun v9 H => v9 = ro s i w ∧ H = H0) := by
  refine Ct.of mi_X6_of (Nat.le_of_ble_eq_true rfl) (ls0 := [(0, _), (1, _), (2, _)]) rfl ?_
  intro Pp Ee Ss Mm Ar Bl Me Cc Y hs hnm
  refine V_aload_n Y.1 0 dX6_of_0 (rfl : _ = 1) rfl rfl ?_
  refine V_get Y.1 fi_X6_9 hM.1 rfl dX6_of_1 (rfl : _ = 4) ?_
  refine V_bipush Y.1 (v := 33) dX6_of_4 (rfl : _ = 6) (by decide) ?_
  refine V_bipush Y.1 (v := 17) dX6_of_6 (rfl : _ = 8) (by decide) ?_
  refine V_iload_n Y.1 1 dX6_of_8 (rfl : _ = 9) rfl rfl ?_
  refine V_imul Y.1 dX6_of_9 (rfl : _ = 10) ?_
  refine V_iadd Y.1 dX6_of_10 (rfl : _ = 11) ?_
  refine V_iload_n Y.1 2 dX6_of_11 (rfl : _ = 12) rfl rfl ?_
  refine V_iadd Y.1 dX6_of_12 (rfl : _ = 13) ?_
  refine V_nm (v := nI (33 + 17 * i + w)) r_wi ?_
  refine V_iald Y.1 (v := ro s i w) hM.2.1 (by first | assumption | exact vp_in_nI (by omega) (by omega)) (by rw [nI_clamp (by omega)]; rfl) dX6_of_13 (rfl : _ = 14) ?_
  exact V_ret Y.1 dX6_of_14 rfl (Nat.le_of_ble_eq_true rfl) (Nat.le_of_ble_eq_true rfl) ⟨rfl, rfl⟩

set_option maxRecDepth 100000 in
set_option maxHeartbeats 4000000 in
theorem c_X6_sets (l : Launch) (D : va_G) (kA : Nat → ClassId) (H0 : Heap) (o : Nat) (F s b v p u t c : Nat → Int32) (i : Nat) (hi : i < 8) (w : Nat) (hw : w < 17) (x : Int32) (hM : Rs D kA H0 o F s b v p u t c)  : Ct l D kA yX6_sets cX6_sets 4 none 0 0 0 0 H0 [.ref o, .int (nI i), .int (nI w), .int x] (blk o 8) (pV fun H => Rs D kA H o F (rw_ s i w x) b v p u t c) := by
  refine Ct.of mi_X6_sets (Nat.le_of_ble_eq_true rfl) (ls0 := [(0, _), (1, _), (2, _), (3, _)]) rfl ?_
  intro Pp Ee Ss Mm Ar Bl Me Cc Y hs hnm
  refine V_aload_n Y.1 0 dX6_sets_0 (rfl : _ = 1) rfl rfl ?_
  refine V_get Y.1 fi_X6_9 hM.1 rfl dX6_sets_1 (rfl : _ = 4) ?_
  refine V_bipush Y.1 (v := 33) dX6_sets_4 (rfl : _ = 6) (by decide) ?_
  refine V_bipush Y.1 (v := 17) dX6_sets_6 (rfl : _ = 8) (by decide) ?_
  refine V_iload_n Y.1 1 dX6_sets_8 (rfl : _ = 9) rfl rfl ?_
  refine V_imul Y.1 dX6_sets_9 (rfl : _ = 10) ?_
  refine V_iadd Y.1 dX6_sets_10 (rfl : _ = 11) ?_
  refine V_iload_n Y.1 2 dX6_sets_11 (rfl : _ = 12) rfl rfl ?_
  refine V_iadd Y.1 dX6_sets_12 (rfl : _ = 13) ?_
  refine V_nm (v := nI (33 + 17 * i + w)) r_wi ?_
  refine V_iload_n Y.1 3 dX6_sets_13 (rfl : _ = 14) rfl rfl ?_
  refine V_iast Y.1 hM.2.1 (Or.inl ⟨by omega, by omega⟩) (by first | assumption | exact vp_in_nI (by omega) (by omega)) dX6_sets_14 (rfl : _ = 15) (fun H14_11 h_new o_14 => ?_)
  rw [nI_clamp (by omega)] at h_new
  have hM := hM.a1 o_14 h_new
  clear h_new
  exact V_retV Y.1 dX6_sets_15 (Nat.le_of_ble_eq_true rfl) (Nat.le_of_ble_eq_true rfl) hM

set_option maxRecDepth 100000 in
set_option maxHeartbeats 4000000 in
theorem c_X6_today (l : Launch) (D : va_G) (kA : Nat → ClassId) (H0 : Heap) (o : Nat) (F s b v p u t c : Nat → Int32)  (hM : Rs D kA H0 o F s b v p u t c)  : Ct l D kA yX6_today cX6_today 1 (some .int) 0 0 0 0 H0 [.ref o] (nof) (pI fun v9 H => v9 = s 1 / 1440 ∧ H = H0) := by
  refine Ct.of mi_X6_today (Nat.le_of_ble_eq_true rfl) (ls0 := [(0, _)]) rfl ?_
  intro Pp Ee Ss Mm Ar Bl Me Cc Y hs hnm
  refine V_aload_n Y.1 0 dX6_today_0 (rfl : _ = 1) rfl rfl ?_
  refine V_get Y.1 fi_X6_9 hM.1 rfl dX6_today_1 (rfl : _ = 4) ?_
  refine V_iconst Y.1 (v := 1) dX6_today_4 (rfl : _ = 5) (by decide) ?_
  refine V_iald Y.1 (v := s 1) hM.2.1 (by unfold vp_in; decide) rfl dX6_today_5 (rfl : _ = 6) ?_
  refine V_sipush Y.1 (v := 1440) dX6_today_6 (rfl : _ = 9) (by decide) ?_
  refine V_idiv Y.1 dX6_today_9 (rfl : _ = 10) (by decide) ?_
  exact V_ret Y.1 dX6_today_10 rfl (Nat.le_of_ble_eq_true rfl) (Nat.le_of_ble_eq_true rfl) ⟨rfl, rfl⟩

set_option maxRecDepth 100000 in
set_option maxHeartbeats 4000000 in
theorem c_X6_paidOf (l : Launch) (D : va_G) (kA : Nat → ClassId) (H0 : Heap) (o : Nat) (F s b v p u t c : Nat → Int32) (i : Nat) (hi : i < 8) (x : Int32) (hM : Rs D kA H0 o F s b v p u t c)  : Ct l D kA yX6_paidOf cX6_paidOf 3 (some .int) 1 22 0 0 H0 [.ref o, .int (nI i), .int x] (nof) (pI fun v9 H => v9 = r_paid s i x ∧ H = H0) := by
  refine Ct.of mi_X6_paidOf (Nat.le_of_ble_eq_true rfl) (ls0 := [(0, _), (1, _), (2, _)]) rfl ?_
  intro Pp Ee Ss Mm Ar Bl Me Cc Y hs hnm
  refine V_aload_n Y.1 0 dX6_paidOf_0 (rfl : _ = 1) rfl rfl ?_
  refine V_iload_n Y.1 1 dX6_paidOf_1 (rfl : _ = 2) rfl rfl ?_
  refine V_iconst Y.1 (v := 0) dX6_paidOf_2 (rfl : _ = 3) (by decide) ?_
  refine V_cP Y (rV Y (c_X6_of l D kA _ _ _ _ _ _ _ _ _ _ i hi 0 (by decide) hM) mi_X6_of vi_X6_67 rfl hM.1 rfl rfl (Nat.le_of_ble_eq_true rfl) ⟨Nat.le_of_ble_eq_true rfl, Nat.le_of_ble_eq_true rfl⟩ (Nat.le_of_ble_eq_true rfl) (Nat.le_of_ble_eq_true rfl) dX6_paidOf_3) (rfl : _ = 6) ?_
  refine V_iconst Y.1 (v := 1) dX6_paidOf_6 (rfl : _ = 7) (by decide) ?_
  refine V_icmp_ne Y.1 (tgt := 16) dX6_paidOf_7 (by decide) (rfl : _ = 10) (fun c_7 => ?_) (fun c_7 => ?_)
  · refine V_iload_n Y.1 2 dX6_paidOf_16 (rfl : _ = 17) rfl rfl ?_
    exact V_ret Y.1 dX6_paidOf_17 rfl (Nat.le_of_ble_eq_true rfl) (Nat.le_of_ble_eq_true rfl) ⟨by simp [r_paid, *], rfl⟩
  · refine V_iload_n Y.1 2 dX6_paidOf_10 (rfl : _ = 11) rfl rfl ?_
    refine V_iconst Y.1 (v := 2) dX6_paidOf_11 (rfl : _ = 12) (by decide) ?_
    refine V_idiv Y.1 dX6_paidOf_12 (rfl : _ = 13) (by decide) ?_
    refine V_goto Y.1 (tgt := 17) dX6_paidOf_13 (by decide) ?_
    exact V_ret Y.1 dX6_paidOf_17 rfl (Nat.le_of_ble_eq_true rfl) (Nat.le_of_ble_eq_true rfl) ⟨by simp [r_paid, *], rfl⟩

set_option maxRecDepth 100000 in
set_option maxHeartbeats 4000000 in
theorem c_X6_cap (l : Launch) (D : va_G) (kA : Nat → ClassId) (H0 : Heap) (o : Nat) (F s b v p u t c : Nat → Int32) (i : Nat) (hi : i < 8) (hM : Rs D kA H0 o F s b v p u t c)  : Ct l D kA yX6_cap cX6_cap 2 (some .int) 1 22 0 0 H0 [.ref o, .int (nI i)] (nof) (pI fun v9 H => v9 = r_cap s i ∧ H = H0) := by
  refine Ct.of mi_X6_cap (Nat.le_of_ble_eq_true rfl) (ls0 := [(0, _), (1, _)]) rfl ?_
  intro Pp Ee Ss Mm Ar Bl Me Cc Y hs hnm
  refine V_aload_n Y.1 0 dX6_cap_0 (rfl : _ = 1) rfl rfl ?_
  refine V_iload_n Y.1 1 dX6_cap_1 (rfl : _ = 2) rfl rfl ?_
  refine V_iconst Y.1 (v := 0) dX6_cap_2 (rfl : _ = 3) (by decide) ?_
  refine V_cP Y (rV Y (c_X6_of l D kA _ _ _ _ _ _ _ _ _ _ i hi 0 (by decide) hM) mi_X6_of vi_X6_67 rfl hM.1 rfl rfl (Nat.le_of_ble_eq_true rfl) ⟨Nat.le_of_ble_eq_true rfl, Nat.le_of_ble_eq_true rfl⟩ (Nat.le_of_ble_eq_true rfl) (Nat.le_of_ble_eq_true rfl) dX6_cap_3) (rfl : _ = 6) ?_
  refine V_iconst Y.1 (v := 1) dX6_cap_6 (rfl : _ = 7) (by decide) ?_
  refine V_icmp_ne Y.1 (tgt := 16) dX6_cap_7 (by decide) (rfl : _ = 10) (fun c_7 => ?_) (fun c_7 => ?_)
  · refine V_sipush Y.1 (v := 700) dX6_cap_16 (rfl : _ = 19) (by decide) ?_
    exact V_ret Y.1 dX6_cap_19 rfl (Nat.le_of_ble_eq_true rfl) (Nat.le_of_ble_eq_true rfl) ⟨by simp [r_cap, *], rfl⟩
  · refine V_sipush Y.1 (v := 350) dX6_cap_10 (rfl : _ = 13) (by decide) ?_
    refine V_goto Y.1 (tgt := 19) dX6_cap_13 (by decide) ?_
    exact V_ret Y.1 dX6_cap_19 rfl (Nat.le_of_ble_eq_true rfl) (Nat.le_of_ble_eq_true rfl) ⟨by simp [r_cap, *], rfl⟩

set_option maxRecDepth 100000 in
set_option maxHeartbeats 4000000 in
theorem c_X6_sumOn (l : Launch) (D : va_G) (kA : Nat → ClassId) (H0 : Heap) (o : Nat) (F s b v p u t c : Nat → Int32) (i : Nat) (hi : i < 8) (d : Nat) (hd : d < 2 ^ 31) (hM : Rs D kA H0 o F s b v p u t c)  : Ct l D kA yX6_sumOn cX6_sumOn 4 (some .int) 1 22 0 0 H0 [.ref o, .int (nI i), .int (nI d)] (nof) (pI fun v9 H => v9 = r_sum s i d ∧ H = H0) := by
  refine Ct.of mi_X6_sumOn (Nat.le_of_ble_eq_true rfl) (ls0 := [(0, _), (1, _), (2, _)]) rfl ?_
  intro Pp Ee Ss Mm Ar Bl Me Cc Y hs hnm
  refine V_iload_n Y.1 2 dX6_sumOn_0 (rfl : _ = 1) rfl rfl ?_
  refine V_iconst Y.1 (v := 3) dX6_sumOn_1 (rfl : _ = 2) (by decide) ?_
  refine V_irem Y.1 dX6_sumOn_2 (rfl : _ = 3) (by decide) ?_
  refine V_nm (v := nI (d % 3)) (r_rem hd) ?_
  refine V_istore_n Y.1 (ls' := [(3, _), (0, _), (1, _), (2, _)]) dX6_sumOn_3 (rfl : _ = 4) rfl (by decide) rfl ?_
  refine V_aload_n Y.1 1 dX6_sumOn_4 (rfl : _ = 5) rfl rfl ?_
  refine V_iload_n Y.1 2 dX6_sumOn_5 (rfl : _ = 6) rfl rfl ?_
  refine V_bipush Y.1 (v := 14) dX6_sumOn_6 (rfl : _ = 8) (by decide) ?_
  refine V_iload_n Y.1 0 dX6_sumOn_8 (rfl : _ = 9) rfl rfl ?_
  refine V_iadd Y.1 dX6_sumOn_9 (rfl : _ = 10) ?_
  refine V_nm (v := nI (14 + d % 3)) (nI_add _ _) ?_
  refine V_cP Y (rV Y (c_X6_of l D kA _ _ _ _ _ _ _ _ _ _ i hi (14 + d % 3) (by have := Nat.mod_lt d (show 0 < 3 by decide); omega) hM) mi_X6_of vi_X6_67 rfl hM.1 rfl rfl (Nat.le_of_ble_eq_true rfl) ⟨Nat.le_of_ble_eq_true rfl, Nat.le_of_ble_eq_true rfl⟩ (Nat.le_of_ble_eq_true rfl) (Nat.le_of_ble_eq_true rfl) dX6_sumOn_10) (rfl : _ = 13) ?_
  refine V_iload_n Y.1 3 dX6_sumOn_13 (rfl : _ = 14) rfl rfl ?_
  refine V_icmp_ne Y.1 (tgt := 29) dX6_sumOn_14 (by decide) (rfl : _ = 17) (fun c_14 => ?_) (fun c_14 => ?_)
  · refine V_iconst Y.1 (v := 0) dX6_sumOn_29 (rfl : _ = 30) (by decide) ?_
    exact V_ret Y.1 dX6_sumOn_30 rfl (Nat.le_of_ble_eq_true rfl) (Nat.le_of_ble_eq_true rfl) ⟨by simp [r_sum, *], rfl⟩
  · refine V_aload_n Y.1 1 dX6_sumOn_17 (rfl : _ = 18) rfl rfl ?_
    refine V_iload_n Y.1 2 dX6_sumOn_18 (rfl : _ = 19) rfl rfl ?_
    refine V_bipush Y.1 (v := 11) dX6_sumOn_19 (rfl : _ = 21) (by decide) ?_
    refine V_iload_n Y.1 0 dX6_sumOn_21 (rfl : _ = 22) rfl rfl ?_
    refine V_iadd Y.1 dX6_sumOn_22 (rfl : _ = 23) ?_
    refine V_nm (v := nI (11 + d % 3)) (nI_add _ _) ?_
    refine V_cP Y (rV Y (c_X6_of l D kA _ _ _ _ _ _ _ _ _ _ i hi (11 + d % 3) (by have := Nat.mod_lt d (show 0 < 3 by decide); omega) hM) mi_X6_of vi_X6_67 rfl hM.1 rfl rfl (Nat.le_of_ble_eq_true rfl) ⟨Nat.le_of_ble_eq_true rfl, Nat.le_of_ble_eq_true rfl⟩ (Nat.le_of_ble_eq_true rfl) (Nat.le_of_ble_eq_true rfl) dX6_sumOn_23) (rfl : _ = 26) ?_
    refine V_goto Y.1 (tgt := 30) dX6_sumOn_26 (by decide) ?_
    exact V_ret Y.1 dX6_sumOn_30 rfl (Nat.le_of_ble_eq_true rfl) (Nat.le_of_ble_eq_true rfl) ⟨by simp [r_sum, *], rfl⟩

set_option maxRecDepth 100000 in
set_option maxHeartbeats 4000000 in
theorem c_X6_addsOn (l : Launch) (D : va_G) (kA : Nat → ClassId) (H0 : Heap) (o : Nat) (F s b v p u t c : Nat → Int32) (i : Nat) (hi : i < 8) (d : Nat) (hd : d < 2 ^ 31) (x : Int32) (hM : Rs D kA H0 o F s b v p u t c)  : Ct l D kA yX6_addsOn cX6_addsOn 5 none 2 45 0 0 H0 [.ref o, .int (nI i), .int (nI d), .int x] (blk o 8) (pV fun H => Rs D kA H o F (r_add s i d x) b v p u t c) := by
  refine Ct.of mi_X6_addsOn (Nat.le_of_ble_eq_true rfl) (ls0 := [(0, _), (1, _), (2, _), (3, _)]) rfl ?_
  intro Pp Ee Ss Mm Ar Bl Me Cc Y hs hnm
  refine V_aload_n Y.1 0 dX6_addsOn_0 (rfl : _ = 1) rfl rfl ?_
  refine V_iload_n Y.1 1 dX6_addsOn_1 (rfl : _ = 2) rfl rfl ?_
  refine V_iload_n Y.1 2 dX6_addsOn_2 (rfl : _ = 3) rfl rfl ?_
  refine V_cP Y (rV Y (c_X6_sumOn l D kA _ _ _ _ _ _ _ _ _ _ i hi d hd hM) mi_X6_sumOn vi_X6_70 rfl hM.1 rfl rfl (Nat.le_of_ble_eq_true rfl) ⟨Nat.le_of_ble_eq_true rfl, Nat.le_of_ble_eq_true rfl⟩ (Nat.le_of_ble_eq_true rfl) (Nat.le_of_ble_eq_true rfl) dX6_addsOn_3) (rfl : _ = 6) ?_
  refine V_iload_n Y.1 3 dX6_addsOn_6 (rfl : _ = 7) rfl rfl ?_
  refine V_iadd Y.1 dX6_addsOn_7 (rfl : _ = 8) ?_
  refine V_istore Y.1 (ls' := [(4, _), (0, _), (1, _), (2, _), (3, _)]) dX6_addsOn_8 (rfl : _ = 10) (by decide) rfl ?_
  refine V_aload_n Y.1 1 dX6_addsOn_10 (rfl : _ = 11) rfl rfl ?_
  refine V_iload_n Y.1 2 dX6_addsOn_11 (rfl : _ = 12) rfl rfl ?_
  refine V_bipush Y.1 (v := 11) dX6_addsOn_12 (rfl : _ = 14) (by decide) ?_
  refine V_iload_n Y.1 3 dX6_addsOn_14 (rfl : _ = 15) rfl rfl ?_
  refine V_iconst Y.1 (v := 3) dX6_addsOn_15 (rfl : _ = 16) (by decide) ?_
  refine V_irem Y.1 dX6_addsOn_16 (rfl : _ = 17) (by decide) ?_
  refine V_nm (v := nI (d % 3)) (r_rem hd) ?_
  refine V_iadd Y.1 dX6_addsOn_17 (rfl : _ = 18) ?_
  refine V_nm (v := nI (11 + d % 3)) (nI_add _ _) ?_
  refine V_iload Y.1 0 dX6_addsOn_18 (rfl : _ = 20) rfl ?_
  refine V_cV Y (rV Y (c_X6_sets l D kA _ _ _ _ _ _ _ _ _ _ i hi (11 + d % 3) (by have := Nat.mod_lt d (show 0 < 3 by decide); omega) _ hM) mi_X6_sets vi_X6_73 rfl hM.1 rfl rfl (Nat.le_of_ble_eq_true rfl) ⟨Nat.le_of_ble_eq_true rfl, Nat.le_of_ble_eq_true rfl⟩ (Nat.le_of_ble_eq_true rfl) (Nat.le_of_ble_eq_true rfl) dX6_addsOn_20) (fun q hq => Or.inl (blk_sub (by omega) (by omega) q hq)) (rfl : _ = 23) (fun H20_17 hq_20 o_20 => ?_)
  have hM := hq_20
  refine V_aload_n Y.1 1 dX6_addsOn_23 (rfl : _ = 24) rfl rfl ?_
  refine V_iload_n Y.1 2 dX6_addsOn_24 (rfl : _ = 25) rfl rfl ?_
  refine V_bipush Y.1 (v := 14) dX6_addsOn_25 (rfl : _ = 27) (by decide) ?_
  refine V_iload_n Y.1 3 dX6_addsOn_27 (rfl : _ = 28) rfl rfl ?_
  refine V_iconst Y.1 (v := 3) dX6_addsOn_28 (rfl : _ = 29) (by decide) ?_
  refine V_irem Y.1 dX6_addsOn_29 (rfl : _ = 30) (by decide) ?_
  refine V_nm (v := nI (d % 3)) (r_rem hd) ?_
  refine V_iadd Y.1 dX6_addsOn_30 (rfl : _ = 31) ?_
  refine V_nm (v := nI (14 + d % 3)) (nI_add _ _) ?_
  refine V_iload_n Y.1 3 dX6_addsOn_31 (rfl : _ = 32) rfl rfl ?_
  refine V_cV Y (rV Y (c_X6_sets l D kA _ _ _ _ _ _ _ _ _ _ i hi (14 + d % 3) (by have := Nat.mod_lt d (show 0 < 3 by decide); omega) _ hM) mi_X6_sets vi_X6_73 rfl hM.1 rfl rfl (Nat.le_of_ble_eq_true rfl) ⟨Nat.le_of_ble_eq_true rfl, Nat.le_of_ble_eq_true rfl⟩ (Nat.le_of_ble_eq_true rfl) (Nat.le_of_ble_eq_true rfl) dX6_addsOn_32) (fun q hq => Or.inl (blk_sub (by omega) (by omega) q hq)) (rfl : _ = 35) (fun H32_29 hq_32 o_32 => ?_)
  have hM := hq_32
  exact V_retV Y.1 dX6_addsOn_35 (Nat.le_of_ble_eq_true rfl) (Nat.le_of_ble_eq_true rfl) hM

set_option maxRecDepth 100000 in
set_option maxHeartbeats 4000000 in
theorem c_X6_left (l : Launch) (D : va_G) (kA : Nat → ClassId) (H0 : Heap) (o : Nat) (F s b v p u t c : Nat → Int32) (i : Nat) (hi : i < 8) (d : Nat) (hd : d < 2 ^ 31) (hM : Rs D kA H0 o F s b v p u t c) (ht : s 1 / 1440 = nI d) : Ct l D kA yX6_left cX6_left 2 (some .int) 2 45 0 0 H0 [.ref o, .int (nI i)] (nof) (pI fun v9 H => v9 = r_left s i d ∧ H = H0) := by
  refine Ct.of mi_X6_left (Nat.le_of_ble_eq_true rfl) (ls0 := [(0, _), (1, _)]) rfl ?_
  intro Pp Ee Ss Mm Ar Bl Me Cc Y hs hnm
  refine V_aload_n Y.1 0 dX6_left_0 (rfl : _ = 1) rfl rfl ?_
  refine V_iload_n Y.1 1 dX6_left_1 (rfl : _ = 2) rfl rfl ?_
  refine V_cP Y (rV Y (c_X6_cap l D kA _ _ _ _ _ _ _ _ _ _ i hi hM) mi_X6_cap vi_X6_77 rfl hM.1 rfl rfl (Nat.le_of_ble_eq_true rfl) ⟨Nat.le_of_ble_eq_true rfl, Nat.le_of_ble_eq_true rfl⟩ (Nat.le_of_ble_eq_true rfl) (Nat.le_of_ble_eq_true rfl) dX6_left_2) (rfl : _ = 5) ?_
  refine V_aload_n Y.1 0 dX6_left_5 (rfl : _ = 6) rfl rfl ?_
  refine V_iload_n Y.1 1 dX6_left_6 (rfl : _ = 7) rfl rfl ?_
  refine V_aload_n Y.1 0 dX6_left_7 (rfl : _ = 8) rfl rfl ?_
  refine V_cP Y (rV Y (c_X6_today l D kA _ _ _ _ _ _ _ _ _ _  hM) mi_X6_today vi_X6_81 rfl hM.1 rfl rfl (Nat.le_of_ble_eq_true rfl) ⟨Nat.le_of_ble_eq_true rfl, Nat.le_of_ble_eq_true rfl⟩ (Nat.le_of_ble_eq_true rfl) (Nat.le_of_ble_eq_true rfl) dX6_left_8) (rfl : _ = 11) ?_
  refine V_nm (v := nI d) ht ?_
  refine V_cP Y (rV Y (c_X6_sumOn l D kA _ _ _ _ _ _ _ _ _ _ i hi d hd hM) mi_X6_sumOn vi_X6_70 rfl hM.1 rfl rfl (Nat.le_of_ble_eq_true rfl) ⟨Nat.le_of_ble_eq_true rfl, Nat.le_of_ble_eq_true rfl⟩ (Nat.le_of_ble_eq_true rfl) (Nat.le_of_ble_eq_true rfl) dX6_left_11) (rfl : _ = 14) ?_
  refine V_isub Y.1 dX6_left_14 (rfl : _ = 15) ?_
  exact V_ret Y.1 dX6_left_15 rfl (Nat.le_of_ble_eq_true rfl) (Nat.le_of_ble_eq_true rfl) ⟨rfl, rfl⟩

set_option maxRecDepth 100000 in
set_option maxHeartbeats 4000000 in
theorem c_X6_charges (l : Launch) (D : va_G) (kA : Nat → ClassId) (H0 : Heap) (o : Nat) (F s b v p u t c : Nat → Int32) (i : Nat) (hi : i < 8) (d : Nat) (hd : d < 2 ^ 31) (x : Int32) (hM : Rs D kA H0 o F s b v p u t c) (ht : s 1 / 1440 = nI d) : Ct l D kA yX6_charges cX6_charges 4 (some .int) 3 69 0 0 H0 [.ref o, .int (nI i), .int x] (blk o 8) (pI fun v9 H => v9 = r_chg s i d x ∧ Rs D kA H o F (r_pay s i d (r_chg s i d x)) b v p u t c) := by
  refine Ct.of mi_X6_charges (Nat.le_of_ble_eq_true rfl) (ls0 := [(0, _), (1, _), (2, _)]) rfl ?_
  intro Pp Ee Ss Mm Ar Bl Me Cc Y hs hnm
  refine V_iload_n Y.1 2 dX6_charges_0 (rfl : _ = 1) rfl rfl ?_
  refine V_aload_n Y.1 0 dX6_charges_1 (rfl : _ = 2) rfl rfl ?_
  refine V_iload_n Y.1 1 dX6_charges_2 (rfl : _ = 3) rfl rfl ?_
  refine V_cP Y (rV Y (c_X6_left l D kA _ _ _ _ _ _ _ _ _ _ i hi d hd hM ht) mi_X6_left vi_X6_85 rfl hM.1 rfl rfl (Nat.le_of_ble_eq_true rfl) ⟨Nat.le_of_ble_eq_true rfl, Nat.le_of_ble_eq_true rfl⟩ (Nat.le_of_ble_eq_true rfl) (Nat.le_of_ble_eq_true rfl) dX6_charges_3) (rfl : _ = 6) ?_
  refine V_mmin Y.1 mw_X6_55 (Nat.le_of_ble_eq_true rfl) (Nat.le_of_ble_eq_true rfl) (Nat.le_of_ble_eq_true rfl) (Nat.le_of_ble_eq_true rfl) dX6_charges_6 (rfl : _ = 9) ?_
  refine V_nm (v := r_chg s i d x) rfl ?_
  refine V_istore_n Y.1 (ls' := [(3, _), (0, _), (1, _), (2, _)]) dX6_charges_9 (rfl : _ = 10) rfl (by decide) rfl ?_
  refine V_aload_n Y.1 1 dX6_charges_10 (rfl : _ = 11) rfl rfl ?_
  refine V_iload_n Y.1 2 dX6_charges_11 (rfl : _ = 12) rfl rfl ?_
  refine V_aload_n Y.1 1 dX6_charges_12 (rfl : _ = 13) rfl rfl ?_
  refine V_cP Y (rV Y (c_X6_today l D kA _ _ _ _ _ _ _ _ _ _  hM) mi_X6_today vi_X6_81 rfl hM.1 rfl rfl (Nat.le_of_ble_eq_true rfl) ⟨Nat.le_of_ble_eq_true rfl, Nat.le_of_ble_eq_true rfl⟩ (Nat.le_of_ble_eq_true rfl) (Nat.le_of_ble_eq_true rfl) dX6_charges_13) (rfl : _ = 16) ?_
  refine V_nm (v := nI d) ht ?_
  refine V_iload_n Y.1 0 dX6_charges_16 (rfl : _ = 17) rfl rfl ?_
  refine V_cV Y (rV Y (c_X6_addsOn l D kA _ _ _ _ _ _ _ _ _ _ i hi d hd _ hM) mi_X6_addsOn vi_X6_88 rfl hM.1 rfl rfl (Nat.le_of_ble_eq_true rfl) ⟨Nat.le_of_ble_eq_true rfl, Nat.le_of_ble_eq_true rfl⟩ (Nat.le_of_ble_eq_true rfl) (Nat.le_of_ble_eq_true rfl) dX6_charges_17) (fun q hq => Or.inl (blk_sub (by omega) (by omega) q hq)) (rfl : _ = 20) (fun H17_13 hq_17 o_17 => ?_)
  have hM := hq_17
  refine V_aload_n Y.1 1 dX6_charges_20 (rfl : _ = 21) rfl rfl ?_
  refine V_iload_n Y.1 2 dX6_charges_21 (rfl : _ = 22) rfl rfl ?_
  refine V_iconst Y.1 (v := 1) dX6_charges_22 (rfl : _ = 23) (by decide) ?_
  refine V_aload_n Y.1 1 dX6_charges_23 (rfl : _ = 24) rfl rfl ?_
  refine V_iload_n Y.1 2 dX6_charges_24 (rfl : _ = 25) rfl rfl ?_
  refine V_iconst Y.1 (v := 1) dX6_charges_25 (rfl : _ = 26) (by decide) ?_
  refine V_cP Y (rV Y (c_X6_of l D kA _ _ _ _ _ _ _ _ _ _ i hi 1 (by decide) hM) mi_X6_of vi_X6_67 rfl hM.1 rfl rfl (Nat.le_of_ble_eq_true rfl) ⟨Nat.le_of_ble_eq_true rfl, Nat.le_of_ble_eq_true rfl⟩ (Nat.le_of_ble_eq_true rfl) (Nat.le_of_ble_eq_true rfl) dX6_charges_26) (rfl : _ = 29) ?_
  refine V_iload_n Y.1 0 dX6_charges_29 (rfl : _ = 30) rfl rfl ?_
  refine V_isub Y.1 dX6_charges_30 (rfl : _ = 31) ?_
  refine V_cV Y (rV Y (c_X6_sets l D kA _ _ _ _ _ _ _ _ _ _ i hi 1 (by decide) _ hM) mi_X6_sets vi_X6_73 rfl hM.1 rfl rfl (Nat.le_of_ble_eq_true rfl) ⟨Nat.le_of_ble_eq_true rfl, Nat.le_of_ble_eq_true rfl⟩ (Nat.le_of_ble_eq_true rfl) (Nat.le_of_ble_eq_true rfl) dX6_charges_31) (fun q hq => Or.inl (blk_sub (by omega) (by omega) q hq)) (rfl : _ = 34) (fun H31_24 hq_31 o_31 => ?_)
  have hM := hq_31
  refine V_aload_n Y.1 1 dX6_charges_34 (rfl : _ = 35) rfl rfl ?_
  refine V_get Y.1 fi_X6_9 hM.1 rfl dX6_charges_35 (rfl : _ = 38) ?_
  refine V_iconst Y.1 (v := 5) dX6_charges_38 (rfl : _ = 39) (by decide) ?_
  refine V_dup2 Y.1 dX6_charges_39 (rfl : _ = 40) rfl rfl ?_
  refine V_iald Y.1 hM.2.1 (by unfold vp_in; decide) rfl dX6_charges_40 (rfl : _ = 41) ?_
  refine V_iload_n Y.1 0 dX6_charges_41 (rfl : _ = 42) rfl rfl ?_
  refine V_iadd Y.1 dX6_charges_42 (rfl : _ = 43) ?_
  refine V_iast Y.1 hM.2.1 (Or.inl ⟨by omega, by omega⟩) (by unfold vp_in; decide) dX6_charges_43 (rfl : _ = 44) (fun H43_33 h_new o_43 => ?_)
  have h_new : hp D _ _ (eI kA 169 (upd _ 5 _)) := h_new
  have hM := hM.a1 o_43 h_new
  clear h_new
  refine V_iload_n Y.1 0 dX6_charges_44 (rfl : _ = 45) rfl rfl ?_
  exact V_ret Y.1 dX6_charges_45 rfl (Nat.le_of_ble_eq_true rfl) (Nat.le_of_ble_eq_true rfl) ⟨rfl, hM⟩

set_option maxRecDepth 100000 in
set_option maxHeartbeats 4000000 in
theorem c_X6_loses (l : Launch) (D : va_G) (kA : Nat → ClassId) (H0 : Heap) (o : Nat) (F s b v p u t c : Nat → Int32) (i : Nat) (hi : i < 8) (d : Nat) (hd : d < 2 ^ 31) (hM : Rs D kA H0 o F s b v p u t c) (ht : s 1 / 1440 = nI d) : Ct l D kA yX6_loses cX6_loses 3 none 4 92 0 0 H0 [.ref o, .int (nI i)] (blk o 8) (pV fun H => Rs D kA H o F (r_loses s i d) b v p u t c) := by
  refine Ct.of mi_X6_loses (Nat.le_of_ble_eq_true rfl) (ls0 := [(0, _), (1, _)]) rfl ?_
  intro Pp Ee Ss Mm Ar Bl Me Cc Y hs hnm
  refine V_aload_n Y.1 0 dX6_loses_0 (rfl : _ = 1) rfl rfl ?_
  refine V_iload_n Y.1 1 dX6_loses_1 (rfl : _ = 2) rfl rfl ?_
  refine V_aload_n Y.1 0 dX6_loses_2 (rfl : _ = 3) rfl rfl ?_
  refine V_iload_n Y.1 1 dX6_loses_3 (rfl : _ = 4) rfl rfl ?_
  refine V_aload_n Y.1 0 dX6_loses_4 (rfl : _ = 5) rfl rfl ?_
  refine V_get Y.1 fi_X6_9 hM.1 rfl dX6_loses_5 (rfl : _ = 8) ?_
  refine V_iconst Y.1 (v := 2) dX6_loses_8 (rfl : _ = 9) (by decide) ?_
  refine V_iald Y.1 (v := s 2) hM.2.1 (by unfold vp_in; decide) rfl dX6_loses_9 (rfl : _ = 10) ?_
  refine V_iconst Y.1 (v := 5) dX6_loses_10 (rfl : _ = 11) (by decide) ?_
  refine V_aload_n Y.1 0 dX6_loses_11 (rfl : _ = 12) rfl rfl ?_
  refine V_get Y.1 fi_X6_9 hM.1 rfl dX6_loses_12 (rfl : _ = 15) ?_
  refine V_iconst Y.1 (v := 3) dX6_loses_15 (rfl : _ = 16) (by decide) ?_
  refine V_iald Y.1 (v := s 3) hM.2.1 (by unfold vp_in; decide) rfl dX6_loses_16 (rfl : _ = 17) ?_
  refine V_imul Y.1 dX6_loses_17 (rfl : _ = 18) ?_
  refine V_iadd Y.1 dX6_loses_18 (rfl : _ = 19) ?_
  refine V_cP Y (rV Y (c_X6_paidOf l D kA _ _ _ _ _ _ _ _ _ _ i hi _ hM) mi_X6_paidOf vi_X6_91 rfl hM.1 rfl rfl (Nat.le_of_ble_eq_true rfl) ⟨Nat.le_of_ble_eq_true rfl, Nat.le_of_ble_eq_true rfl⟩ (Nat.le_of_ble_eq_true rfl) (Nat.le_of_ble_eq_true rfl) dX6_loses_19) (rfl : _ = 22) ?_
  refine V_cI Y (rV Y (c_X6_charges l D kA _ _ _ _ _ _ _ _ _ _ i hi d hd _ hM ht) mi_X6_charges vi_X6_94 rfl hM.1 rfl rfl (Nat.le_of_ble_eq_true rfl) ⟨Nat.le_of_ble_eq_true rfl, Nat.le_of_ble_eq_true rfl⟩ (Nat.le_of_ble_eq_true rfl) (Nat.le_of_ble_eq_true rfl) dX6_loses_22) (fun q hq => Or.inl (blk_sub (by omega) (by omega) q hq)) (rfl : _ = 25) (fun v_22 H22_16 hq_22 o_22 => ?_)
  obtain ⟨e22, hM⟩ := hq_22
  refine V_nm (v := r_lossX s i d) e22 ?_
  refine V_istore_n Y.1 (ls' := [(2, _), (0, _), (1, _)]) dX6_loses_25 (rfl : _ = 26) rfl (by decide) rfl ?_
  refine V_aload_n Y.1 1 dX6_loses_26 (rfl : _ = 27) rfl rfl ?_
  refine V_iload_n Y.1 2 dX6_loses_27 (rfl : _ = 28) rfl rfl ?_
  refine V_bipush Y.1 (v := 8) dX6_loses_28 (rfl : _ = 30) (by decide) ?_
  refine V_aload_n Y.1 1 dX6_loses_30 (rfl : _ = 31) rfl rfl ?_
  refine V_iload_n Y.1 2 dX6_loses_31 (rfl : _ = 32) rfl rfl ?_
  refine V_iconst Y.1 (v := 2) dX6_loses_32 (rfl : _ = 33) (by decide) ?_
  refine V_cP Y (rV Y (c_X6_of l D kA _ _ _ _ _ _ _ _ _ _ i hi 2 (by decide) hM) mi_X6_of vi_X6_67 rfl hM.1 rfl rfl (Nat.le_of_ble_eq_true rfl) ⟨Nat.le_of_ble_eq_true rfl, Nat.le_of_ble_eq_true rfl⟩ (Nat.le_of_ble_eq_true rfl) (Nat.le_of_ble_eq_true rfl) dX6_loses_33) (rfl : _ = 36) ?_
  refine V_cV Y (rV Y (c_X6_sets l D kA _ _ _ _ _ _ _ _ _ _ i hi 8 (by decide) _ hM) mi_X6_sets vi_X6_73 rfl hM.1 rfl rfl (Nat.le_of_ble_eq_true rfl) ⟨Nat.le_of_ble_eq_true rfl, Nat.le_of_ble_eq_true rfl⟩ (Nat.le_of_ble_eq_true rfl) (Nat.le_of_ble_eq_true rfl) dX6_loses_36) (fun q hq => Or.inl (blk_sub (by omega) (by omega) q hq)) (rfl : _ = 39) (fun H36_27 hq_36 o_36 => ?_)
  have hM := hq_36
  refine V_aload_n Y.1 1 dX6_loses_39 (rfl : _ = 40) rfl rfl ?_
  refine V_iload_n Y.1 2 dX6_loses_40 (rfl : _ = 41) rfl rfl ?_
  refine V_bipush Y.1 (v := 9) dX6_loses_41 (rfl : _ = 43) (by decide) ?_
  refine V_aload_n Y.1 1 dX6_loses_43 (rfl : _ = 44) rfl rfl ?_
  refine V_cP Y (rV Y (c_X6_today l D kA _ _ _ _ _ _ _ _ _ _  hM) mi_X6_today vi_X6_81 rfl hM.1 rfl rfl (Nat.le_of_ble_eq_true rfl) ⟨Nat.le_of_ble_eq_true rfl, Nat.le_of_ble_eq_true rfl⟩ (Nat.le_of_ble_eq_true rfl) (Nat.le_of_ble_eq_true rfl) dX6_loses_44) (rfl : _ = 47) ?_
  refine V_nm (v := nI d) (by rw [rw_lo (by omega), r_pay_lo (by omega) (by omega)]; exact ht) ?_
  refine V_cV Y (rV Y (c_X6_sets l D kA _ _ _ _ _ _ _ _ _ _ i hi 9 (by decide) _ hM) mi_X6_sets vi_X6_73 rfl hM.1 rfl rfl (Nat.le_of_ble_eq_true rfl) ⟨Nat.le_of_ble_eq_true rfl, Nat.le_of_ble_eq_true rfl⟩ (Nat.le_of_ble_eq_true rfl) (Nat.le_of_ble_eq_true rfl) dX6_loses_47) (fun q hq => Or.inl (blk_sub (by omega) (by omega) q hq)) (rfl : _ = 50) (fun H47_35 hq_47 o_47 => ?_)
  have hM := hq_47
  refine V_aload_n Y.1 1 dX6_loses_50 (rfl : _ = 51) rfl rfl ?_
  refine V_iload_n Y.1 2 dX6_loses_51 (rfl : _ = 52) rfl rfl ?_
  refine V_bipush Y.1 (v := 10) dX6_loses_52 (rfl : _ = 54) (by decide) ?_
  refine V_iload_n Y.1 0 dX6_loses_54 (rfl : _ = 55) rfl rfl ?_
  refine V_cV Y (rV Y (c_X6_sets l D kA _ _ _ _ _ _ _ _ _ _ i hi 10 (by decide) _ hM) mi_X6_sets vi_X6_73 rfl hM.1 rfl rfl (Nat.le_of_ble_eq_true rfl) ⟨Nat.le_of_ble_eq_true rfl, Nat.le_of_ble_eq_true rfl⟩ (Nat.le_of_ble_eq_true rfl) (Nat.le_of_ble_eq_true rfl) dX6_loses_55) (fun q hq => Or.inl (blk_sub (by omega) (by omega) q hq)) (rfl : _ = 58) (fun H55_41 hq_55 o_55 => ?_)
  have hM := hq_55
  refine V_aload_n Y.1 1 dX6_loses_58 (rfl : _ = 59) rfl rfl ?_
  refine V_iload_n Y.1 2 dX6_loses_59 (rfl : _ = 60) rfl rfl ?_
  refine V_iconst Y.1 (v := 2) dX6_loses_60 (rfl : _ = 61) (by decide) ?_
  refine V_iconst Y.1 (v := -1) dX6_loses_61 (rfl : _ = 62) (by decide) ?_
  refine V_cV Y (rV Y (c_X6_sets l D kA _ _ _ _ _ _ _ _ _ _ i hi 2 (by decide) _ hM) mi_X6_sets vi_X6_73 rfl hM.1 rfl rfl (Nat.le_of_ble_eq_true rfl) ⟨Nat.le_of_ble_eq_true rfl, Nat.le_of_ble_eq_true rfl⟩ (Nat.le_of_ble_eq_true rfl) (Nat.le_of_ble_eq_true rfl) dX6_loses_62) (fun q hq => Or.inl (blk_sub (by omega) (by omega) q hq)) (rfl : _ = 65) (fun H62_47 hq_62 o_62 => ?_)
  have hM := hq_62
  refine V_aload_n Y.1 1 dX6_loses_65 (rfl : _ = 66) rfl rfl ?_
  refine V_iload_n Y.1 2 dX6_loses_66 (rfl : _ = 67) rfl rfl ?_
  refine V_bipush Y.1 (v := 6) dX6_loses_67 (rfl : _ = 69) (by decide) ?_
  refine V_iconst Y.1 (v := -1) dX6_loses_69 (rfl : _ = 70) (by decide) ?_
  refine V_cV Y (rV Y (c_X6_sets l D kA _ _ _ _ _ _ _ _ _ _ i hi 6 (by decide) _ hM) mi_X6_sets vi_X6_73 rfl hM.1 rfl rfl (Nat.le_of_ble_eq_true rfl) ⟨Nat.le_of_ble_eq_true rfl, Nat.le_of_ble_eq_true rfl⟩ (Nat.le_of_ble_eq_true rfl) (Nat.le_of_ble_eq_true rfl) dX6_loses_70) (fun q hq => Or.inl (blk_sub (by omega) (by omega) q hq)) (rfl : _ = 73) (fun H70_53 hq_70 o_70 => ?_)
  have hM := hq_70
  refine V_aload_n Y.1 1 dX6_loses_73 (rfl : _ = 74) rfl rfl ?_
  refine V_get Y.1 fi_X6_9 hM.1 rfl dX6_loses_74 (rfl : _ = 77) ?_
  refine V_bipush Y.1 (v := 8) dX6_loses_77 (rfl : _ = 79) (by decide) ?_
  refine V_dup2 Y.1 dX6_loses_79 (rfl : _ = 80) rfl rfl ?_
  refine V_iald Y.1 hM.2.1 (by unfold vp_in; decide) rfl dX6_loses_80 (rfl : _ = 81) ?_
  refine V_iconst Y.1 (v := 1) dX6_loses_81 (rfl : _ = 82) (by decide) ?_
  refine V_iadd Y.1 dX6_loses_82 (rfl : _ = 83) ?_
  refine V_iast Y.1 hM.2.1 (Or.inl ⟨by omega, by omega⟩) (by unfold vp_in; decide) dX6_loses_83 (rfl : _ = 84) (fun H83_62 h_new o_83 => ?_)
  have h_new : hp D _ _ (eI kA 169 (upd _ 8 _)) := h_new
  have hM := hM.a1 o_83 h_new
  clear h_new
  exact V_retV Y.1 dX6_loses_84 (Nat.le_of_ble_eq_true rfl) (Nat.le_of_ble_eq_true rfl) hM

set_option maxRecDepth 100000 in
set_option maxHeartbeats 4000000 in
theorem c_X6_zones (l : Launch) (D : va_G) (kA : Nat → ClassId) (H0 : Heap) (o : Nat) (F s b v p u t c : Nat → Int32) (f g : Nat) (hf : f < 12) (hg : g < 12) (hM : Rs D kA H0 o F s b v p u t c)  : Ct l D kA yX6_zones cX6_zones 6 (some .int) 1 24 0 0 H0 [.ref o, .int (nI f), .int (nI g)] (nof) (pI fun v9 H => v9 = r_zones s f g ∧ H = H0) := by
  refine Ct.of mi_X6_zones (Nat.le_of_ble_eq_true rfl) (ls0 := [(0, _), (1, _), (2, _)]) rfl ?_
  intro Pp Ee Ss Mm Ar Bl Me Cc Y hs hnm
  refine V_iconst Y.1 (v := 0) dX6_zones_0 (rfl : _ = 1) (by decide) ?_
  refine V_istore_n Y.1 (ls' := [(3, _), (0, _), (1, _), (2, _)]) dX6_zones_1 (rfl : _ = 2) rfl (by decide) rfl ?_
  refine V_iload_n Y.1 2 dX6_zones_2 (rfl : _ = 3) rfl rfl ?_
  refine V_iload_n Y.1 3 dX6_zones_3 (rfl : _ = 4) rfl rfl ?_
  refine V_mmin Y.1 mw_X6_55 (Nat.le_of_ble_eq_true rfl) (Nat.le_of_ble_eq_true rfl) (Nat.le_of_ble_eq_true rfl) (Nat.le_of_ble_eq_true rfl) dX6_zones_4 (rfl : _ = 7) ?_
  refine V_nm (v := nI (min f g)) (mn_nI (by omega) (by omega)) ?_
  refine V_istore Y.1 (ls' := [(4, _), (3, _), (0, _), (1, _), (2, _)]) dX6_zones_7 (rfl : _ = 9) (by decide) rfl ?_
  have lp : ∀ (n k : Nat), min f g + k + n = max f g + 1 → V Pp l Ee (rmO 1 24 0 0) Ss Mm Ar Bl Me Cc 6 (AA H0 (nof)) (QC Bl Ar Ss 0 0 H0 (nof) (pI fun v9 H => v9 = r_zones s f g ∧ H = H0)) H0 0 0 9 [(4, .int (nI (min f g + k))), (3, .int (ln_set (r_zn s) (min f g) k)), (0, .ref o), (1, .int (nI f)), (2, .int (nI g))] [] := by
    intro n
    induction n with
    | zero =>
      intro k hk
      refine V_iload Y.1 0 dX6_zones_9 (rfl : _ = 11) rfl ?_
      refine V_iload_n Y.1 3 dX6_zones_11 (rfl : _ = 12) rfl rfl ?_
      refine V_iload_n Y.1 4 dX6_zones_12 (rfl : _ = 13) rfl rfl ?_
      refine V_mmax Y.1 mw_X6_61 (Nat.le_of_ble_eq_true rfl) (Nat.le_of_ble_eq_true rfl) (Nat.le_of_ble_eq_true rfl) (Nat.le_of_ble_eq_true rfl) dX6_zones_13 (rfl : _ = 16) ?_
      refine V_nm (v := nI (max f g)) (mx_nI (by omega) (by omega)) ?_
      refine V_icmp_gt Y.1 (tgt := 40) dX6_zones_16 (by decide) (rfl : _ = 19) (fun _ => ?_) (fun c_n => absurd (by simp (disch := omega) only [Int32.lt_iff_toInt_lt, Int32.le_iff_toInt_le, ge_iff_le, gt_iff_lt, nI_toInt, Int32.reduceToInt] ; omega) c_n)
      refine V_iconst Y.1 (v := 0) dX6_zones_40 (rfl : _ = 41) (by decide) ?_
      refine V_istore Y.1 (ls' := [(4, _), (3, _), (0, _), (1, _), (2, _)]) dX6_zones_41 (rfl : _ = 43) (by decide) rfl ?_
      refine V_iconst Y.1 (v := 1) dX6_zones_43 (rfl : _ = 44) (by decide) ?_
      refine V_istore Y.1 (ls' := [(5, _), (4, _), (3, _), (0, _), (1, _), (2, _)]) dX6_zones_44 (rfl : _ = 46) (by decide) rfl ?_
      refine V_iload Y.1 0 dX6_zones_46 (rfl : _ = 48) rfl ?_
      refine V_bipush Y.1 (v := 6) dX6_zones_48 (rfl : _ = 50) (by decide) ?_
      refine V_icmp_gt Y.1 (tgt := 70) dX6_zones_50 (by decide) (rfl : _ = 53) (fun c_n => absurd c_n (by decide)) (fun _ => ?_)
      refine V_iload Y.1 1 dX6_zones_53 (rfl : _ = 55) rfl ?_
      refine V_iload_n Y.1 2 dX6_zones_55 (rfl : _ = 56) rfl rfl ?_
      refine V_iload Y.1 0 dX6_zones_56 (rfl : _ = 58) rfl ?_
      refine V_ishr Y.1 dX6_zones_58 (rfl : _ = 59) ?_
      refine V_iconst Y.1 (v := 1) dX6_zones_59 (rfl : _ = 60) (by decide) ?_
      refine V_iand Y.1 dX6_zones_60 (rfl : _ = 61) ?_
      refine V_iadd Y.1 dX6_zones_61 (rfl : _ = 62) ?_
      refine V_istore Y.1 (ls' := [(4, _), (5, _), (3, _), (0, _), (1, _), (2, _)]) dX6_zones_62 (rfl : _ = 64) (by decide) rfl ?_
      refine V_iinc Y.1 (v := 2) (ls' := [(5, _), (4, _), (3, _), (0, _), (1, _), (2, _)]) 1 dX6_zones_64 (rfl : _ = 67) rfl (by decide) (by decide) rfl ?_
      refine V_goto Y.1 (tgt := 46) dX6_zones_67 (by decide) ?_
      refine V_iload Y.1 0 dX6_zones_46 (rfl : _ = 48) rfl ?_
      refine V_bipush Y.1 (v := 6) dX6_zones_48 (rfl : _ = 50) (by decide) ?_
      refine V_icmp_gt Y.1 (tgt := 70) dX6_zones_50 (by decide) (rfl : _ = 53) (fun c_n => absurd c_n (by decide)) (fun _ => ?_)
      refine V_iload Y.1 1 dX6_zones_53 (rfl : _ = 55) rfl ?_
      refine V_iload_n Y.1 2 dX6_zones_55 (rfl : _ = 56) rfl rfl ?_
      refine V_iload Y.1 0 dX6_zones_56 (rfl : _ = 58) rfl ?_
      refine V_ishr Y.1 dX6_zones_58 (rfl : _ = 59) ?_
      refine V_iconst Y.1 (v := 1) dX6_zones_59 (rfl : _ = 60) (by decide) ?_
      refine V_iand Y.1 dX6_zones_60 (rfl : _ = 61) ?_
      refine V_iadd Y.1 dX6_zones_61 (rfl : _ = 62) ?_
      refine V_istore Y.1 (ls' := [(4, _), (5, _), (3, _), (0, _), (1, _), (2, _)]) dX6_zones_62 (rfl : _ = 64) (by decide) rfl ?_
      refine V_iinc Y.1 (v := 3) (ls' := [(5, _), (4, _), (3, _), (0, _), (1, _), (2, _)]) 1 dX6_zones_64 (rfl : _ = 67) rfl (by decide) (by decide) rfl ?_
      refine V_goto Y.1 (tgt := 46) dX6_zones_67 (by decide) ?_
      refine V_iload Y.1 0 dX6_zones_46 (rfl : _ = 48) rfl ?_
      refine V_bipush Y.1 (v := 6) dX6_zones_48 (rfl : _ = 50) (by decide) ?_
      refine V_icmp_gt Y.1 (tgt := 70) dX6_zones_50 (by decide) (rfl : _ = 53) (fun c_n => absurd c_n (by decide)) (fun _ => ?_)
      refine V_iload Y.1 1 dX6_zones_53 (rfl : _ = 55) rfl ?_
      refine V_iload_n Y.1 2 dX6_zones_55 (rfl : _ = 56) rfl rfl ?_
      refine V_iload Y.1 0 dX6_zones_56 (rfl : _ = 58) rfl ?_
      refine V_ishr Y.1 dX6_zones_58 (rfl : _ = 59) ?_
      refine V_iconst Y.1 (v := 1) dX6_zones_59 (rfl : _ = 60) (by decide) ?_
      refine V_iand Y.1 dX6_zones_60 (rfl : _ = 61) ?_
      refine V_iadd Y.1 dX6_zones_61 (rfl : _ = 62) ?_
      refine V_istore Y.1 (ls' := [(4, _), (5, _), (3, _), (0, _), (1, _), (2, _)]) dX6_zones_62 (rfl : _ = 64) (by decide) rfl ?_
      refine V_iinc Y.1 (v := 4) (ls' := [(5, _), (4, _), (3, _), (0, _), (1, _), (2, _)]) 1 dX6_zones_64 (rfl : _ = 67) rfl (by decide) (by decide) rfl ?_
      refine V_goto Y.1 (tgt := 46) dX6_zones_67 (by decide) ?_
      refine V_iload Y.1 0 dX6_zones_46 (rfl : _ = 48) rfl ?_
      refine V_bipush Y.1 (v := 6) dX6_zones_48 (rfl : _ = 50) (by decide) ?_
      refine V_icmp_gt Y.1 (tgt := 70) dX6_zones_50 (by decide) (rfl : _ = 53) (fun c_n => absurd c_n (by decide)) (fun _ => ?_)
      refine V_iload Y.1 1 dX6_zones_53 (rfl : _ = 55) rfl ?_
      refine V_iload_n Y.1 2 dX6_zones_55 (rfl : _ = 56) rfl rfl ?_
      refine V_iload Y.1 0 dX6_zones_56 (rfl : _ = 58) rfl ?_
      refine V_ishr Y.1 dX6_zones_58 (rfl : _ = 59) ?_
      refine V_iconst Y.1 (v := 1) dX6_zones_59 (rfl : _ = 60) (by decide) ?_
      refine V_iand Y.1 dX6_zones_60 (rfl : _ = 61) ?_
      refine V_iadd Y.1 dX6_zones_61 (rfl : _ = 62) ?_
      refine V_istore Y.1 (ls' := [(4, _), (5, _), (3, _), (0, _), (1, _), (2, _)]) dX6_zones_62 (rfl : _ = 64) (by decide) rfl ?_
      refine V_iinc Y.1 (v := 5) (ls' := [(5, _), (4, _), (3, _), (0, _), (1, _), (2, _)]) 1 dX6_zones_64 (rfl : _ = 67) rfl (by decide) (by decide) rfl ?_
      refine V_goto Y.1 (tgt := 46) dX6_zones_67 (by decide) ?_
      refine V_iload Y.1 0 dX6_zones_46 (rfl : _ = 48) rfl ?_
      refine V_bipush Y.1 (v := 6) dX6_zones_48 (rfl : _ = 50) (by decide) ?_
      refine V_icmp_gt Y.1 (tgt := 70) dX6_zones_50 (by decide) (rfl : _ = 53) (fun c_n => absurd c_n (by decide)) (fun _ => ?_)
      refine V_iload Y.1 1 dX6_zones_53 (rfl : _ = 55) rfl ?_
      refine V_iload_n Y.1 2 dX6_zones_55 (rfl : _ = 56) rfl rfl ?_
      refine V_iload Y.1 0 dX6_zones_56 (rfl : _ = 58) rfl ?_
      refine V_ishr Y.1 dX6_zones_58 (rfl : _ = 59) ?_
      refine V_iconst Y.1 (v := 1) dX6_zones_59 (rfl : _ = 60) (by decide) ?_
      refine V_iand Y.1 dX6_zones_60 (rfl : _ = 61) ?_
      refine V_iadd Y.1 dX6_zones_61 (rfl : _ = 62) ?_
      refine V_istore Y.1 (ls' := [(4, _), (5, _), (3, _), (0, _), (1, _), (2, _)]) dX6_zones_62 (rfl : _ = 64) (by decide) rfl ?_
      refine V_iinc Y.1 (v := 6) (ls' := [(5, _), (4, _), (3, _), (0, _), (1, _), (2, _)]) 1 dX6_zones_64 (rfl : _ = 67) rfl (by decide) (by decide) rfl ?_
      refine V_goto Y.1 (tgt := 46) dX6_zones_67 (by decide) ?_
      refine V_iload Y.1 0 dX6_zones_46 (rfl : _ = 48) rfl ?_
      refine V_bipush Y.1 (v := 6) dX6_zones_48 (rfl : _ = 50) (by decide) ?_
      refine V_icmp_gt Y.1 (tgt := 70) dX6_zones_50 (by decide) (rfl : _ = 53) (fun c_n => absurd c_n (by decide)) (fun _ => ?_)
      refine V_iload Y.1 1 dX6_zones_53 (rfl : _ = 55) rfl ?_
      refine V_iload_n Y.1 2 dX6_zones_55 (rfl : _ = 56) rfl rfl ?_
      refine V_iload Y.1 0 dX6_zones_56 (rfl : _ = 58) rfl ?_
      refine V_ishr Y.1 dX6_zones_58 (rfl : _ = 59) ?_
      refine V_iconst Y.1 (v := 1) dX6_zones_59 (rfl : _ = 60) (by decide) ?_
      refine V_iand Y.1 dX6_zones_60 (rfl : _ = 61) ?_
      refine V_iadd Y.1 dX6_zones_61 (rfl : _ = 62) ?_
      refine V_istore Y.1 (ls' := [(4, _), (5, _), (3, _), (0, _), (1, _), (2, _)]) dX6_zones_62 (rfl : _ = 64) (by decide) rfl ?_
      refine V_iinc Y.1 (v := 7) (ls' := [(5, _), (4, _), (3, _), (0, _), (1, _), (2, _)]) 1 dX6_zones_64 (rfl : _ = 67) rfl (by decide) (by decide) rfl ?_
      refine V_goto Y.1 (tgt := 46) dX6_zones_67 (by decide) ?_
      refine V_iload Y.1 0 dX6_zones_46 (rfl : _ = 48) rfl ?_
      refine V_bipush Y.1 (v := 6) dX6_zones_48 (rfl : _ = 50) (by decide) ?_
      refine V_icmp_gt Y.1 (tgt := 70) dX6_zones_50 (by decide) (rfl : _ = 53) (fun _ => ?_) (fun c_n => absurd (by decide) c_n)
      refine V_iload Y.1 1 dX6_zones_70 (rfl : _ = 72) rfl ?_
      exact V_ret Y.1 dX6_zones_72 rfl (Nat.le_of_ble_eq_true rfl) (Nat.le_of_ble_eq_true rfl) ⟨by rw [r_zones, show max f g + 1 - min f g = k by omega]; rfl, rfl⟩
    | succ n ih =>
      intro k hk
      refine V_iload Y.1 0 dX6_zones_9 (rfl : _ = 11) rfl ?_
      refine V_iload_n Y.1 3 dX6_zones_11 (rfl : _ = 12) rfl rfl ?_
      refine V_iload_n Y.1 4 dX6_zones_12 (rfl : _ = 13) rfl rfl ?_
      refine V_mmax Y.1 mw_X6_61 (Nat.le_of_ble_eq_true rfl) (Nat.le_of_ble_eq_true rfl) (Nat.le_of_ble_eq_true rfl) (Nat.le_of_ble_eq_true rfl) dX6_zones_13 (rfl : _ = 16) ?_
      refine V_nm (v := nI (max f g)) (mx_nI (by omega) (by omega)) ?_
      refine V_icmp_gt Y.1 (tgt := 40) dX6_zones_16 (by decide) (rfl : _ = 19) (fun c_n => absurd c_n (by simp (disch := omega) only [Int32.lt_iff_toInt_lt, Int32.le_iff_toInt_le, ge_iff_le, gt_iff_lt, nI_toInt, Int32.reduceToInt] ; omega)) (fun _ => ?_)
      refine V_iload_n Y.1 1 dX6_zones_19 (rfl : _ = 20) rfl rfl ?_
      refine V_iconst Y.1 (v := 1) dX6_zones_20 (rfl : _ = 21) (by decide) ?_
      refine V_aload_n Y.1 2 dX6_zones_21 (rfl : _ = 22) rfl rfl ?_
      refine V_get Y.1 fi_X6_9 hM.1 rfl dX6_zones_22 (rfl : _ = 25) ?_
      refine V_bipush Y.1 (v := 9) dX6_zones_25 (rfl : _ = 27) (by decide) ?_
      refine V_iload Y.1 0 dX6_zones_27 (rfl : _ = 29) rfl ?_
      refine V_iadd Y.1 dX6_zones_29 (rfl : _ = 30) ?_
      refine V_nm (v := nI (9 + (min f g + k))) (nI_add _ _) ?_
      refine V_iald Y.1 (v := r_zn s (min f g + k)) hM.2.1 (by first | assumption | exact vp_in_nI (by omega) (by omega)) (by rw [nI_clamp (by omega)]; rfl) dX6_zones_30 (rfl : _ = 31) ?_
      refine V_ishl Y.1 dX6_zones_31 (rfl : _ = 32) ?_
      refine V_ior Y.1 dX6_zones_32 (rfl : _ = 33) ?_
      refine V_istore_n Y.1 (ls' := [(3, _), (4, _), (0, _), (1, _), (2, _)]) dX6_zones_33 (rfl : _ = 34) rfl (by decide) rfl ?_
      refine V_iinc Y.1 (v := nI (min f g + (k + 1))) (ls' := [(4, _), (3, _), (0, _), (1, _), (2, _)]) 1 dX6_zones_34 (rfl : _ = 37) rfl (nI_1 _) (by decide) rfl ?_
      refine V_goto Y.1 (tgt := 9) dX6_zones_37 (by decide) ?_
      exact ih (k + 1) (by omega)
  exact lp (max f g + 1 - min f g) 0 (by omega)

set_option maxRecDepth 100000 in
set_option maxHeartbeats 4000000 in
theorem c_X6_price (l : Launch) (D : va_G) (kA : Nat → ClassId) (H0 : Heap) (o : Nat) (F s b v p u t c : Nat → Int32) (f g : Nat) (hf : f < 12) (hg : g < 12) (hM : Rs D kA H0 o F s b v p u t c)  : Ct l D kA yX6_price cX6_price 3 (some .int) 2 49 0 0 H0 [.ref o, .int (nI f), .int (nI g)] (nof) (pI fun v9 H => v9 = r_price s f g ∧ H = H0) := by
  refine Ct.of mi_X6_price (Nat.le_of_ble_eq_true rfl) (ls0 := [(0, _), (1, _), (2, _)]) rfl ?_
  intro Pp Ee Ss Mm Ar Bl Me Cc Y hs hnm
  refine V_aload_n Y.1 0 dX6_price_0 (rfl : _ = 1) rfl rfl ?_
  refine V_get Y.1 fi_X6_9 hM.1 rfl dX6_price_1 (rfl : _ = 4) ?_
  refine V_iconst Y.1 (v := 2) dX6_price_4 (rfl : _ = 5) (by decide) ?_
  refine V_iald Y.1 (v := s 2) hM.2.1 (by unfold vp_in; decide) rfl dX6_price_5 (rfl : _ = 6) ?_
  refine V_aload_n Y.1 0 dX6_price_6 (rfl : _ = 7) rfl rfl ?_
  refine V_get Y.1 fi_X6_9 hM.1 rfl dX6_price_7 (rfl : _ = 10) ?_
  refine V_iconst Y.1 (v := 3) dX6_price_10 (rfl : _ = 11) (by decide) ?_
  refine V_iald Y.1 (v := s 3) hM.2.1 (by unfold vp_in; decide) rfl dX6_price_11 (rfl : _ = 12) ?_
  refine V_aload_n Y.1 0 dX6_price_12 (rfl : _ = 13) rfl rfl ?_
  refine V_iload_n Y.1 1 dX6_price_13 (rfl : _ = 14) rfl rfl ?_
  refine V_iload_n Y.1 2 dX6_price_14 (rfl : _ = 15) rfl rfl ?_
  refine V_cP Y (rV Y (c_X6_zones l D kA _ _ _ _ _ _ _ _ _ _ f g hf hg hM) mi_X6_zones vi_X6_64 rfl hM.1 rfl rfl (Nat.le_of_ble_eq_true rfl) ⟨Nat.le_of_ble_eq_true rfl, Nat.le_of_ble_eq_true rfl⟩ (Nat.le_of_ble_eq_true rfl) (Nat.le_of_ble_eq_true rfl) dX6_price_15) (rfl : _ = 18) ?_
  refine V_iconst Y.1 (v := 1) dX6_price_18 (rfl : _ = 19) (by decide) ?_
  refine V_isub Y.1 dX6_price_19 (rfl : _ = 20) ?_
  refine V_imul Y.1 dX6_price_20 (rfl : _ = 21) ?_
  refine V_iadd Y.1 dX6_price_21 (rfl : _ = 22) ?_
  exact V_ret Y.1 dX6_price_22 rfl (Nat.le_of_ble_eq_true rfl) (Nat.le_of_ble_eq_true rfl) ⟨rfl, rfl⟩

set_option maxRecDepth 100000 in
set_option maxHeartbeats 4000000 in
theorem c_X6_chargeTo (l : Launch) (D : va_G) (kA : Nat → ClassId) (H0 : Heap) (o : Nat) (F s b v p u t c : Nat → Int32) (i : Nat) (hi : i < 8) (j w : Nat) (hj : j < 12) (hw : w < 12) (hM : Rs D kA H0 o F s b v p u t c) (ej : ro s i 4 = nI j) : Ct l D kA yX6_chargeTo cX6_chargeTo 4 (some .int) 3 71 0 0 H0 [.ref o, .int (nI i), .int (nI w)] (nof) (pI fun v9 H => v9 = r_to s i j w ∧ H = H0) := by
  refine Ct.of mi_X6_chargeTo (Nat.le_of_ble_eq_true rfl) (ls0 := [(0, _), (1, _), (2, _)]) rfl ?_
  intro Pp Ee Ss Mm Ar Bl Me Cc Y hs hnm
  refine V_aload_n Y.1 0 dX6_chargeTo_0 (rfl : _ = 1) rfl rfl ?_
  refine V_iload_n Y.1 1 dX6_chargeTo_1 (rfl : _ = 2) rfl rfl ?_
  refine V_aload_n Y.1 0 dX6_chargeTo_2 (rfl : _ = 3) rfl rfl ?_
  refine V_aload_n Y.1 0 dX6_chargeTo_3 (rfl : _ = 4) rfl rfl ?_
  refine V_iload_n Y.1 1 dX6_chargeTo_4 (rfl : _ = 5) rfl rfl ?_
  refine V_iconst Y.1 (v := 4) dX6_chargeTo_5 (rfl : _ = 6) (by decide) ?_
  refine V_cP Y (rV Y (c_X6_of l D kA _ _ _ _ _ _ _ _ _ _ i hi 4 (by decide) hM) mi_X6_of vi_X6_67 rfl hM.1 rfl rfl (Nat.le_of_ble_eq_true rfl) ⟨Nat.le_of_ble_eq_true rfl, Nat.le_of_ble_eq_true rfl⟩ (Nat.le_of_ble_eq_true rfl) (Nat.le_of_ble_eq_true rfl) dX6_chargeTo_6) (rfl : _ = 9) ?_
  refine V_nm (v := nI j) ej ?_
  refine V_iload_n Y.1 2 dX6_chargeTo_9 (rfl : _ = 10) rfl rfl ?_
  refine V_cP Y (rV Y (c_X6_price l D kA _ _ _ _ _ _ _ _ _ _ j w hj hw hM) mi_X6_price vi_X6_97 rfl hM.1 rfl rfl (Nat.le_of_ble_eq_true rfl) ⟨Nat.le_of_ble_eq_true rfl, Nat.le_of_ble_eq_true rfl⟩ (Nat.le_of_ble_eq_true rfl) (Nat.le_of_ble_eq_true rfl) dX6_chargeTo_10) (rfl : _ = 13) ?_
  refine V_cP Y (rV Y (c_X6_paidOf l D kA _ _ _ _ _ _ _ _ _ _ i hi _ hM) mi_X6_paidOf vi_X6_91 rfl hM.1 rfl rfl (Nat.le_of_ble_eq_true rfl) ⟨Nat.le_of_ble_eq_true rfl, Nat.le_of_ble_eq_true rfl⟩ (Nat.le_of_ble_eq_true rfl) (Nat.le_of_ble_eq_true rfl) dX6_chargeTo_13) (rfl : _ = 16) ?_
  refine V_aload_n Y.1 0 dX6_chargeTo_16 (rfl : _ = 17) rfl rfl ?_
  refine V_iload_n Y.1 1 dX6_chargeTo_17 (rfl : _ = 18) rfl rfl ?_
  refine V_iconst Y.1 (v := 5) dX6_chargeTo_18 (rfl : _ = 19) (by decide) ?_
  refine V_cP Y (rV Y (c_X6_of l D kA _ _ _ _ _ _ _ _ _ _ i hi 5 (by decide) hM) mi_X6_of vi_X6_67 rfl hM.1 rfl rfl (Nat.le_of_ble_eq_true rfl) ⟨Nat.le_of_ble_eq_true rfl, Nat.le_of_ble_eq_true rfl⟩ (Nat.le_of_ble_eq_true rfl) (Nat.le_of_ble_eq_true rfl) dX6_chargeTo_19) (rfl : _ = 22) ?_
  refine V_isub Y.1 dX6_chargeTo_22 (rfl : _ = 23) ?_
  refine V_istore_n Y.1 (ls' := [(3, _), (0, _), (1, _), (2, _)]) dX6_chargeTo_23 (rfl : _ = 24) rfl (by decide) rfl ?_
  refine V_iconst Y.1 (v := 0) dX6_chargeTo_24 (rfl : _ = 25) (by decide) ?_
  refine V_iload_n Y.1 0 dX6_chargeTo_25 (rfl : _ = 26) rfl rfl ?_
  refine V_mmax Y.1 mw_X6_61 (Nat.le_of_ble_eq_true rfl) (Nat.le_of_ble_eq_true rfl) (Nat.le_of_ble_eq_true rfl) (Nat.le_of_ble_eq_true rfl) dX6_chargeTo_26 (rfl : _ = 29) ?_
  exact V_ret Y.1 dX6_chargeTo_29 rfl (Nat.le_of_ble_eq_true rfl) (Nat.le_of_ble_eq_true rfl) ⟨rfl, rfl⟩

set_option maxRecDepth 100000 in
set_option maxHeartbeats 4000000 in
theorem c_X6_continues (l : Launch) (D : va_G) (kA : Nat → ClassId) (H0 : Heap) (o : Nat) (F s b v p u t c : Nat → Int32) (i : Nat) (hi : i < 8) (w : Int32) (hM : Rs D kA H0 o F s b v p u t c)  : Ct l D kA yX6_continues cX6_continues 3 (some .boolean) 1 22 0 0 H0 [.ref o, .int (nI i), .int w] (nof) (pI fun v9 H => v9 = r_cont s i w ∧ H = H0) := by
  refine Ct.of mi_X6_continues (Nat.le_of_ble_eq_true rfl) (ls0 := [(0, _), (1, _), (2, _)]) rfl ?_
  intro Pp Ee Ss Mm Ar Bl Me Cc Y hs hnm
  refine V_aload_n Y.1 0 dX6_continues_0 (rfl : _ = 1) rfl rfl ?_
  refine V_iload_n Y.1 1 dX6_continues_1 (rfl : _ = 2) rfl rfl ?_
  refine V_iconst Y.1 (v := 2) dX6_continues_2 (rfl : _ = 3) (by decide) ?_
  refine V_cP Y (rV Y (c_X6_of l D kA _ _ _ _ _ _ _ _ _ _ i hi 2 (by decide) hM) mi_X6_of vi_X6_67 rfl hM.1 rfl rfl (Nat.le_of_ble_eq_true rfl) ⟨Nat.le_of_ble_eq_true rfl, Nat.le_of_ble_eq_true rfl⟩ (Nat.le_of_ble_eq_true rfl) (Nat.le_of_ble_eq_true rfl) dX6_continues_3) (rfl : _ = 6) ?_
  refine V_if_ge Y.1 (tgt := 43) dX6_continues_6 (by decide) (rfl : _ = 9) (fun c_6 => ?_) (fun c_6 => ?_)
  · refine V_iconst Y.1 (v := 0) dX6_continues_43 (rfl : _ = 44) (by decide) ?_
    exact V_ret Y.1 dX6_continues_44 rfl (Nat.le_of_ble_eq_true rfl) (Nat.le_of_ble_eq_true rfl) ⟨by simp [r_cont, *], rfl⟩
  · refine V_aload_n Y.1 0 dX6_continues_9 (rfl : _ = 10) rfl rfl ?_
    refine V_iload_n Y.1 1 dX6_continues_10 (rfl : _ = 11) rfl rfl ?_
    refine V_bipush Y.1 (v := 6) dX6_continues_11 (rfl : _ = 13) (by decide) ?_
    refine V_cP Y (rV Y (c_X6_of l D kA _ _ _ _ _ _ _ _ _ _ i hi 6 (by decide) hM) mi_X6_of vi_X6_67 rfl hM.1 rfl rfl (Nat.le_of_ble_eq_true rfl) ⟨Nat.le_of_ble_eq_true rfl, Nat.le_of_ble_eq_true rfl⟩ (Nat.le_of_ble_eq_true rfl) (Nat.le_of_ble_eq_true rfl) dX6_continues_13) (rfl : _ = 16) ?_
    refine V_iload_n Y.1 2 dX6_continues_16 (rfl : _ = 17) rfl rfl ?_
    refine V_icmp_ne Y.1 (tgt := 43) dX6_continues_17 (by decide) (rfl : _ = 20) (fun c_17 => ?_) (fun c_17 => ?_)
    · refine V_iconst Y.1 (v := 0) dX6_continues_43 (rfl : _ = 44) (by decide) ?_
      exact V_ret Y.1 dX6_continues_44 rfl (Nat.le_of_ble_eq_true rfl) (Nat.le_of_ble_eq_true rfl) ⟨by simp [r_cont, *], rfl⟩
    · refine V_aload_n Y.1 0 dX6_continues_20 (rfl : _ = 21) rfl rfl ?_
      refine V_get Y.1 fi_X6_9 hM.1 rfl dX6_continues_21 (rfl : _ = 24) ?_
      refine V_iconst Y.1 (v := 1) dX6_continues_24 (rfl : _ = 25) (by decide) ?_
      refine V_iald Y.1 (v := s 1) hM.2.1 (by unfold vp_in; decide) rfl dX6_continues_25 (rfl : _ = 26) ?_
      refine V_aload_n Y.1 0 dX6_continues_26 (rfl : _ = 27) rfl rfl ?_
      refine V_iload_n Y.1 1 dX6_continues_27 (rfl : _ = 28) rfl rfl ?_
      refine V_bipush Y.1 (v := 7) dX6_continues_28 (rfl : _ = 30) (by decide) ?_
      refine V_cP Y (rV Y (c_X6_of l D kA _ _ _ _ _ _ _ _ _ _ i hi 7 (by decide) hM) mi_X6_of vi_X6_67 rfl hM.1 rfl rfl (Nat.le_of_ble_eq_true rfl) ⟨Nat.le_of_ble_eq_true rfl, Nat.le_of_ble_eq_true rfl⟩ (Nat.le_of_ble_eq_true rfl) (Nat.le_of_ble_eq_true rfl) dX6_continues_30) (rfl : _ = 33) ?_
      refine V_isub Y.1 dX6_continues_33 (rfl : _ = 34) ?_
      refine V_bipush Y.1 (v := 15) dX6_continues_34 (rfl : _ = 36) (by decide) ?_
      refine V_icmp_gt Y.1 (tgt := 43) dX6_continues_36 (by decide) (rfl : _ = 39) (fun c_36 => ?_) (fun c_36 => ?_)
      · refine V_iconst Y.1 (v := 0) dX6_continues_43 (rfl : _ = 44) (by decide) ?_
        exact V_ret Y.1 dX6_continues_44 rfl (Nat.le_of_ble_eq_true rfl) (Nat.le_of_ble_eq_true rfl) ⟨by simp [r_cont, *], rfl⟩
      · refine V_iconst Y.1 (v := 1) dX6_continues_39 (rfl : _ = 40) (by decide) ?_
        refine V_goto Y.1 (tgt := 44) dX6_continues_40 (by decide) ?_
        exact V_ret Y.1 dX6_continues_44 rfl (Nat.le_of_ble_eq_true rfl) (Nat.le_of_ble_eq_true rfl) ⟨by simp [r_cont, *], rfl⟩

