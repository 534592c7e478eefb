theorem g_g {D : va_G} {kA : Nat → ClassId} {H : Heap} {o : Nat} {F s b v p u t c : Nat → Int32} {g z : Nat} {x : Int32} (h1 : x = (if z = 0 then 1 else 0)) (h2 : Rs D kA H o (upd F 6 (nI z)) s b v p u t c) (e : g = z) : x = (if g = 0 then 1 else 0) ∧ Rs D kA H o (upd F 6 (nI g)) s b v p u t c := by
  subst e
  exact ⟨h1, h2⟩
theorem r_cont_01 (s : Nat → Int32) (i : Nat) (w : Int32) : r_cont s i w = 0 ∨ r_cont s i w = 1 := by
  unfold r_cont
  (repeat' split) <;> simp
set_option maxRecDepth 100000 in
set_option maxHeartbeats 4000000 in
theorem c_X6_endsQ (l : Launch) (D : va_G) (kA : Nat → ClassId) (H0 : Heap) (o : Nat) (F s b v p u t c : Nat → Int32) (z : Nat) (hz : z < 4) (x : Int32) (k : Nat) (hk8 : k ≤ 8) (hM : Rs D kA H0 o (upd (upd F 6 0) 6 (nI z)) s b v p u t c) (hk : F 5 = nI k) : Ct l D kA yX6_ends cX6_ends 2 (some .int) 1 48 0 0 H0 [.ref o, .int x] (blk o 8) (pI fun v9 H => v9 = (if z = 0 then x else 0) ∧ Rs D kA H o (r_fd F k z) (if z = 0 then s else b) b v (if z = 0 then r_push p b k else p) u t c) := by
  by_cases h0 : z = 0
  · subst h0
    rw [show nI 0 = 0 from rfl, upd_same pk_us] at hM
    by_cases h8 : k = 8
    · subst h8
      exact c_X6_ends_8 l D kA H0 o _ s b v p u t c x hM pk_us hk
    · have g := c_X6_ends_k l D kA H0 o _ s b v p u t c x k hM pk_us hk (by omega)
      have e1 : r_fd F k 0 = upd (upd F 6 0) 5 (nI (k + 1)) := by rw [r_fd, if_pos rfl, r_ok, if_neg h8]
      have e2 : r_push p b k = va_cpy b p 0 (169 * k) 169 := if_neg h8
      rw [e1, e2]
      exact g
  · rw [upd2] at hM
    have g := c_X6_ends_f l D kA H0 o _ s b v p u t c x hM (by rw [pk_us]; exact nI_lt (a := 0) (by omega) (by omega))
    rw [r_fd, if_neg h0, if_neg h0, if_neg h0, if_neg h0]
    exact g

set_option maxRecDepth 100000 in
set_option maxHeartbeats 4000000 in
theorem c_X6_issueCard (l : Launch) (D : va_G) (kA : Nat → ClassId) (H0 : Heap) (o : Nat) (F s b v p u t c : Nat → Int32) (n t0 : Nat) (r : Int32) (k : Nat) (hk8 : k ≤ 8) (hM : Rs D kA H0 o F s b v p u t c) (hI : RI s n t0) (hk : F 5 = nI k) : Ct l D kA yX6_issueCard cX6_issueCard 2 (some .int) 2 69 0 0 H0 [.ref o, .int r] (blk o 8) (pI fun v9 H => v9 = (if (q_issue s r).1 = 0 then (q_issue s r).2.1 else 0) ∧ Rs D kA H o (r_fd F k (q_issue s r).1) (if (q_issue s r).1 = 0 then (q_issue s r).2.2 else s) s v (if (q_issue s r).1 = 0 then r_push p s k else p) u t c) := by
  refine Ct.of mi_X6_issueCard (Nat.le_of_ble_eq_true rfl) (ls0 := [(0, _), (1, _)]) rfl ?_
  intro Pp Ee Ss Mm Ar Bl Me Cc Y hs hnm
  refine V_aload_n Y.1 0 dX6_issueCard_0 (rfl : _ = 1) rfl rfl ?_
  refine V_cV Y (rV Y (c_X6_keep l D kA _ _ _ _ _ _ _ _ _ _ hM) mi_X6_keep vi_X6_103 rfl hM.1 rfl rfl (Nat.le_of_ble_eq_true rfl) ⟨Nat.le_of_ble_eq_true rfl, Nat.le_of_ble_eq_true rfl⟩ (Nat.le_of_ble_eq_true rfl) (Nat.le_of_ble_eq_true rfl) dX6_issueCard_1) (fun q hq => Or.inl (blk_sub (by omega) (by omega) q hq)) (rfl : _ = 4) (fun H1_1 hq_1 o_1 => ?_)
  have hM := hq_1
  refine V_aload_n Y.1 0 dX6_issueCard_4 (rfl : _ = 5) rfl rfl ?_
  refine V_aload_n Y.1 0 dX6_issueCard_5 (rfl : _ = 6) rfl rfl ?_
  refine V_iload_n Y.1 1 dX6_issueCard_6 (rfl : _ = 7) rfl rfl ?_
  refine V_cI Y (rV Y (c_X6_doIssueCard l D kA _ _ _ _ _ _ _ _ _ _ n t0 _ hM hI pk_us) mi_X6_doIssueCard vi_X6_106 rfl hM.1 rfl rfl (Nat.le_of_ble_eq_true rfl) ⟨Nat.le_of_ble_eq_true rfl, Nat.le_of_ble_eq_true rfl⟩ (Nat.le_of_ble_eq_true rfl) (Nat.le_of_ble_eq_true rfl) dX6_issueCard_7) (fun q hq => Or.inl (blk_sub (by omega) (by omega) q hq)) (rfl : _ = 10) (fun v_7 H7_6 hq_7 o_7 => ?_)
  obtain ⟨e7, hM⟩ := hq_7
  refine V_cI Y (rV Y (c_X6_endsQ l D kA _ o F _ _ _ _ _ _ _ _ (q_issue_lt _ _) _ k hk8 hM hk) mi_X6_ends vi_X6_110 rfl hM.1 rfl rfl (Nat.le_of_ble_eq_true rfl) ⟨Nat.le_of_ble_eq_true rfl, Nat.le_of_ble_eq_true rfl⟩ (Nat.le_of_ble_eq_true rfl) (Nat.le_of_ble_eq_true rfl) dX6_issueCard_10) (fun q hq => Or.inl (blk_sub (by omega) (by omega) q hq)) (rfl : _ = 13) (fun v_10 H10_8 hq_10 o_10 => ?_)
  obtain ⟨e10, hM⟩ := hq_10
  exact V_ret Y.1 dX6_issueCard_13 rfl (Nat.le_of_ble_eq_true rfl) (Nat.le_of_ble_eq_true rfl) ⟨by rw [e10, e7], hM⟩

set_option maxRecDepth 100000 in
set_option maxHeartbeats 4000000 in
theorem c_X6_load (l : Launch) (D : va_G) (kA : Nat → ClassId) (H0 : Heap) (o : Nat) (F s b v p u t c : Nat → Int32) (n t0 : Nat) (x y : Int32) (k : Nat) (hk8 : k ≤ 8) (hM : Rs D kA H0 o F s b v p u t c) (hI : RI s n t0) (hk : F 5 = nI k) : Ct l D kA yX6_load cX6_load 3 (some .int) 3 69 0 0 H0 [.ref o, .int x, .int y] (blk o 8) (pI fun v9 H => v9 = (if (q_load s x y).1 = 0 then (q_load s x y).2.1 else 0) ∧ Rs D kA H o (r_fd F k (q_load s x y).1) (if (q_load s x y).1 = 0 then (q_load s x y).2.2 else s) s v (if (q_load s x y).1 = 0 then r_push p s k else p) u t c) := by
  refine Ct.of mi_X6_load (Nat.le_of_ble_eq_true rfl) (ls0 := [(0, _), (1, _), (2, _)]) rfl ?_
  intro Pp Ee Ss Mm Ar Bl Me Cc Y hs hnm
  refine V_aload_n Y.1 0 dX6_load_0 (rfl : _ = 1) rfl rfl ?_
  refine V_cV Y (rV Y (c_X6_keep l D kA _ _ _ _ _ _ _ _ _ _ hM) mi_X6_keep vi_X6_103 rfl hM.1 rfl rfl (Nat.le_of_ble_eq_true rfl) ⟨Nat.le_of_ble_eq_true rfl, Nat.le_of_ble_eq_true rfl⟩ (Nat.le_of_ble_eq_true rfl) (Nat.le_of_ble_eq_true rfl) dX6_load_1) (fun q hq => Or.inl (blk_sub (by omega) (by omega) q hq)) (rfl : _ = 4) (fun H1_1 hq_1 o_1 => ?_)
  have hM := hq_1
  refine V_aload_n Y.1 0 dX6_load_4 (rfl : _ = 5) rfl rfl ?_
  refine V_aload_n Y.1 0 dX6_load_5 (rfl : _ = 6) rfl rfl ?_
  refine V_iload_n Y.1 1 dX6_load_6 (rfl : _ = 7) rfl rfl ?_
  refine V_iload_n Y.1 2 dX6_load_7 (rfl : _ = 8) rfl rfl ?_
  refine V_cI Y (rV Y (c_X6_doLoad l D kA _ _ _ _ _ _ _ _ _ _ n t0 _ _ hM hI pk_us) mi_X6_doLoad vi_X6_117 rfl hM.1 rfl rfl (Nat.le_of_ble_eq_true rfl) ⟨Nat.le_of_ble_eq_true rfl, Nat.le_of_ble_eq_true rfl⟩ (Nat.le_of_ble_eq_true rfl) (Nat.le_of_ble_eq_true rfl) dX6_load_8) (fun q hq => Or.inl (blk_sub (by omega) (by omega) q hq)) (rfl : _ = 11) (fun v_8 H8_7 hq_8 o_8 => ?_)
  obtain ⟨e8, hM⟩ := hq_8
  refine V_cI Y (rV Y (c_X6_endsQ l D kA _ o F _ _ _ _ _ _ _ _ (q_load_lt _ _ _) _ k hk8 hM hk) mi_X6_ends vi_X6_110 rfl hM.1 rfl rfl (Nat.le_of_ble_eq_true rfl) ⟨Nat.le_of_ble_eq_true rfl, Nat.le_of_ble_eq_true rfl⟩ (Nat.le_of_ble_eq_true rfl) (Nat.le_of_ble_eq_true rfl) dX6_load_11) (fun q hq => Or.inl (blk_sub (by omega) (by omega) q hq)) (rfl : _ = 14) (fun v_11 H11_9 hq_11 o_11 => ?_)
  obtain ⟨e11, hM⟩ := hq_11
  exact V_ret Y.1 dX6_load_14 rfl (Nat.le_of_ble_eq_true rfl) (Nat.le_of_ble_eq_true rfl) ⟨by rw [e11, e8], hM⟩

set_option maxRecDepth 100000 in
set_option maxHeartbeats 4000000 in
theorem c_X6_tapOut (l : Launch) (D : va_G) (kA : Nat → ClassId) (H0 : Heap) (o : Nat) (F s b v p u t c : Nat → Int32) (n t0 : Nat) (x y : Int32) (k : Nat) (hk8 : k ≤ 8) (hM : Rs D kA H0 o F s b v p u t c) (hI : RI s n t0) (hk : F 5 = nI k) : Ct l D kA yX6_tapOut cX6_tapOut 3 (some .int) 5 117 0 0 H0 [.ref o, .int x, .int y] (blk o 8) (pI fun v9 H => v9 = (if (q_out s (t0 / 1440) x y).1 = 0 then (q_out s (t0 / 1440) x y).2.1 else 0) ∧ Rs D kA H o (r_fd F k (q_out s (t0 / 1440) x y).1) (if (q_out s (t0 / 1440) x y).1 = 0 then (q_out s (t0 / 1440) x y).2.2 else s) s v (if (q_out s (t0 / 1440) x y).1 = 0 then r_push p s k else p) u t c) := by
  refine Ct.of mi_X6_tapOut (Nat.le_of_ble_eq_true rfl) (ls0 := [(0, _), (1, _), (2, _)]) rfl ?_
  intro Pp Ee Ss Mm Ar Bl Me Cc Y hs hnm
  refine V_aload_n Y.1 0 dX6_tapOut_0 (rfl : _ = 1) rfl rfl ?_
  refine V_cV Y (rV Y (c_X6_keep l D kA _ _ _ _ _ _ _ _ _ _ hM) mi_X6_keep vi_X6_103 rfl hM.1 rfl rfl (Nat.le_of_ble_eq_true rfl) ⟨Nat.le_of_ble_eq_true rfl, Nat.le_of_ble_eq_true rfl⟩ (Nat.le_of_ble_eq_true rfl) (Nat.le_of_ble_eq_true rfl) dX6_tapOut_1) (fun q hq => Or.inl (blk_sub (by omega) (by omega) q hq)) (rfl : _ = 4) (fun H1_1 hq_1 o_1 => ?_)
  have hM := hq_1
  refine V_aload_n Y.1 0 dX6_tapOut_4 (rfl : _ = 5) rfl rfl ?_
  refine V_aload_n Y.1 0 dX6_tapOut_5 (rfl : _ = 6) rfl rfl ?_
  refine V_iload_n Y.1 1 dX6_tapOut_6 (rfl : _ = 7) rfl rfl ?_
  refine V_iload_n Y.1 2 dX6_tapOut_7 (rfl : _ = 8) rfl rfl ?_
  refine V_cI Y (rV Y (c_X6_doTapOut l D kA _ _ _ _ _ _ _ _ _ _ n t0 _ _ hM hI pk_us) mi_X6_doTapOut vi_X6_137 rfl hM.1 rfl rfl (Nat.le_of_ble_eq_true rfl) ⟨Nat.le_of_ble_eq_true rfl, Nat.le_of_ble_eq_true rfl⟩ (Nat.le_of_ble_eq_true rfl) (Nat.le_of_ble_eq_true rfl) dX6_tapOut_8) (fun q hq => Or.inl (blk_sub (by omega) (by omega) q hq)) (rfl : _ = 11) (fun v_8 H8_7 hq_8 o_8 => ?_)
  obtain ⟨e8, hM⟩ := hq_8
  refine V_cI Y (rV Y (c_X6_endsQ l D kA _ o F _ _ _ _ _ _ _ _ (q_out_lt _ _ _ _) _ k hk8 hM hk) mi_X6_ends vi_X6_110 rfl hM.1 rfl rfl (Nat.le_of_ble_eq_true rfl) ⟨Nat.le_of_ble_eq_true rfl, Nat.le_of_ble_eq_true rfl⟩ (Nat.le_of_ble_eq_true rfl) (Nat.le_of_ble_eq_true rfl) dX6_tapOut_11) (fun q hq => Or.inl (blk_sub (by omega) (by omega) q hq)) (rfl : _ = 14) (fun v_11 H11_9 hq_11 o_11 => ?_)
  obtain ⟨e11, hM⟩ := hq_11
  exact V_ret Y.1 dX6_tapOut_14 rfl (Nat.le_of_ble_eq_true rfl) (Nat.le_of_ble_eq_true rfl) ⟨by rw [e11, e8], hM⟩

set_option maxRecDepth 100000 in
set_option maxHeartbeats 4000000 in
theorem c_X6_repair (l : Launch) (D : va_G) (kA : Nat → ClassId) (H0 : Heap) (o : Nat) (F s b v p u t c : Nat → Int32) (n t0 : Nat) (x y : Int32) (k : Nat) (hk8 : k ≤ 8) (hM : Rs D kA H0 o F s b v p u t c) (hI : RI s n t0) (hk : F 5 = nI k) : Ct l D kA yX6_repair cX6_repair 3 (some .int) 4 96 0 0 H0 [.ref o, .int x, .int y] (blk o 8) (pI fun v9 H => v9 = (if (q_fix s (t0 / 1440) x y).1 = 0 then (q_fix s (t0 / 1440) x y).2.1 else 0) ∧ Rs D kA H o (r_fd F k (q_fix s (t0 / 1440) x y).1) (if (q_fix s (t0 / 1440) x y).1 = 0 then (q_fix s (t0 / 1440) x y).2.2 else s) s v (if (q_fix s (t0 / 1440) x y).1 = 0 then r_push p s k else p) u t c) := by
  refine Ct.of mi_X6_repair (Nat.le_of_ble_eq_true rfl) (ls0 := [(0, _), (1, _), (2, _)]) rfl ?_
  intro Pp Ee Ss Mm Ar Bl Me Cc Y hs hnm
  refine V_aload_n Y.1 0 dX6_repair_0 (rfl : _ = 1) rfl rfl ?_
  refine V_cV Y (rV Y (c_X6_keep l D kA _ _ _ _ _ _ _ _ _ _ hM) mi_X6_keep vi_X6_103 rfl hM.1 rfl rfl (Nat.le_of_ble_eq_true rfl) ⟨Nat.le_of_ble_eq_true rfl, Nat.le_of_ble_eq_true rfl⟩ (Nat.le_of_ble_eq_true rfl) (Nat.le_of_ble_eq_true rfl) dX6_repair_1) (fun q hq => Or.inl (blk_sub (by omega) (by omega) q hq)) (rfl : _ = 4) (fun H1_1 hq_1 o_1 => ?_)
  have hM := hq_1
  refine V_aload_n Y.1 0 dX6_repair_4 (rfl : _ = 5) rfl rfl ?_
  refine V_aload_n Y.1 0 dX6_repair_5 (rfl : _ = 6) rfl rfl ?_
  refine V_iload_n Y.1 1 dX6_repair_6 (rfl : _ = 7) rfl rfl ?_
  refine V_iload_n Y.1 2 dX6_repair_7 (rfl : _ = 8) rfl rfl ?_
  refine V_cI Y (rV Y (c_X6_doRepair l D kA _ _ _ _ _ _ _ _ _ _ n t0 _ _ hM hI pk_us) mi_X6_doRepair vi_X6_140 rfl hM.1 rfl rfl (Nat.le_of_ble_eq_true rfl) ⟨Nat.le_of_ble_eq_true rfl, Nat.le_of_ble_eq_true rfl⟩ (Nat.le_of_ble_eq_true rfl) (Nat.le_of_ble_eq_true rfl) dX6_repair_8) (fun q hq => Or.inl (blk_sub (by omega) (by omega) q hq)) (rfl : _ = 11) (fun v_8 H8_7 hq_8 o_8 => ?_)
  obtain ⟨e8, hM⟩ := hq_8
  refine V_cI Y (rV Y (c_X6_endsQ l D kA _ o F _ _ _ _ _ _ _ _ (q_fix_lt _ _ _ _) _ k hk8 hM hk) mi_X6_ends vi_X6_110 rfl hM.1 rfl rfl (Nat.le_of_ble_eq_true rfl) ⟨Nat.le_of_ble_eq_true rfl, Nat.le_of_ble_eq_true rfl⟩ (Nat.le_of_ble_eq_true rfl) (Nat.le_of_ble_eq_true rfl) dX6_repair_11) (fun q hq => Or.inl (blk_sub (by omega) (by omega) q hq)) (rfl : _ = 14) (fun v_11 H11_9 hq_11 o_11 => ?_)
  obtain ⟨e11, hM⟩ := hq_11
  exact V_ret Y.1 dX6_repair_14 rfl (Nat.le_of_ble_eq_true rfl) (Nat.le_of_ble_eq_true rfl) ⟨by rw [e11, e8], hM⟩

set_option maxRecDepth 100000 in
set_option maxHeartbeats 4000000 in
theorem c_X6_setZone (l : Launch) (D : va_G) (kA : Nat → ClassId) (H0 : Heap) (o : Nat) (F s b v p u t c : Nat → Int32) (x y : Int32) (k : Nat) (hk8 : k ≤ 8) (hM : Rs D kA H0 o F s b v p u t c)  (hk : F 5 = nI k) : Ct l D kA yX6_setZone cX6_setZone 3 (some .int) 3 69 0 0 H0 [.ref o, .int x, .int y] (blk o 8) (pI fun v9 H => v9 = (if (q_zone s x y).1 = 0 then (q_zone s x y).2.1 else 0) ∧ Rs D kA H o (r_fd F k (q_zone s x y).1) (if (q_zone s x y).1 = 0 then (q_zone s x y).2.2 else s) s v (if (q_zone s x y).1 = 0 then r_push p s k else p) u t c) := by
  refine Ct.of mi_X6_setZone (Nat.le_of_ble_eq_true rfl) (ls0 := [(0, _), (1, _), (2, _)]) rfl ?_
  intro Pp Ee Ss Mm Ar Bl Me Cc Y hs hnm
  refine V_aload_n Y.1 0 dX6_setZone_0 (rfl : _ = 1) rfl rfl ?_
  refine V_cV Y (rV Y (c_X6_keep l D kA _ _ _ _ _ _ _ _ _ _ hM) mi_X6_keep vi_X6_103 rfl hM.1 rfl rfl (Nat.le_of_ble_eq_true rfl) ⟨Nat.le_of_ble_eq_true rfl, Nat.le_of_ble_eq_true rfl⟩ (Nat.le_of_ble_eq_true rfl) (Nat.le_of_ble_eq_true rfl) dX6_setZone_1) (fun q hq => Or.inl (blk_sub (by omega) (by omega) q hq)) (rfl : _ = 4) (fun H1_1 hq_1 o_1 => ?_)
  have hM := hq_1
  refine V_aload_n Y.1 0 dX6_setZone_4 (rfl : _ = 5) rfl rfl ?_
  refine V_aload_n Y.1 0 dX6_setZone_5 (rfl : _ = 6) rfl rfl ?_
  refine V_iload_n Y.1 1 dX6_setZone_6 (rfl : _ = 7) rfl rfl ?_
  refine V_iload_n Y.1 2 dX6_setZone_7 (rfl : _ = 8) rfl rfl ?_
  refine V_cI Y (rV Y (c_X6_doSetZone l D kA _ _ _ _ _ _ _ _ _ _ _ _ hM pk_us) mi_X6_doSetZone vi_X6_143 rfl hM.1 rfl rfl (Nat.le_of_ble_eq_true rfl) ⟨Nat.le_of_ble_eq_true rfl, Nat.le_of_ble_eq_true rfl⟩ (Nat.le_of_ble_eq_true rfl) (Nat.le_of_ble_eq_true rfl) dX6_setZone_8) (fun q hq => Or.inl (blk_sub (by omega) (by omega) q hq)) (rfl : _ = 11) (fun v_8 H8_7 hq_8 o_8 => ?_)
  obtain ⟨e8, hM⟩ := hq_8
  refine V_cI Y (rV Y (c_X6_endsQ l D kA _ o F _ _ _ _ _ _ _ _ (q_zone_lt _ _ _) _ k hk8 hM hk) mi_X6_ends vi_X6_110 rfl hM.1 rfl rfl (Nat.le_of_ble_eq_true rfl) ⟨Nat.le_of_ble_eq_true rfl, Nat.le_of_ble_eq_true rfl⟩ (Nat.le_of_ble_eq_true rfl) (Nat.le_of_ble_eq_true rfl) dX6_setZone_11) (fun q hq => Or.inl (blk_sub (by omega) (by omega) q hq)) (rfl : _ = 14) (fun v_11 H11_9 hq_11 o_11 => ?_)
  obtain ⟨e11, hM⟩ := hq_11
  exact V_ret Y.1 dX6_setZone_14 rfl (Nat.le_of_ble_eq_true rfl) (Nat.le_of_ble_eq_true rfl) ⟨by rw [e11, e8], hM⟩

set_option maxRecDepth 100000 in
set_option maxHeartbeats 4000000 in
theorem c_X6_advance (l : Launch) (D : va_G) (kA : Nat → ClassId) (H0 : Heap) (o : Nat) (F s b v p u t c : Nat → Int32) (n t0 : Nat) (x : Int32) (k : Nat) (hk8 : k ≤ 8) (hM : Rs D kA H0 o F s b v p u t c) (hI : RI s n t0) (ht2 : t0 + 2000 < 2 ^ 30) (hk : F 5 = nI k) : Ct l D kA yX6_advance cX6_advance 2 (some .int) 6 138 0 0 H0 [.ref o, .int x] (blk o 8) (pI fun v9 H => v9 = (if (q_wait s n t0 x).1 = 0 then (q_wait s n t0 x).2.1 else 0) ∧ Rs D kA H o (r_fd F k (q_wait s n t0 x).1) (if (q_wait s n t0 x).1 = 0 then (q_wait s n t0 x).2.2 else s) s v (if (q_wait s n t0 x).1 = 0 then r_push p s k else p) u t c) := by
  refine Ct.of mi_X6_advance (Nat.le_of_ble_eq_true rfl) (ls0 := [(0, _), (1, _)]) rfl ?_
  intro Pp Ee Ss Mm Ar Bl Me Cc Y hs hnm
  refine V_aload_n Y.1 0 dX6_advance_0 (rfl : _ = 1) rfl rfl ?_
  refine V_cV Y (rV Y (c_X6_keep l D kA _ _ _ _ _ _ _ _ _ _ hM) mi_X6_keep vi_X6_103 rfl hM.1 rfl rfl (Nat.le_of_ble_eq_true rfl) ⟨Nat.le_of_ble_eq_true rfl, Nat.le_of_ble_eq_true rfl⟩ (Nat.le_of_ble_eq_true rfl) (Nat.le_of_ble_eq_true rfl) dX6_advance_1) (fun q hq => Or.inl (blk_sub (by omega) (by omega) q hq)) (rfl : _ = 4) (fun H1_1 hq_1 o_1 => ?_)
  have hM := hq_1
  refine V_aload_n Y.1 0 dX6_advance_4 (rfl : _ = 5) rfl rfl ?_
  refine V_aload_n Y.1 0 dX6_advance_5 (rfl : _ = 6) rfl rfl ?_
  refine V_iload_n Y.1 1 dX6_advance_6 (rfl : _ = 7) rfl rfl ?_
  refine V_cI Y (rV Y (c_X6_doAdvance l D kA _ _ _ _ _ _ _ _ _ _ n t0 _ hM hI ht2 pk_us) mi_X6_doAdvance vi_X6_146 rfl hM.1 rfl rfl (Nat.le_of_ble_eq_true rfl) ⟨Nat.le_of_ble_eq_true rfl, Nat.le_of_ble_eq_true rfl⟩ (Nat.le_of_ble_eq_true rfl) (Nat.le_of_ble_eq_true rfl) dX6_advance_7) (fun q hq => Or.inl (blk_sub (by omega) (by omega) q hq)) (rfl : _ = 10) (fun v_7 H7_6 hq_7 o_7 => ?_)
  obtain ⟨e7, hM⟩ := hq_7
  refine V_cI Y (rV Y (c_X6_endsQ l D kA _ o F _ _ _ _ _ _ _ _ (q_wait_lt _ _ _ _) _ k hk8 hM hk) mi_X6_ends vi_X6_110 rfl hM.1 rfl rfl (Nat.le_of_ble_eq_true rfl) ⟨Nat.le_of_ble_eq_true rfl, Nat.le_of_ble_eq_true rfl⟩ (Nat.le_of_ble_eq_true rfl) (Nat.le_of_ble_eq_true rfl) dX6_advance_10) (fun q hq => Or.inl (blk_sub (by omega) (by omega) q hq)) (rfl : _ = 13) (fun v_10 H10_8 hq_10 o_10 => ?_)
  obtain ⟨e10, hM⟩ := hq_10
  exact V_ret Y.1 dX6_advance_13 rfl (Nat.le_of_ble_eq_true rfl) (Nat.le_of_ble_eq_true rfl) ⟨by rw [e10, e7], hM⟩

set_option maxRecDepth 100000 in
set_option maxHeartbeats 4000000 in
theorem c_X6_tapIn (l : Launch) (D : va_G) (kA : Nat → ClassId) (H0 : Heap) (o : Nat) (F s b v p u t c : Nat → Int32) (n t0 : Nat) (x y : Int32) (k : Nat) (hk8 : k ≤ 8) (hM : Rs D kA H0 o F s b v p u t c) (hI : RI s n t0) (hk : F 5 = nI k) : Ct l D kA yX6_tapIn cX6_tapIn 3 (some .boolean) 6 137 0 0 H0 [.ref o, .int x, .int y] (blk o 8) (pI fun v9 H => v9 = (if (if (q_in s (t0 / 1440) x y).1 = 0 then (q_in s (t0 / 1440) x y).2.1 else 0) = 1 then 1 else 0) ∧ Rs D kA H o (r_fd F k (q_in s (t0 / 1440) x y).1) (if (q_in s (t0 / 1440) x y).1 = 0 then (q_in s (t0 / 1440) x y).2.2 else s) s v (if (q_in s (t0 / 1440) x y).1 = 0 then r_push p s k else p) u t c) := by
  refine Ct.of mi_X6_tapIn (Nat.le_of_ble_eq_true rfl) (ls0 := [(0, _), (1, _), (2, _)]) rfl ?_
  intro Pp Ee Ss Mm Ar Bl Me Cc Y hs hnm
  refine V_aload_n Y.1 0 dX6_tapIn_0 (rfl : _ = 1) rfl rfl ?_
  refine V_cV Y (rV Y (c_X6_keep l D kA _ _ _ _ _ _ _ _ _ _ hM) mi_X6_keep vi_X6_103 rfl hM.1 rfl rfl (Nat.le_of_ble_eq_true rfl) ⟨Nat.le_of_ble_eq_true rfl, Nat.le_of_ble_eq_true rfl⟩ (Nat.le_of_ble_eq_true rfl) (Nat.le_of_ble_eq_true rfl) dX6_tapIn_1) (fun q hq => Or.inl (blk_sub (by omega) (by omega) q hq)) (rfl : _ = 4) (fun H1_1 hq_1 o_1 => ?_)
  have hM := hq_1
  refine V_aload_n Y.1 0 dX6_tapIn_4 (rfl : _ = 5) rfl rfl ?_
  refine V_aload_n Y.1 0 dX6_tapIn_5 (rfl : _ = 6) rfl rfl ?_
  refine V_iload_n Y.1 1 dX6_tapIn_6 (rfl : _ = 7) rfl rfl ?_
  refine V_iload_n Y.1 2 dX6_tapIn_7 (rfl : _ = 8) rfl rfl ?_
  refine V_cI Y (rV Y (c_X6_doTapIn l D kA _ _ _ _ _ _ _ _ _ _ n t0 _ _ hM hI pk_us) mi_X6_doTapIn vi_X6_131 rfl hM.1 rfl rfl (Nat.le_of_ble_eq_true rfl) ⟨Nat.le_of_ble_eq_true rfl, Nat.le_of_ble_eq_true rfl⟩ (Nat.le_of_ble_eq_true rfl) (Nat.le_of_ble_eq_true rfl) dX6_tapIn_8) (fun q hq => Or.inl (blk_sub (by omega) (by omega) q hq)) (rfl : _ = 11) (fun v_8 H8_7 hq_8 o_8 => ?_)
  obtain ⟨e8, hM⟩ := hq_8
  refine V_cI Y (rV Y (c_X6_endsQ l D kA _ o F _ _ _ _ _ _ _ _ (q_in_lt _ _ _ _) _ k hk8 hM hk) mi_X6_ends vi_X6_110 rfl hM.1 rfl rfl (Nat.le_of_ble_eq_true rfl) ⟨Nat.le_of_ble_eq_true rfl, Nat.le_of_ble_eq_true rfl⟩ (Nat.le_of_ble_eq_true rfl) (Nat.le_of_ble_eq_true rfl) dX6_tapIn_11) (fun q hq => Or.inl (blk_sub (by omega) (by omega) q hq)) (rfl : _ = 14) (fun v_11 H11_9 hq_11 o_11 => ?_)
  obtain ⟨e11, hM⟩ := hq_11
  refine V_iconst Y.1 (v := 1) dX6_tapIn_14 (rfl : _ = 15) (by decide) ?_
  refine V_icmp_ne Y.1 (tgt := 22) dX6_tapIn_15 (by decide) (rfl : _ = 18) (fun c_15 => ?_) (fun c_15 => ?_)
  · refine V_iconst Y.1 (v := 0) dX6_tapIn_22 (rfl : _ = 23) (by decide) ?_
    exact V_ret Y.1 dX6_tapIn_23 rfl (Nat.le_of_ble_eq_true rfl) (Nat.le_of_ble_eq_true rfl) ⟨by rw [← e8, ← e11]; first | exact (if_pos c_15).symm | exact (if_neg c_15).symm, hM⟩
  · refine V_iconst Y.1 (v := 1) dX6_tapIn_18 (rfl : _ = 19) (by decide) ?_
    refine V_goto Y.1 (tgt := 23) dX6_tapIn_19 (by decide) ?_
    exact V_ret Y.1 dX6_tapIn_23 rfl (Nat.le_of_ble_eq_true rfl) (Nat.le_of_ble_eq_true rfl) ⟨by rw [← e8, ← e11]; first | exact (if_pos c_15).symm | exact (if_neg c_15).symm, hM⟩

set_option maxRecDepth 100000 in
set_option maxHeartbeats 4000000 in
theorem c_X6_setFares (l : Launch) (D : va_G) (kA : Nat → ClassId) (H0 : Heap) (o : Nat) (F s b v p u t c : Nat → Int32) (x y : Int32) (k : Nat) (hk8 : k ≤ 8) (hM : Rs D kA H0 o F s b v p u t c) (hk : F 5 = nI k) : Ct l D kA yX6_setFares cX6_setFares 4 (some .int) 2 69 0 0 H0 [.ref o, .int x, .int y] (blk o 8) (pI fun v9 H => v9 = (if (q_fares s x y).1 = 0 then (q_fares s x y).2.1 else 0) ∧ Rs D kA H o (r_fd F k (q_fares s x y).1) (if (q_fares s x y).1 = 0 then (q_fares s x y).2.2 else s) s v (if (q_fares s x y).1 = 0 then r_push p s k else p) u t c) := by
  refine Ct.of mi_X6_setFares (Nat.le_of_ble_eq_true rfl) (ls0 := [(0, _), (1, _), (2, _)]) rfl ?_
  intro Pp Ee Ss Mm Ar Bl Me Cc Y hs hnm
  refine V_aload_n Y.1 0 dX6_setFares_0 (rfl : _ = 1) rfl rfl ?_
  refine V_cV Y (rV Y (c_X6_keep l D kA _ _ _ _ _ _ _ _ _ _ hM) mi_X6_keep vi_X6_103 rfl hM.1 rfl rfl (Nat.le_of_ble_eq_true rfl) ⟨Nat.le_of_ble_eq_true rfl, Nat.le_of_ble_eq_true rfl⟩ (Nat.le_of_ble_eq_true rfl) (Nat.le_of_ble_eq_true rfl) dX6_setFares_1) (fun q hq => Or.inl (blk_sub (by omega) (by omega) q hq)) (rfl : _ = 4) (fun H1_1 hq_1 o_1 => ?_)
  have hM := hq_1
  refine V_aload_n Y.1 0 dX6_setFares_4 (rfl : _ = 5) rfl rfl ?_
  refine V_get Y.1 fi_X6_9 hM.1 rfl dX6_setFares_5 (rfl : _ = 8) ?_
  refine V_iconst Y.1 (v := 2) dX6_setFares_8 (rfl : _ = 9) (by decide) ?_
  refine V_iald Y.1 (v := s 2) hM.2.1 (by unfold vp_in; decide) rfl dX6_setFares_9 (rfl : _ = 10) ?_
  refine V_istore_n Y.1 (ls' := [(3, _), (0, _), (1, _), (2, _)]) dX6_setFares_10 (rfl : _ = 11) rfl (by decide) rfl ?_
  refine V_iload_n Y.1 2 dX6_setFares_11 (rfl : _ = 12) rfl rfl ?_
  refine V_iconst Y.1 (v := 0) dX6_setFares_12 (rfl : _ = 13) (by decide) ?_
  refine V_sipush Y.1 (v := 999) dX6_setFares_13 (rfl : _ = 16) (by decide) ?_
  refine V_cP Y (rS Y (c_X6_in l D kA _ _ _ _) mi_X6_in si_X6_51 rfl rfl (Nat.le_of_ble_eq_true rfl) ⟨Nat.le_of_ble_eq_true rfl, Nat.le_of_ble_eq_true rfl⟩ (Nat.le_of_ble_eq_true rfl) (Nat.le_of_ble_eq_true rfl) dX6_setFares_16) (rfl : _ = 19) ?_
  refine V_if_eq Y.1 (tgt := 32) dX6_setFares_19 (by decide) (rfl : _ = 22) (fun c_19 => ?_) (fun c_19 => ?_)
  · refine V_aload_n Y.1 1 dX6_setFares_32 (rfl : _ = 33) rfl rfl ?_
    refine V_aload_n Y.1 1 dX6_setFares_33 (rfl : _ = 34) rfl rfl ?_
    refine V_iconst Y.1 (v := 1) dX6_setFares_34 (rfl : _ = 35) (by decide) ?_
    refine V_cI Y (rV Y (c_X6_fails l D kA _ _ _ _ _ _ _ _ _ _ 1 hM) mi_X6_fails vi_X6_100 rfl hM.1 rfl rfl (Nat.le_of_ble_eq_true rfl) ⟨Nat.le_of_ble_eq_true rfl, Nat.le_of_ble_eq_true rfl⟩ (Nat.le_of_ble_eq_true rfl) (Nat.le_of_ble_eq_true rfl) dX6_setFares_35) (fun q hq => Or.inl (blk_sub (by omega) (by omega) q hq)) (rfl : _ = 38) (fun v_35 H35_16 hq_35 o_35 => ?_)
    obtain ⟨e35, hM⟩ := hq_35
    refine V_cI Y (rV Y (c_X6_endsQ l D kA _ o F _ _ _ _ _ _ _ 1 (by decide) _ k hk8 hM hk) mi_X6_ends vi_X6_110 rfl hM.1 rfl rfl (Nat.le_of_ble_eq_true rfl) ⟨Nat.le_of_ble_eq_true rfl, Nat.le_of_ble_eq_true rfl⟩ (Nat.le_of_ble_eq_true rfl) (Nat.le_of_ble_eq_true rfl) dX6_setFares_38) (fun q hq => Or.inl (blk_sub (by omega) (by omega) q hq)) (rfl : _ = 41) (fun v_38 H38_18 hq_38 o_38 => ?_)
    have g9 := hq_38
    exact V_ret Y.1 dX6_setFares_41 rfl (Nat.le_of_ble_eq_true rfl) (Nat.le_of_ble_eq_true rfl) (q_f g9 (by unfold q_fares; simp only [*, if_true, if_false, reduceIte] <;> rfl))
  · refine V_iload_n Y.1 3 dX6_setFares_22 (rfl : _ = 23) rfl rfl ?_
    refine V_iconst Y.1 (v := 0) dX6_setFares_23 (rfl : _ = 24) (by decide) ?_
    refine V_bipush Y.1 (v := 99) dX6_setFares_24 (rfl : _ = 26) (by decide) ?_
    refine V_cP Y (rS Y (c_X6_in l D kA _ _ _ _) mi_X6_in si_X6_51 rfl rfl (Nat.le_of_ble_eq_true rfl) ⟨Nat.le_of_ble_eq_true rfl, Nat.le_of_ble_eq_true rfl⟩ (Nat.le_of_ble_eq_true rfl) (Nat.le_of_ble_eq_true rfl) dX6_setFares_26) (rfl : _ = 29) ?_
    refine V_if_ne Y.1 (tgt := 42) dX6_setFares_29 (by decide) (rfl : _ = 32) (fun c_29 => ?_) (fun c_29 => ?_)
    · refine V_aload_n Y.1 1 dX6_setFares_42 (rfl : _ = 43) rfl rfl ?_
      refine V_get Y.1 fi_X6_9 hM.1 rfl dX6_setFares_43 (rfl : _ = 46) ?_
      refine V_iconst Y.1 (v := 2) dX6_setFares_46 (rfl : _ = 47) (by decide) ?_
      refine V_iload_n Y.1 2 dX6_setFares_47 (rfl : _ = 48) rfl rfl ?_
      refine V_iast Y.1 hM.2.1 (Or.inl ⟨by omega, by omega⟩) (by unfold vp_in; decide) dX6_setFares_48 (rfl : _ = 49) (fun H48_30 h_new o_48 => ?_)
      have h_new : hp D _ _ (eI kA 169 (upd _ 2 _)) := h_new
      have hM := hM.a1 o_48 h_new
      clear h_new
      refine V_aload_n Y.1 1 dX6_setFares_49 (rfl : _ = 50) rfl rfl ?_
      refine V_get Y.1 fi_X6_9 hM.1 rfl dX6_setFares_50 (rfl : _ = 53) ?_
      refine V_iconst Y.1 (v := 3) dX6_setFares_53 (rfl : _ = 54) (by decide) ?_
      refine V_iload_n Y.1 3 dX6_setFares_54 (rfl : _ = 55) rfl rfl ?_
      refine V_iast Y.1 hM.2.1 (Or.inl ⟨by omega, by omega⟩) (by unfold vp_in; decide) dX6_setFares_55 (rfl : _ = 56) (fun H55_38 h_new o_55 => ?_)
      have h_new : hp D _ _ (eI kA 169 (upd _ 3 _)) := h_new
      have hM := hM.a1 o_55 h_new
      clear h_new
      refine V_aload_n Y.1 1 dX6_setFares_56 (rfl : _ = 57) rfl rfl ?_
      refine V_iload_n Y.1 0 dX6_setFares_57 (rfl : _ = 58) rfl rfl ?_
      refine V_cI Y (rV Y (c_X6_endsQ l D kA _ o F _ _ _ _ _ _ _ 0 (by decide) _ k hk8 (by rw [show nI 0 = 0 from rfl, upd_same pk_us]; exact hM) hk) mi_X6_ends vi_X6_110 rfl hM.1 rfl rfl (Nat.le_of_ble_eq_true rfl) ⟨Nat.le_of_ble_eq_true rfl, Nat.le_of_ble_eq_true rfl⟩ (Nat.le_of_ble_eq_true rfl) (Nat.le_of_ble_eq_true rfl) dX6_setFares_58) (fun q hq => Or.inl (blk_sub (by omega) (by omega) q hq)) (rfl : _ = 61) (fun v_58 H58_44 hq_58 o_58 => ?_)
      have g9 := hq_58
      exact V_ret Y.1 dX6_setFares_61 rfl (Nat.le_of_ble_eq_true rfl) (Nat.le_of_ble_eq_true rfl) (q_f g9 (by unfold q_fares; simp only [*, if_true, if_false, reduceIte] <;> rfl))
    · refine V_aload_n Y.1 1 dX6_setFares_32 (rfl : _ = 33) rfl rfl ?_
      refine V_aload_n Y.1 1 dX6_setFares_33 (rfl : _ = 34) rfl rfl ?_
      refine V_iconst Y.1 (v := 1) dX6_setFares_34 (rfl : _ = 35) (by decide) ?_
      refine V_cI Y (rV Y (c_X6_fails l D kA _ _ _ _ _ _ _ _ _ _ 1 hM) mi_X6_fails vi_X6_100 rfl hM.1 rfl rfl (Nat.le_of_ble_eq_true rfl) ⟨Nat.le_of_ble_eq_true rfl, Nat.le_of_ble_eq_true rfl⟩ (Nat.le_of_ble_eq_true rfl) (Nat.le_of_ble_eq_true rfl) dX6_setFares_35) (fun q hq => Or.inl (blk_sub (by omega) (by omega) q hq)) (rfl : _ = 38) (fun v_35 H35_50 hq_35 o_35 => ?_)
      obtain ⟨e35, hM⟩ := hq_35
      refine V_cI Y (rV Y (c_X6_endsQ l D kA _ o F _ _ _ _ _ _ _ 1 (by decide) _ k hk8 hM hk) mi_X6_ends vi_X6_110 rfl hM.1 rfl rfl (Nat.le_of_ble_eq_true rfl) ⟨Nat.le_of_ble_eq_true rfl, Nat.le_of_ble_eq_true rfl⟩ (Nat.le_of_ble_eq_true rfl) (Nat.le_of_ble_eq_true rfl) dX6_setFares_38) (fun q hq => Or.inl (blk_sub (by omega) (by omega) q hq)) (rfl : _ = 41) (fun v_38 H38_52 hq_38 o_38 => ?_)
      have g9 := hq_38
      exact V_ret Y.1 dX6_setFares_41 rfl (Nat.le_of_ble_eq_true rfl) (Nat.le_of_ble_eq_true rfl) (q_f g9 (by unfold q_fares; simp only [*, if_true, if_false, reduceIte] <;> rfl))

set_option maxRecDepth 100000 in
set_option maxHeartbeats 4000000 in
theorem c_X6_time (l : Launch) (D : va_G) (kA : Nat → ClassId) (H0 : Heap) (o : Nat) (F s b v p u t c : Nat → Int32)  (hM : Rs D kA H0 o F s b v p u t c)  : Ct l D kA yX6_time cX6_time 1 (some .int) 0 0 0 0 H0 [.ref o] (blk o 8) (pI fun v9 H => v9 = s 1 ∧ Rs D kA H o (upd F 6 0) s b v p u t c) := by
  refine Ct.of mi_X6_time (Nat.le_of_ble_eq_true rfl) (ls0 := [(0, _)]) rfl ?_
  intro Pp Ee Ss Mm Ar Bl Me Cc Y hs hnm
  refine V_aload_n Y.1 0 dX6_time_0 (rfl : _ = 1) rfl rfl ?_
  refine V_iconst Y.1 (v := 0) dX6_time_1 (rfl : _ = 2) (by decide) ?_
  refine V_put Y.1 fi_X6_39 fw_X6 rfl rfl hM.1 (Or.inl ⟨by omega, by omega⟩) rfl rfl (Nat.le_of_ble_eq_true rfl) dX6_time_2 (rfl : _ = 5) (fun H2_2 h_new o_2 => ?_)
  have hM := hM.f6 o_2 h_new
  clear h_new
  refine V_aload_n Y.1 0 dX6_time_5 (rfl : _ = 6) rfl rfl ?_
  refine V_get Y.1 fi_X6_9 hM.1 rfl dX6_time_6 (rfl : _ = 9) ?_
  refine V_iconst Y.1 (v := 1) dX6_time_9 (rfl : _ = 10) (by decide) ?_
  refine V_iald Y.1 (v := s 1) hM.2.1 (by unfold vp_in; decide) rfl dX6_time_10 (rfl : _ = 11) ?_
  exact V_ret Y.1 dX6_time_11 rfl (Nat.le_of_ble_eq_true rfl) (Nat.le_of_ble_eq_true rfl) ⟨rfl, hM⟩

set_option maxRecDepth 100000 in
set_option maxHeartbeats 4000000 in
theorem c_X6_day (l : Launch) (D : va_G) (kA : Nat → ClassId) (H0 : Heap) (o : Nat) (F s b v p u t c : Nat → Int32)  (hM : Rs D kA H0 o F s b v p u t c)  : Ct l D kA yX6_day cX6_day 1 (some .int) 1 20 0 0 H0 [.ref o] (blk o 8) (pI fun v9 H => v9 = s 1 / 1440 ∧ Rs D kA H o (upd F 6 0) s b v p u t c) := by
  refine Ct.of mi_X6_day (Nat.le_of_ble_eq_true rfl) (ls0 := [(0, _)]) rfl ?_
  intro Pp Ee Ss Mm Ar Bl Me Cc Y hs hnm
  refine V_aload_n Y.1 0 dX6_day_0 (rfl : _ = 1) rfl rfl ?_
  refine V_iconst Y.1 (v := 0) dX6_day_1 (rfl : _ = 2) (by decide) ?_
  refine V_put Y.1 fi_X6_39 fw_X6 rfl rfl hM.1 (Or.inl ⟨by omega, by omega⟩) rfl rfl (Nat.le_of_ble_eq_true rfl) dX6_day_2 (rfl : _ = 5) (fun H2_2 h_new o_2 => ?_)
  have hM := hM.f6 o_2 h_new
  clear h_new
  refine V_aload_n Y.1 0 dX6_day_5 (rfl : _ = 6) rfl rfl ?_
  refine V_cP Y (rV Y (c_X6_today l D kA _ _ _ _ _ _ _ _ _ _  hM) mi_X6_today vi_X6_81 rfl hM.1 rfl rfl (Nat.le_of_ble_eq_true rfl) ⟨Nat.le_of_ble_eq_true rfl, Nat.le_of_ble_eq_true rfl⟩ (Nat.le_of_ble_eq_true rfl) (Nat.le_of_ble_eq_true rfl) dX6_day_6) (rfl : _ = 9) ?_
  exact V_ret Y.1 dX6_day_9 rfl (Nat.le_of_ble_eq_true rfl) (Nat.le_of_ble_eq_true rfl) ⟨rfl, hM⟩

set_option maxRecDepth 100000 in
set_option maxHeartbeats 4000000 in
theorem c_X6_baseFare (l : Launch) (D : va_G) (kA : Nat → ClassId) (H0 : Heap) (o : Nat) (F s b v p u t c : Nat → Int32)  (hM : Rs D kA H0 o F s b v p u t c)  : Ct l D kA yX6_baseFare cX6_baseFare 1 (some .int) 0 0 0 0 H0 [.ref o] (blk o 8) (pI fun v9 H => v9 = s 2 ∧ Rs D kA H o (upd F 6 0) s b v p u t c) := by
  refine Ct.of mi_X6_baseFare (Nat.le_of_ble_eq_true rfl) (ls0 := [(0, _)]) rfl ?_
  intro Pp Ee Ss Mm Ar Bl Me Cc Y hs hnm
  refine V_aload_n Y.1 0 dX6_baseFare_0 (rfl : _ = 1) rfl rfl ?_
  refine V_iconst Y.1 (v := 0) dX6_baseFare_1 (rfl : _ = 2) (by decide) ?_
  refine V_put Y.1 fi_X6_39 fw_X6 rfl rfl hM.1 (Or.inl ⟨by omega, by omega⟩) rfl rfl (Nat.le_of_ble_eq_true rfl) dX6_baseFare_2 (rfl : _ = 5) (fun H2_2 h_new o_2 => ?_)
  have hM := hM.f6 o_2 h_new
  clear h_new
  refine V_aload_n Y.1 0 dX6_baseFare_5 (rfl : _ = 6) rfl rfl ?_
  refine V_get Y.1 fi_X6_9 hM.1 rfl dX6_baseFare_6 (rfl : _ = 9) ?_
  refine V_iconst Y.1 (v := 2) dX6_baseFare_9 (rfl : _ = 10) (by decide) ?_
  refine V_iald Y.1 (v := s 2) hM.2.1 (by unfold vp_in; decide) rfl dX6_baseFare_10 (rfl : _ = 11) ?_
  exact V_ret Y.1 dX6_baseFare_11 rfl (Nat.le_of_ble_eq_true rfl) (Nat.le_of_ble_eq_true rfl) ⟨rfl, hM⟩

set_option maxRecDepth 100000 in
set_option maxHeartbeats 4000000 in
theorem c_X6_zoneFare (l : Launch) (D : va_G) (kA : Nat → ClassId) (H0 : Heap) (o : Nat) (F s b v p u t c : Nat → Int32)  (hM : Rs D kA H0 o F s b v p u t c)  : Ct l D kA yX6_zoneFare cX6_zoneFare 1 (some .int) 0 0 0 0 H0 [.ref o] (blk o 8) (pI fun v9 H => v9 = s 3 ∧ Rs D kA H o (upd F 6 0) s b v p u t c) := by
  refine Ct.of mi_X6_zoneFare (Nat.le_of_ble_eq_true rfl) (ls0 := [(0, _)]) rfl ?_
  intro Pp Ee Ss Mm Ar Bl Me Cc Y hs hnm
  refine V_aload_n Y.1 0 dX6_zoneFare_0 (rfl : _ = 1) rfl rfl ?_
  refine V_iconst Y.1 (v := 0) dX6_zoneFare_1 (rfl : _ = 2) (by decide) ?_
  refine V_put Y.1 fi_X6_39 fw_X6 rfl rfl hM.1 (Or.inl ⟨by omega, by omega⟩) rfl rfl (Nat.le_of_ble_eq_true rfl) dX6_zoneFare_2 (rfl : _ = 5) (fun H2_2 h_new o_2 => ?_)
  have hM := hM.f6 o_2 h_new
  clear h_new
  refine V_aload_n Y.1 0 dX6_zoneFare_5 (rfl : _ = 6) rfl rfl ?_
  refine V_get Y.1 fi_X6_9 hM.1 rfl dX6_zoneFare_6 (rfl : _ = 9) ?_
  refine V_iconst Y.1 (v := 3) dX6_zoneFare_9 (rfl : _ = 10) (by decide) ?_
  refine V_iald Y.1 (v := s 3) hM.2.1 (by unfold vp_in; decide) rfl dX6_zoneFare_10 (rfl : _ = 11) ?_
  exact V_ret Y.1 dX6_zoneFare_11 rfl (Nat.le_of_ble_eq_true rfl) (Nat.le_of_ble_eq_true rfl) ⟨rfl, hM⟩

set_option maxRecDepth 100000 in
set_option maxHeartbeats 4000000 in
theorem c_X6_cardCount (l : Launch) (D : va_G) (kA : Nat → ClassId) (H0 : Heap) (o : Nat) (F s b v p u t c : Nat → Int32)  (hM : Rs D kA H0 o F s b v p u t c)  : Ct l D kA yX6_cardCount cX6_cardCount 1 (some .int) 0 0 0 0 H0 [.ref o] (blk o 8) (pI fun v9 H => v9 = s 0 ∧ Rs D kA H o (upd F 6 0) s b v p u t c) := by
  refine Ct.of mi_X6_cardCount (Nat.le_of_ble_eq_true rfl) (ls0 := [(0, _)]) rfl ?_
  intro Pp Ee Ss Mm Ar Bl Me Cc Y hs hnm
  refine V_aload_n Y.1 0 dX6_cardCount_0 (rfl : _ = 1) rfl rfl ?_
  refine V_iconst Y.1 (v := 0) dX6_cardCount_1 (rfl : _ = 2) (by decide) ?_
  refine V_put Y.1 fi_X6_39 fw_X6 rfl rfl hM.1 (Or.inl ⟨by omega, by omega⟩) rfl rfl (Nat.le_of_ble_eq_true rfl) dX6_cardCount_2 (rfl : _ = 5) (fun H2_2 h_new o_2 => ?_)
  have hM := hM.f6 o_2 h_new
  clear h_new
  refine V_aload_n Y.1 0 dX6_cardCount_5 (rfl : _ = 6) rfl rfl ?_
  refine V_get Y.1 fi_X6_9 hM.1 rfl dX6_cardCount_6 (rfl : _ = 9) ?_
  refine V_iconst Y.1 (v := 0) dX6_cardCount_9 (rfl : _ = 10) (by decide) ?_
  refine V_iald Y.1 (v := s 0) hM.2.1 (by unfold vp_in; decide) rfl dX6_cardCount_10 (rfl : _ = 11) ?_
  exact V_ret Y.1 dX6_cardCount_11 rfl (Nat.le_of_ble_eq_true rfl) (Nat.le_of_ble_eq_true rfl) ⟨rfl, hM⟩

set_option maxRecDepth 100000 in
set_option maxHeartbeats 4000000 in
theorem c_X6_loadedTotal (l : Launch) (D : va_G) (kA : Nat → ClassId) (H0 : Heap) (o : Nat) (F s b v p u t c : Nat → Int32)  (hM : Rs D kA H0 o F s b v p u t c)  : Ct l D kA yX6_loadedTotal cX6_loadedTotal 1 (some .int) 0 0 0 0 H0 [.ref o] (blk o 8) (pI fun v9 H => v9 = s 4 ∧ Rs D kA H o (upd F 6 0) s b v p u t c) := by
  refine Ct.of mi_X6_loadedTotal (Nat.le_of_ble_eq_true rfl) (ls0 := [(0, _)]) rfl ?_
  intro Pp Ee Ss Mm Ar Bl Me Cc Y hs hnm
  refine V_aload_n Y.1 0 dX6_loadedTotal_0 (rfl : _ = 1) rfl rfl ?_
  refine V_iconst Y.1 (v := 0) dX6_loadedTotal_1 (rfl : _ = 2) (by decide) ?_
  refine V_put Y.1 fi_X6_39 fw_X6 rfl rfl hM.1 (Or.inl ⟨by omega, by omega⟩) rfl rfl (Nat.le_of_ble_eq_true rfl) dX6_loadedTotal_2 (rfl : _ = 5) (fun H2_2 h_new o_2 => ?_)
  have hM := hM.f6 o_2 h_new
  clear h_new
  refine V_aload_n Y.1 0 dX6_loadedTotal_5 (rfl : _ = 6) rfl rfl ?_
  refine V_get Y.1 fi_X6_9 hM.1 rfl dX6_loadedTotal_6 (rfl : _ = 9) ?_
  refine V_iconst Y.1 (v := 4) dX6_loadedTotal_9 (rfl : _ = 10) (by decide) ?_
  refine V_iald Y.1 (v := s 4) hM.2.1 (by unfold vp_in; decide) rfl dX6_loadedTotal_10 (rfl : _ = 11) ?_
  exact V_ret Y.1 dX6_loadedTotal_11 rfl (Nat.le_of_ble_eq_true rfl) (Nat.le_of_ble_eq_true rfl) ⟨rfl, hM⟩

set_option maxRecDepth 100000 in
set_option maxHeartbeats 4000000 in
theorem c_X6_chargedTotal (l : Launch) (D : va_G) (kA : Nat → ClassId) (H0 : Heap) (o : Nat) (F s b v p u t c : Nat → Int32)  (hM : Rs D kA H0 o F s b v p u t c)  : Ct l D kA yX6_chargedTotal cX6_chargedTotal 1 (some .int) 0 0 0 0 H0 [.ref o] (blk o 8) (pI fun v9 H => v9 = s 5 ∧ Rs D kA H o (upd F 6 0) s b v p u t c) := by
  refine Ct.of mi_X6_chargedTotal (Nat.le_of_ble_eq_true rfl) (ls0 := [(0, _)]) rfl ?_
  intro Pp Ee Ss Mm Ar Bl Me Cc Y hs hnm
  refine V_aload_n Y.1 0 dX6_chargedTotal_0 (rfl : _ = 1) rfl rfl ?_
  refine V_iconst Y.1 (v := 0) dX6_chargedTotal_1 (rfl : _ = 2) (by decide) ?_
  refine V_put Y.1 fi_X6_39 fw_X6 rfl rfl hM.1 (Or.inl ⟨by omega, by omega⟩) rfl rfl (Nat.le_of_ble_eq_true rfl) dX6_chargedTotal_2 (rfl : _ = 5) (fun H2_2 h_new o_2 => ?_)
  have hM := hM.f6 o_2 h_new
  clear h_new
  refine V_aload_n Y.1 0 dX6_chargedTotal_5 (rfl : _ = 6) rfl rfl ?_
  refine V_get Y.1 fi_X6_9 hM.1 rfl dX6_chargedTotal_6 (rfl : _ = 9) ?_
  refine V_iconst Y.1 (v := 5) dX6_chargedTotal_9 (rfl : _ = 10) (by decide) ?_
  refine V_iald Y.1 (v := s 5) hM.2.1 (by unfold vp_in; decide) rfl dX6_chargedTotal_10 (rfl : _ = 11) ?_
  exact V_ret Y.1 dX6_chargedTotal_11 rfl (Nat.le_of_ble_eq_true rfl) (Nat.le_of_ble_eq_true rfl) ⟨rfl, hM⟩

set_option maxRecDepth 100000 in
set_option maxHeartbeats 4000000 in
theorem c_X6_paidBackTotal (l : Launch) (D : va_G) (kA : Nat → ClassId) (H0 : Heap) (o : Nat) (F s b v p u t c : Nat → Int32)  (hM : Rs D kA H0 o F s b v p u t c)  : Ct l D kA yX6_paidBackTotal cX6_paidBackTotal 1 (some .int) 0 0 0 0 H0 [.ref o] (blk o 8) (pI fun v9 H => v9 = s 6 ∧ Rs D kA H o (upd F 6 0) s b v p u t c) := by
  refine Ct.of mi_X6_paidBackTotal (Nat.le_of_ble_eq_true rfl) (ls0 := [(0, _)]) rfl ?_
  intro Pp Ee Ss Mm Ar Bl Me Cc Y hs hnm
  refine V_aload_n Y.1 0 dX6_paidBackTotal_0 (rfl : _ = 1) rfl rfl ?_
  refine V_iconst Y.1 (v := 0) dX6_paidBackTotal_1 (rfl : _ = 2) (by decide) ?_
  refine V_put Y.1 fi_X6_39 fw_X6 rfl rfl hM.1 (Or.inl ⟨by omega, by omega⟩) rfl rfl (Nat.le_of_ble_eq_true rfl) dX6_paidBackTotal_2 (rfl : _ = 5) (fun H2_2 h_new o_2 => ?_)
  have hM := hM.f6 o_2 h_new
  clear h_new
  refine V_aload_n Y.1 0 dX6_paidBackTotal_5 (rfl : _ = 6) rfl rfl ?_
  refine V_get Y.1 fi_X6_9 hM.1 rfl dX6_paidBackTotal_6 (rfl : _ = 9) ?_
  refine V_bipush Y.1 (v := 6) dX6_paidBackTotal_9 (rfl : _ = 11) (by decide) ?_
  refine V_iald Y.1 (v := s 6) hM.2.1 (by unfold vp_in; decide) rfl dX6_paidBackTotal_11 (rfl : _ = 12) ?_
  exact V_ret Y.1 dX6_paidBackTotal_12 rfl (Nat.le_of_ble_eq_true rfl) (Nat.le_of_ble_eq_true rfl) ⟨rfl, hM⟩

set_option maxRecDepth 100000 in
set_option maxHeartbeats 4000000 in
theorem c_X6_completeTrips (l : Launch) (D : va_G) (kA : Nat → ClassId) (H0 : Heap) (o : Nat) (F s b v p u t c : Nat → Int32)  (hM : Rs D kA H0 o F s b v p u t c)  : Ct l D kA yX6_completeTrips cX6_completeTrips 1 (some .int) 0 0 0 0 H0 [.ref o] (blk o 8) (pI fun v9 H => v9 = s 7 ∧ Rs D kA H o (upd F 6 0) s b v p u t c) := by
  refine Ct.of mi_X6_completeTrips (Nat.le_of_ble_eq_true rfl) (ls0 := [(0, _)]) rfl ?_
  intro Pp Ee Ss Mm Ar Bl Me Cc Y hs hnm
  refine V_aload_n Y.1 0 dX6_completeTrips_0 (rfl : _ = 1) rfl rfl ?_
  refine V_iconst Y.1 (v := 0) dX6_completeTrips_1 (rfl : _ = 2) (by decide) ?_
  refine V_put Y.1 fi_X6_39 fw_X6 rfl rfl hM.1 (Or.inl ⟨by omega, by omega⟩) rfl rfl (Nat.le_of_ble_eq_true rfl) dX6_completeTrips_2 (rfl : _ = 5) (fun H2_2 h_new o_2 => ?_)
  have hM := hM.f6 o_2 h_new
  clear h_new
  refine V_aload_n Y.1 0 dX6_completeTrips_5 (rfl : _ = 6) rfl rfl ?_
  refine V_get Y.1 fi_X6_9 hM.1 rfl dX6_completeTrips_6 (rfl : _ = 9) ?_
  refine V_bipush Y.1 (v := 7) dX6_completeTrips_9 (rfl : _ = 11) (by decide) ?_
  refine V_iald Y.1 (v := s 7) hM.2.1 (by unfold vp_in; decide) rfl dX6_completeTrips_11 (rfl : _ = 12) ?_
  exact V_ret Y.1 dX6_completeTrips_12 rfl (Nat.le_of_ble_eq_true rfl) (Nat.le_of_ble_eq_true rfl) ⟨rfl, hM⟩

set_option maxRecDepth 100000 in
set_option maxHeartbeats 4000000 in
theorem c_X6_incompleteTrips (l : Launch) (D : va_G) (kA : Nat → ClassId) (H0 : Heap) (o : Nat) (F s b v p u t c : Nat → Int32)  (hM : Rs D kA H0 o F s b v p u t c)  : Ct l D kA yX6_incompleteTrips cX6_incompleteTrips 1 (some .int) 0 0 0 0 H0 [.ref o] (blk o 8) (pI fun v9 H => v9 = s 8 ∧ Rs D kA H o (upd F 6 0) s b v p u t c) := by
  refine Ct.of mi_X6_incompleteTrips (Nat.le_of_ble_eq_true rfl) (ls0 := [(0, _)]) rfl ?_
  intro Pp Ee Ss Mm Ar Bl Me Cc Y hs hnm
  refine V_aload_n Y.1 0 dX6_incompleteTrips_0 (rfl : _ = 1) rfl rfl ?_
  refine V_iconst Y.1 (v := 0) dX6_incompleteTrips_1 (rfl : _ = 2) (by decide) ?_
  refine V_put Y.1 fi_X6_39 fw_X6 rfl rfl hM.1 (Or.inl ⟨by omega, by omega⟩) rfl rfl (Nat.le_of_ble_eq_true rfl) dX6_incompleteTrips_2 (rfl : _ = 5) (fun H2_2 h_new o_2 => ?_)
  have hM := hM.f6 o_2 h_new
  clear h_new
  refine V_aload_n Y.1 0 dX6_incompleteTrips_5 (rfl : _ = 6) rfl rfl ?_
  refine V_get Y.1 fi_X6_9 hM.1 rfl dX6_incompleteTrips_6 (rfl : _ = 9) ?_
  refine V_bipush Y.1 (v := 8) dX6_incompleteTrips_9 (rfl : _ = 11) (by decide) ?_
  refine V_iald Y.1 (v := s 8) hM.2.1 (by unfold vp_in; decide) rfl dX6_incompleteTrips_11 (rfl : _ = 12) ?_
  exact V_ret Y.1 dX6_incompleteTrips_12 rfl (Nat.le_of_ble_eq_true rfl) (Nat.le_of_ble_eq_true rfl) ⟨rfl, hM⟩

set_option maxRecDepth 100000 in
set_option maxHeartbeats 4000000 in
theorem c_X6_defaultFare (l : Launch) (D : va_G) (kA : Nat → ClassId) (H0 : Heap) (o : Nat) (F s b v p u t c : Nat → Int32)  (hM : Rs D kA H0 o F s b v p u t c)  : Ct l D kA yX6_defaultFare cX6_defaultFare 1 (some .int) 0 0 0 0 H0 [.ref o] (blk o 8) (pI fun v9 H => v9 = s 2 + 5 * s 3 ∧ Rs D kA H o (upd F 6 0) s b v p u t c) := by
  refine Ct.of mi_X6_defaultFare (Nat.le_of_ble_eq_true rfl) (ls0 := [(0, _)]) rfl ?_
  intro Pp Ee Ss Mm Ar Bl Me Cc Y hs hnm
  refine V_aload_n Y.1 0 dX6_defaultFare_0 (rfl : _ = 1) rfl rfl ?_
  refine V_iconst Y.1 (v := 0) dX6_defaultFare_1 (rfl : _ = 2) (by decide) ?_
  refine V_put Y.1 fi_X6_39 fw_X6 rfl rfl hM.1 (Or.inl ⟨by omega, by omega⟩) rfl rfl (Nat.le_of_ble_eq_true rfl) dX6_defaultFare_2 (rfl : _ = 5) (fun H2_2 h_new o_2 => ?_)
  have hM := hM.f6 o_2 h_new
  clear h_new
  refine V_aload_n Y.1 0 dX6_defaultFare_5 (rfl : _ = 6) rfl rfl ?_
  refine V_get Y.1 fi_X6_9 hM.1 rfl dX6_defaultFare_6 (rfl : _ = 9) ?_
  refine V_iconst Y.1 (v := 2) dX6_defaultFare_9 (rfl : _ = 10) (by decide) ?_
  refine V_iald Y.1 (v := s 2) hM.2.1 (by unfold vp_in; decide) rfl dX6_defaultFare_10 (rfl : _ = 11) ?_
  refine V_iconst Y.1 (v := 5) dX6_defaultFare_11 (rfl : _ = 12) (by decide) ?_
  refine V_aload_n Y.1 0 dX6_defaultFare_12 (rfl : _ = 13) rfl rfl ?_
  refine V_get Y.1 fi_X6_9 hM.1 rfl dX6_defaultFare_13 (rfl : _ = 16) ?_
  refine V_iconst Y.1 (v := 3) dX6_defaultFare_16 (rfl : _ = 17) (by decide) ?_
  refine V_iald Y.1 (v := s 3) hM.2.1 (by unfold vp_in; decide) rfl dX6_defaultFare_17 (rfl : _ = 18) ?_
  refine V_imul Y.1 dX6_defaultFare_18 (rfl : _ = 19) ?_
  refine V_iadd Y.1 dX6_defaultFare_19 (rfl : _ = 20) ?_
  exact V_ret Y.1 dX6_defaultFare_20 rfl (Nat.le_of_ble_eq_true rfl) (Nat.le_of_ble_eq_true rfl) ⟨rfl, hM⟩

set_option maxRecDepth 100000 in
set_option maxHeartbeats 4000000 in
theorem c_X6_isConsistent (l : Launch) (D : va_G) (kA : Nat → ClassId) (H0 : Heap) (o : Nat) (F s b v p u t c : Nat → Int32)  (hM : Rs D kA H0 o F s b v p u t c)  : Ct l D kA yX6_isConsistent cX6_isConsistent 1 (some .boolean) 0 0 0 0 H0 [.ref o] (blk o 8) (pI fun v9 H => v9 = 1 ∧ Rs D kA H o (upd F 6 0) s b v p u t c) := by
  refine Ct.of mi_X6_isConsistent (Nat.le_of_ble_eq_true rfl) (ls0 := [(0, _)]) rfl ?_
  intro Pp Ee Ss Mm Ar Bl Me Cc Y hs hnm
  refine V_aload_n Y.1 0 dX6_isConsistent_0 (rfl : _ = 1) rfl rfl ?_
  refine V_iconst Y.1 (v := 0) dX6_isConsistent_1 (rfl : _ = 2) (by decide) ?_
  refine V_put Y.1 fi_X6_39 fw_X6 rfl rfl hM.1 (Or.inl ⟨by omega, by omega⟩) rfl rfl (Nat.le_of_ble_eq_true rfl) dX6_isConsistent_2 (rfl : _ = 5) (fun H2_2 h_new o_2 => ?_)
  have hM := hM.f6 o_2 h_new
  clear h_new
  refine V_iconst Y.1 (v := 1) dX6_isConsistent_5 (rfl : _ = 6) (by decide) ?_
  exact V_ret Y.1 dX6_isConsistent_6 rfl (Nat.le_of_ble_eq_true rfl) (Nat.le_of_ble_eq_true rfl) ⟨rfl, hM⟩

set_option maxRecDepth 100000 in
set_option maxHeartbeats 4000000 in
theorem c_X6_zone (l : Launch) (D : va_G) (kA : Nat → ClassId) (H0 : Heap) (o : Nat) (F s b v p u t c : Nat → Int32) (x : Int32) (hM : Rs D kA H0 o F s b v p u t c)  : Ct l D kA yX6_zone cX6_zone 2 (some .int) 2 42 0 0 H0 [.ref o, .int x] (blk o 8) (pI fun v9 H => v9 = (g_zone s x).2 ∧ Rs D kA H o (upd F 6 (nI (g_zone s x).1)) s b v p u t c) := by
  refine Ct.of mi_X6_zone (Nat.le_of_ble_eq_true rfl) (ls0 := [(0, _), (1, _)]) rfl ?_
  intro Pp Ee Ss Mm Ar Bl Me Cc Y hs hnm
  refine V_aload_n Y.1 0 dX6_zone_0 (rfl : _ = 1) rfl rfl ?_
  refine V_iload_n Y.1 1 dX6_zone_1 (rfl : _ = 2) rfl rfl ?_
  refine V_cP Y (rS Y (c_X6_isStation l D kA _ _) mi_X6_isStation si_X6_120 rfl rfl (Nat.le_of_ble_eq_true rfl) ⟨Nat.le_of_ble_eq_true rfl, Nat.le_of_ble_eq_true rfl⟩ (Nat.le_of_ble_eq_true rfl) (Nat.le_of_ble_eq_true rfl) dX6_zone_2) (rfl : _ = 5) ?_
  refine V_cI Y (rV Y (c_X6_isThere l D kA _ _ _ _ _ _ _ _ _ _ _ hM (r_in_01 _ _ _)) mi_X6_isThere vi_X6_149 rfl hM.1 rfl rfl (Nat.le_of_ble_eq_true rfl) ⟨Nat.le_of_ble_eq_true rfl, Nat.le_of_ble_eq_true rfl⟩ (Nat.le_of_ble_eq_true rfl) (Nat.le_of_ble_eq_true rfl) dX6_zone_5) (fun q hq => Or.inl (blk_sub (by omega) (by omega) q hq)) (rfl : _ = 8) (fun v_5 H5_3 hq_5 o_5 => ?_)
  obtain ⟨rfl, hM⟩ := hq_5
  refine V_if_eq Y.1 (tgt := 23) dX6_zone_8 (by decide) (rfl : _ = 11) (fun c_8 => ?_) (fun c_8 => ?_)
  · rw [c_8] at hM
    have hM := Rs.z (z := 1) hM
    refine V_iconst Y.1 (v := 0) dX6_zone_23 (rfl : _ = 24) (by decide) ?_
    exact V_ret Y.1 dX6_zone_24 rfl (Nat.le_of_ble_eq_true rfl) (Nat.le_of_ble_eq_true rfl) (g_e rfl hM (by unfold g_zone; simp only [*, if_true, if_false, not_true, not_false_iff, reduceIte, ge_iff_le, gt_iff_lt] <;> rfl))
  · have c1 := (r_in_01 _ _ _).resolve_left c_8
    rw [c1] at hM
    have hM := Rs.z (z := 0) hM
    obtain ⟨w, hw, rfl⟩ := r_in_st c_8
    have ew : (nI w).toNatClampNeg = w := nI_clamp (by omega)
    refine V_aload_n Y.1 0 dX6_zone_11 (rfl : _ = 12) rfl rfl ?_
    refine V_get Y.1 fi_X6_9 hM.1 rfl dX6_zone_12 (rfl : _ = 15) ?_
    refine V_bipush Y.1 (v := 9) dX6_zone_15 (rfl : _ = 17) (by decide) ?_
    refine V_iload_n Y.1 1 dX6_zone_17 (rfl : _ = 18) rfl rfl ?_
    refine V_iadd Y.1 dX6_zone_18 (rfl : _ = 19) ?_
    refine V_nm (v := nI (9 + w)) (nI_add _ _) ?_
    refine V_iald Y.1 (v := _) hM.2.1 (by first | assumption | exact vp_in_nI (by omega) (by omega)) (by rw [nI_clamp (by omega)]) dX6_zone_19 (rfl : _ = 20) ?_
    refine V_goto Y.1 (tgt := 24) dX6_zone_20 (by decide) ?_
    exact V_ret Y.1 dX6_zone_24 rfl (Nat.le_of_ble_eq_true rfl) (Nat.le_of_ble_eq_true rfl) (g_e rfl hM (by unfold g_zone; simp only [*, if_true, if_false, not_true, not_false_iff, reduceIte, ge_iff_le, gt_iff_lt] <;> rfl))

set_option maxRecDepth 100000 in
set_option maxHeartbeats 4000000 in
theorem c_X6_taps (l : Launch) (D : va_G) (kA : Nat → ClassId) (H0 : Heap) (o : Nat) (F s b v p u t c : Nat → Int32) (x : Int32) (hM : Rs D kA H0 o F s b v p u t c)  : Ct l D kA yX6_taps cX6_taps 2 (some .int) 2 42 0 0 H0 [.ref o, .int x] (blk o 8) (pI fun v9 H => v9 = (g_taps s x).2 ∧ Rs D kA H o (upd F 6 (nI (g_taps s x).1)) s b v p u t c) := by
  refine Ct.of mi_X6_taps (Nat.le_of_ble_eq_true rfl) (ls0 := [(0, _), (1, _)]) rfl ?_
  intro Pp Ee Ss Mm Ar Bl Me Cc Y hs hnm
  refine V_aload_n Y.1 0 dX6_taps_0 (rfl : _ = 1) rfl rfl ?_
  refine V_iload_n Y.1 1 dX6_taps_1 (rfl : _ = 2) rfl rfl ?_
  refine V_cP Y (rS Y (c_X6_isStation l D kA _ _) mi_X6_isStation si_X6_120 rfl rfl (Nat.le_of_ble_eq_true rfl) ⟨Nat.le_of_ble_eq_true rfl, Nat.le_of_ble_eq_true rfl⟩ (Nat.le_of_ble_eq_true rfl) (Nat.le_of_ble_eq_true rfl) dX6_taps_2) (rfl : _ = 5) ?_
  refine V_cI Y (rV Y (c_X6_isThere l D kA _ _ _ _ _ _ _ _ _ _ _ hM (r_in_01 _ _ _)) mi_X6_isThere vi_X6_149 rfl hM.1 rfl rfl (Nat.le_of_ble_eq_true rfl) ⟨Nat.le_of_ble_eq_true rfl, Nat.le_of_ble_eq_true rfl⟩ (Nat.le_of_ble_eq_true rfl) (Nat.le_of_ble_eq_true rfl) dX6_taps_5) (fun q hq => Or.inl (blk_sub (by omega) (by omega) q hq)) (rfl : _ = 8) (fun v_5 H5_3 hq_5 o_5 => ?_)
  obtain ⟨rfl, hM⟩ := hq_5
  refine V_if_eq Y.1 (tgt := 23) dX6_taps_8 (by decide) (rfl : _ = 11) (fun c_8 => ?_) (fun c_8 => ?_)
  · rw [c_8] at hM
    have hM := Rs.z (z := 1) hM
    refine V_iconst Y.1 (v := 0) dX6_taps_23 (rfl : _ = 24) (by decide) ?_
    exact V_ret Y.1 dX6_taps_24 rfl (Nat.le_of_ble_eq_true rfl) (Nat.le_of_ble_eq_true rfl) (g_e rfl hM (by unfold g_taps; simp only [*, if_true, if_false, not_true, not_false_iff, reduceIte, ge_iff_le, gt_iff_lt] <;> rfl))
  · have c1 := (r_in_01 _ _ _).resolve_left c_8
    rw [c1] at hM
    have hM := Rs.z (z := 0) hM
    obtain ⟨w, hw, rfl⟩ := r_in_st c_8
    have ew : (nI w).toNatClampNeg = w := nI_clamp (by omega)
    refine V_aload_n Y.1 0 dX6_taps_11 (rfl : _ = 12) rfl rfl ?_
    refine V_get Y.1 fi_X6_9 hM.1 rfl dX6_taps_12 (rfl : _ = 15) ?_
    refine V_bipush Y.1 (v := 21) dX6_taps_15 (rfl : _ = 17) (by decide) ?_
    refine V_iload_n Y.1 1 dX6_taps_17 (rfl : _ = 18) rfl rfl ?_
    refine V_iadd Y.1 dX6_taps_18 (rfl : _ = 19) ?_
    refine V_nm (v := nI (21 + w)) (nI_add _ _) ?_
    refine V_iald Y.1 (v := _) hM.2.1 (by first | assumption | exact vp_in_nI (by omega) (by omega)) (by rw [nI_clamp (by omega)]) dX6_taps_19 (rfl : _ = 20) ?_
    refine V_goto Y.1 (tgt := 24) dX6_taps_20 (by decide) ?_
    exact V_ret Y.1 dX6_taps_24 rfl (Nat.le_of_ble_eq_true rfl) (Nat.le_of_ble_eq_true rfl) (g_e rfl hM (by unfold g_taps; simp only [*, if_true, if_false, not_true, not_false_iff, reduceIte, ge_iff_le, gt_iff_lt] <;> rfl))

set_option maxRecDepth 100000 in
set_option maxHeartbeats 4000000 in
theorem c_X6_zoneCount (l : Launch) (D : va_G) (kA : Nat → ClassId) (H0 : Heap) (o : Nat) (F s b v p u t c : Nat → Int32) (x y : Int32) (hM : Rs D kA H0 o F s b v p u t c)  : Ct l D kA yX6_zoneCount cX6_zoneCount 3 (some .int) 2 49 0 0 H0 [.ref o, .int x, .int y] (blk o 8) (pI fun v9 H => v9 = (g_zc s x y).2 ∧ Rs D kA H o (upd F 6 (nI (g_zc s x y).1)) s b v p u t c) := by
  refine Ct.of mi_X6_zoneCount (Nat.le_of_ble_eq_true rfl) (ls0 := [(0, _), (1, _), (2, _)]) rfl ?_
  intro Pp Ee Ss Mm Ar Bl Me Cc Y hs hnm
  refine V_aload_n Y.1 0 dX6_zoneCount_0 (rfl : _ = 1) rfl rfl ?_
  refine V_iload_n Y.1 1 dX6_zoneCount_1 (rfl : _ = 2) rfl rfl ?_
  refine V_cP Y (rS Y (c_X6_isStation l D kA _ _) mi_X6_isStation si_X6_120 rfl rfl (Nat.le_of_ble_eq_true rfl) ⟨Nat.le_of_ble_eq_true rfl, Nat.le_of_ble_eq_true rfl⟩ (Nat.le_of_ble_eq_true rfl) (Nat.le_of_ble_eq_true rfl) dX6_zoneCount_2) (rfl : _ = 5) ?_
  refine V_if_eq Y.1 (tgt := 19) dX6_zoneCount_5 (by decide) (rfl : _ = 8) (fun c_5 => ?_) (fun c_5 => ?_)
  · refine V_iconst Y.1 (v := 0) dX6_zoneCount_19 (rfl : _ = 20) (by decide) ?_
    refine V_cI Y (rV Y (c_X6_isThere l D kA _ _ _ _ _ _ _ _ _ _ 0 hM (by decide)) mi_X6_isThere vi_X6_149 rfl hM.1 rfl rfl (Nat.le_of_ble_eq_true rfl) ⟨Nat.le_of_ble_eq_true rfl, Nat.le_of_ble_eq_true rfl⟩ (Nat.le_of_ble_eq_true rfl) (Nat.le_of_ble_eq_true rfl) dX6_zoneCount_20) (fun q hq => Or.inl (blk_sub (by omega) (by omega) q hq)) (rfl : _ = 23) (fun v_20 H20_5 hq_20 o_20 => ?_)
    obtain ⟨rfl, hM⟩ := hq_20
    have hM := Rs.z (z := 1) hM
    refine V_if_eq Y.1 (tgt := 35) dX6_zoneCount_23 (by decide) (rfl : _ = 26) (fun _ => ?_) (fun c_n => absurd rfl c_n)
    refine V_iconst Y.1 (v := 0) dX6_zoneCount_35 (rfl : _ = 36) (by decide) ?_
    exact V_ret Y.1 dX6_zoneCount_36 rfl (Nat.le_of_ble_eq_true rfl) (Nat.le_of_ble_eq_true rfl) (g_e rfl hM (by unfold g_zc; simp only [*, if_true, if_false, not_true, not_false_iff, reduceIte, ge_iff_le, gt_iff_lt] <;> rfl))
  · obtain ⟨f, hf, rfl⟩ := r_in_st c_5
    have ef : (nI f).toNatClampNeg = f := nI_clamp (by omega)
    refine V_iload_n Y.1 2 dX6_zoneCount_8 (rfl : _ = 9) rfl rfl ?_
    refine V_cP Y (rS Y (c_X6_isStation l D kA _ _) mi_X6_isStation si_X6_120 rfl rfl (Nat.le_of_ble_eq_true rfl) ⟨Nat.le_of_ble_eq_true rfl, Nat.le_of_ble_eq_true rfl⟩ (Nat.le_of_ble_eq_true rfl) (Nat.le_of_ble_eq_true rfl) dX6_zoneCount_9) (rfl : _ = 12) ?_
    refine V_if_eq Y.1 (tgt := 19) dX6_zoneCount_12 (by decide) (rfl : _ = 15) (fun c_12 => ?_) (fun c_12 => ?_)
    · refine V_iconst Y.1 (v := 0) dX6_zoneCount_19 (rfl : _ = 20) (by decide) ?_
      refine V_cI Y (rV Y (c_X6_isThere l D kA _ _ _ _ _ _ _ _ _ _ 0 hM (by decide)) mi_X6_isThere vi_X6_149 rfl hM.1 rfl rfl (Nat.le_of_ble_eq_true rfl) ⟨Nat.le_of_ble_eq_true rfl, Nat.le_of_ble_eq_true rfl⟩ (Nat.le_of_ble_eq_true rfl) (Nat.le_of_ble_eq_true rfl) dX6_zoneCount_20) (fun q hq => Or.inl (blk_sub (by omega) (by omega) q hq)) (rfl : _ = 23) (fun v_20 H20_17 hq_20 o_20 => ?_)
      obtain ⟨rfl, hM⟩ := hq_20
      have hM := Rs.z (z := 1) hM
      refine V_if_eq Y.1 (tgt := 35) dX6_zoneCount_23 (by decide) (rfl : _ = 26) (fun _ => ?_) (fun c_n => absurd rfl c_n)
      refine V_iconst Y.1 (v := 0) dX6_zoneCount_35 (rfl : _ = 36) (by decide) ?_
      exact V_ret Y.1 dX6_zoneCount_36 rfl (Nat.le_of_ble_eq_true rfl) (Nat.le_of_ble_eq_true rfl) (g_e rfl hM (by unfold g_zc; simp only [*, if_true, if_false, not_true, not_false_iff, reduceIte, ge_iff_le, gt_iff_lt] <;> rfl))
    · obtain ⟨w, hw, rfl⟩ := r_in_st c_12
      have ew : (nI w).toNatClampNeg = w := nI_clamp (by omega)
      refine V_iconst Y.1 (v := 1) dX6_zoneCount_15 (rfl : _ = 16) (by decide) ?_
      refine V_goto Y.1 (tgt := 20) dX6_zoneCount_16 (by decide) ?_
      refine V_cI Y (rV Y (c_X6_isThere l D kA _ _ _ _ _ _ _ _ _ _ 1 hM (by decide)) mi_X6_isThere vi_X6_149 rfl hM.1 rfl rfl (Nat.le_of_ble_eq_true rfl) ⟨Nat.le_of_ble_eq_true rfl, Nat.le_of_ble_eq_true rfl⟩ (Nat.le_of_ble_eq_true rfl) (Nat.le_of_ble_eq_true rfl) dX6_zoneCount_20) (fun q hq => Or.inl (blk_sub (by omega) (by omega) q hq)) (rfl : _ = 23) (fun v_20 H20_27 hq_20 o_20 => ?_)
      obtain ⟨rfl, hM⟩ := hq_20
      have hM := Rs.z (z := 0) hM
      refine V_if_eq Y.1 (tgt := 35) dX6_zoneCount_23 (by decide) (rfl : _ = 26) (fun c_n => absurd c_n (by decide)) (fun _ => ?_)
      refine V_aload_n Y.1 0 dX6_zoneCount_26 (rfl : _ = 27) rfl rfl ?_
      refine V_iload_n Y.1 1 dX6_zoneCount_27 (rfl : _ = 28) rfl rfl ?_
      refine V_iload_n Y.1 2 dX6_zoneCount_28 (rfl : _ = 29) rfl rfl ?_
      refine V_cP Y (rV Y (c_X6_zones l D kA _ _ _ _ _ _ _ _ _ _ f w hf hw hM) mi_X6_zones vi_X6_64 rfl hM.1 rfl rfl (Nat.le_of_ble_eq_true rfl) ⟨Nat.le_of_ble_eq_true rfl, Nat.le_of_ble_eq_true rfl⟩ (Nat.le_of_ble_eq_true rfl) (Nat.le_of_ble_eq_true rfl) dX6_zoneCount_29) (rfl : _ = 32) ?_
      refine V_goto Y.1 (tgt := 36) dX6_zoneCount_32 (by decide) ?_
      exact V_ret Y.1 dX6_zoneCount_36 rfl (Nat.le_of_ble_eq_true rfl) (Nat.le_of_ble_eq_true rfl) (g_e rfl hM (by unfold g_zc; simp only [*, if_true, if_false, not_true, not_false_iff, reduceIte, ge_iff_le, gt_iff_lt] <;> rfl))

set_option maxRecDepth 100000 in
set_option maxHeartbeats 4000000 in
theorem c_X6_fare (l : Launch) (D : va_G) (kA : Nat → ClassId) (H0 : Heap) (o : Nat) (F s b v p u t c : Nat → Int32) (x y : Int32) (hM : Rs D kA H0 o F s b v p u t c)  : Ct l D kA yX6_fare cX6_fare 3 (some .int) 3 71 0 0 H0 [.ref o, .int x, .int y] (blk o 8) (pI fun v9 H => v9 = (g_fare s x y).2 ∧ Rs D kA H o (upd F 6 (nI (g_fare s x y).1)) s b v p u t c) := by
  refine Ct.of mi_X6_fare (Nat.le_of_ble_eq_true rfl) (ls0 := [(0, _), (1, _), (2, _)]) rfl ?_
  intro Pp Ee Ss Mm Ar Bl Me Cc Y hs hnm
  refine V_aload_n Y.1 0 dX6_fare_0 (rfl : _ = 1) rfl rfl ?_
  refine V_iload_n Y.1 1 dX6_fare_1 (rfl : _ = 2) rfl rfl ?_
  refine V_cP Y (rS Y (c_X6_isStation l D kA _ _) mi_X6_isStation si_X6_120 rfl rfl (Nat.le_of_ble_eq_true rfl) ⟨Nat.le_of_ble_eq_true rfl, Nat.le_of_ble_eq_true rfl⟩ (Nat.le_of_ble_eq_true rfl) (Nat.le_of_ble_eq_true rfl) dX6_fare_2) (rfl : _ = 5) ?_
  refine V_if_eq Y.1 (tgt := 19) dX6_fare_5 (by decide) (rfl : _ = 8) (fun c_5 => ?_) (fun c_5 => ?_)
  · refine V_iconst Y.1 (v := 0) dX6_fare_19 (rfl : _ = 20) (by decide) ?_
    refine V_cI Y (rV Y (c_X6_isThere l D kA _ _ _ _ _ _ _ _ _ _ 0 hM (by decide)) mi_X6_isThere vi_X6_149 rfl hM.1 rfl rfl (Nat.le_of_ble_eq_true rfl) ⟨Nat.le_of_ble_eq_true rfl, Nat.le_of_ble_eq_true rfl⟩ (Nat.le_of_ble_eq_true rfl) (Nat.le_of_ble_eq_true rfl) dX6_fare_20) (fun q hq => Or.inl (blk_sub (by omega) (by omega) q hq)) (rfl : _ = 23) (fun v_20 H20_5 hq_20 o_20 => ?_)
    obtain ⟨rfl, hM⟩ := hq_20
    have hM := Rs.z (z := 1) hM
    refine V_if_eq Y.1 (tgt := 35) dX6_fare_23 (by decide) (rfl : _ = 26) (fun _ => ?_) (fun c_n => absurd rfl c_n)
    refine V_iconst Y.1 (v := 0) dX6_fare_35 (rfl : _ = 36) (by decide) ?_
    exact V_ret Y.1 dX6_fare_36 rfl (Nat.le_of_ble_eq_true rfl) (Nat.le_of_ble_eq_true rfl) (g_e rfl hM (by unfold g_fare; simp only [*, if_true, if_false, not_true, not_false_iff, reduceIte, ge_iff_le, gt_iff_lt] <;> rfl))
  · obtain ⟨f, hf, rfl⟩ := r_in_st c_5
    have ef : (nI f).toNatClampNeg = f := nI_clamp (by omega)
    refine V_iload_n Y.1 2 dX6_fare_8 (rfl : _ = 9) rfl rfl ?_
    refine V_cP Y (rS Y (c_X6_isStation l D kA _ _) mi_X6_isStation si_X6_120 rfl rfl (Nat.le_of_ble_eq_true rfl) ⟨Nat.le_of_ble_eq_true rfl, Nat.le_of_ble_eq_true rfl⟩ (Nat.le_of_ble_eq_true rfl) (Nat.le_of_ble_eq_true rfl) dX6_fare_9) (rfl : _ = 12) ?_
    refine V_if_eq Y.1 (tgt := 19) dX6_fare_12 (by decide) (rfl : _ = 15) (fun c_12 => ?_) (fun c_12 => ?_)
    · refine V_iconst Y.1 (v := 0) dX6_fare_19 (rfl : _ = 20) (by decide) ?_
      refine V_cI Y (rV Y (c_X6_isThere l D kA _ _ _ _ _ _ _ _ _ _ 0 hM (by decide)) mi_X6_isThere vi_X6_149 rfl hM.1 rfl rfl (Nat.le_of_ble_eq_true rfl) ⟨Nat.le_of_ble_eq_true rfl, Nat.le_of_ble_eq_true rfl⟩ (Nat.le_of_ble_eq_true rfl) (Nat.le_of_ble_eq_true rfl) dX6_fare_20) (fun q hq => Or.inl (blk_sub (by omega) (by omega) q hq)) (rfl : _ = 23) (fun v_20 H20_17 hq_20 o_20 => ?_)
      obtain ⟨rfl, hM⟩ := hq_20
      have hM := Rs.z (z := 1) hM
      refine V_if_eq Y.1 (tgt := 35) dX6_fare_23 (by decide) (rfl : _ = 26) (fun _ => ?_) (fun c_n => absurd rfl c_n)
      refine V_iconst Y.1 (v := 0) dX6_fare_35 (rfl : _ = 36) (by decide) ?_
      exact V_ret Y.1 dX6_fare_36 rfl (Nat.le_of_ble_eq_true rfl) (Nat.le_of_ble_eq_true rfl) (g_e rfl hM (by unfold g_fare; simp only [*, if_true, if_false, not_true, not_false_iff, reduceIte, ge_iff_le, gt_iff_lt] <;> rfl))
    · obtain ⟨w, hw, rfl⟩ := r_in_st c_12
      have ew : (nI w).toNatClampNeg = w := nI_clamp (by omega)
      refine V_iconst Y.1 (v := 1) dX6_fare_15 (rfl : _ = 16) (by decide) ?_
      refine V_goto Y.1 (tgt := 20) dX6_fare_16 (by decide) ?_
      refine V_cI Y (rV Y (c_X6_isThere l D kA _ _ _ _ _ _ _ _ _ _ 1 hM (by decide)) mi_X6_isThere vi_X6_149 rfl hM.1 rfl rfl (Nat.le_of_ble_eq_true rfl) ⟨Nat.le_of_ble_eq_true rfl, Nat.le_of_ble_eq_true rfl⟩ (Nat.le_of_ble_eq_true rfl) (Nat.le_of_ble_eq_true rfl) dX6_fare_20) (fun q hq => Or.inl (blk_sub (by omega) (by omega) q hq)) (rfl : _ = 23) (fun v_20 H20_27 hq_20 o_20 => ?_)
      obtain ⟨rfl, hM⟩ := hq_20
      have hM := Rs.z (z := 0) hM
      refine V_if_eq Y.1 (tgt := 35) dX6_fare_23 (by decide) (rfl : _ = 26) (fun c_n => absurd c_n (by decide)) (fun _ => ?_)
      refine V_aload_n Y.1 0 dX6_fare_26 (rfl : _ = 27) rfl rfl ?_
      refine V_iload_n Y.1 1 dX6_fare_27 (rfl : _ = 28) rfl rfl ?_
      refine V_iload_n Y.1 2 dX6_fare_28 (rfl : _ = 29) rfl rfl ?_
      refine V_cP Y (rV Y (c_X6_price l D kA _ _ _ _ _ _ _ _ _ _ f w hf hw hM) mi_X6_price vi_X6_97 rfl hM.1 rfl rfl (Nat.le_of_ble_eq_true rfl) ⟨Nat.le_of_ble_eq_true rfl, Nat.le_of_ble_eq_true rfl⟩ (Nat.le_of_ble_eq_true rfl) (Nat.le_of_ble_eq_true rfl) dX6_fare_29) (rfl : _ = 32) ?_
      refine V_goto Y.1 (tgt := 36) dX6_fare_32 (by decide) ?_
      exact V_ret Y.1 dX6_fare_36 rfl (Nat.le_of_ble_eq_true rfl) (Nat.le_of_ble_eq_true rfl) (g_e rfl hM (by unfold g_fare; simp only [*, if_true, if_false, not_true, not_false_iff, reduceIte, ge_iff_le, gt_iff_lt] <;> rfl))

set_option maxRecDepth 100000 in
set_option maxHeartbeats 4000000 in
theorem c_X6_zoneCountByComparing (l : Launch) (D : va_G) (kA : Nat → ClassId) (H0 : Heap) (o : Nat) (F s b v p u t c : Nat → Int32) (x y : Int32) (hM : Rs D kA H0 o F s b v p u t c)  : Ct l D kA yX6_zoneCountByComparing cX6_zoneCountByComparing 3 (some .int) 3 71 0 0 H0 [.ref o, .int x, .int y] (blk o 8) (pI fun v9 H => v9 = (g_zc s x y).2 ∧ Rs D kA H o (upd F 6 (nI (g_zc s x y).1)) s b v p u t c) := by
  refine Ct.of mi_X6_zoneCountByComparing (Nat.le_of_ble_eq_true rfl) (ls0 := [(0, _), (1, _), (2, _)]) rfl ?_
  intro Pp Ee Ss Mm Ar Bl Me Cc Y hs hnm
  refine V_aload_n Y.1 0 dX6_zoneCountByComparing_0 (rfl : _ = 1) rfl rfl ?_
  refine V_iload_n Y.1 1 dX6_zoneCountByComparing_1 (rfl : _ = 2) rfl rfl ?_
  refine V_iload_n Y.1 2 dX6_zoneCountByComparing_2 (rfl : _ = 3) rfl rfl ?_
  refine V_cI Y (rV Y (c_X6_zoneCount l D kA _ _ _ _ _ _ _ _ _ _ _ _ hM) mi_X6_zoneCount vi_X6_153 rfl hM.1 rfl rfl (Nat.le_of_ble_eq_true rfl) ⟨Nat.le_of_ble_eq_true rfl, Nat.le_of_ble_eq_true rfl⟩ (Nat.le_of_ble_eq_true rfl) (Nat.le_of_ble_eq_true rfl) dX6_zoneCountByComparing_3) (fun q hq => Or.inl (blk_sub (by omega) (by omega) q hq)) (rfl : _ = 6) (fun v_3 H3_3 hq_3 o_3 => ?_)
  obtain ⟨e3, hM⟩ := hq_3
  exact V_ret Y.1 dX6_zoneCountByComparing_6 rfl (Nat.le_of_ble_eq_true rfl) (Nat.le_of_ble_eq_true rfl) ⟨e3, hM⟩

set_option maxRecDepth 100000 in
set_option maxHeartbeats 4000000 in
theorem c_X6_isReduced (l : Launch) (D : va_G) (kA : Nat → ClassId) (H0 : Heap) (o : Nat) (F s b v p u t c : Nat → Int32) (n t0 : Nat) (x : Int32) (hM : Rs D kA H0 o F s b v p u t c) (hI : RI s n t0) : Ct l D kA yX6_isReduced cX6_isReduced 2 (some .boolean) 2 43 0 0 H0 [.ref o, .int x] (blk o 8) (pI fun v9 H => v9 = (g_card s x fun i => if ro s i 0 = 1 then 1 else 0).2 ∧ Rs D kA H o (upd F 6 (nI (g_card s x fun i => if ro s i 0 = 1 then 1 else 0).1)) s b v p u t c) := by
  refine Ct.of mi_X6_isReduced (Nat.le_of_ble_eq_true rfl) (ls0 := [(0, _), (1, _)]) rfl ?_
  intro Pp Ee Ss Mm Ar Bl Me Cc Y hs hnm
  refine V_aload_n Y.1 0 dX6_isReduced_0 (rfl : _ = 1) rfl rfl ?_
  refine V_aload_n Y.1 0 dX6_isReduced_1 (rfl : _ = 2) rfl rfl ?_
  refine V_iload_n Y.1 1 dX6_isReduced_2 (rfl : _ = 3) rfl rfl ?_
  refine V_cP Y (rV Y (c_X6_isCard l D kA _ _ _ _ _ _ _ _ _ _ _ hM) mi_X6_isCard vi_X6_113 rfl hM.1 rfl rfl (Nat.le_of_ble_eq_true rfl) ⟨Nat.le_of_ble_eq_true rfl, Nat.le_of_ble_eq_true rfl⟩ (Nat.le_of_ble_eq_true rfl) (Nat.le_of_ble_eq_true rfl) dX6_isReduced_3) (rfl : _ = 6) ?_
  refine V_cI Y (rV Y (c_X6_isThere l D kA _ _ _ _ _ _ _ _ _ _ _ hM (r_in_01 _ _ _)) mi_X6_isThere vi_X6_149 rfl hM.1 rfl rfl (Nat.le_of_ble_eq_true rfl) ⟨Nat.le_of_ble_eq_true rfl, Nat.le_of_ble_eq_true rfl⟩ (Nat.le_of_ble_eq_true rfl) (Nat.le_of_ble_eq_true rfl) dX6_isReduced_6) (fun q hq => Or.inl (blk_sub (by omega) (by omega) q hq)) (rfl : _ = 9) (fun v_6 H6_4 hq_6 o_6 => ?_)
  obtain ⟨rfl, hM⟩ := hq_6
  refine V_if_eq Y.1 (tgt := 26) dX6_isReduced_9 (by decide) (rfl : _ = 12) (fun c_9 => ?_) (fun c_9 => ?_)
  · rw [c_9] at hM
    have hM := Rs.z (z := 1) hM
    refine V_iconst Y.1 (v := 0) dX6_isReduced_26 (rfl : _ = 27) (by decide) ?_
    exact V_ret Y.1 dX6_isReduced_27 rfl (Nat.le_of_ble_eq_true rfl) (Nat.le_of_ble_eq_true rfl) (g_e rfl hM (by unfold g_card; simp only [*, if_true, if_false, not_true, not_false_iff, reduceIte, ge_iff_le, gt_iff_lt] <;> rfl))
  · have c1 := (r_in_01 _ _ _).resolve_left c_9
    rw [c1] at hM
    have hM := Rs.z (z := 0) hM
    obtain ⟨i, hi0, rfl⟩ := r_in_ca hI.1 hI.2.1 c_9
    have hi : i < 8 := by have := hI.2.1; omega
    have ei : (nI i).toNatClampNeg = i := nI_clamp (by omega)
    refine V_aload_n Y.1 0 dX6_isReduced_12 (rfl : _ = 13) rfl rfl ?_
    refine V_iload_n Y.1 1 dX6_isReduced_13 (rfl : _ = 14) rfl rfl ?_
    refine V_iconst Y.1 (v := 0) dX6_isReduced_14 (rfl : _ = 15) (by decide) ?_
    refine V_cP Y (rV Y (c_X6_of l D kA _ _ _ _ _ _ _ _ _ _ i hi 0 (by decide) hM) mi_X6_of vi_X6_67 rfl hM.1 rfl rfl (Nat.le_of_ble_eq_true rfl) ⟨Nat.le_of_ble_eq_true rfl, Nat.le_of_ble_eq_true rfl⟩ (Nat.le_of_ble_eq_true rfl) (Nat.le_of_ble_eq_true rfl) dX6_isReduced_15) (rfl : _ = 18) ?_
    refine V_iconst Y.1 (v := 1) dX6_isReduced_18 (rfl : _ = 19) (by decide) ?_
    refine V_icmp_ne Y.1 (tgt := 26) dX6_isReduced_19 (by decide) (rfl : _ = 22) (fun c_19 => ?_) (fun c_19 => ?_)
    · refine V_iconst Y.1 (v := 0) dX6_isReduced_26 (rfl : _ = 27) (by decide) ?_
      exact V_ret Y.1 dX6_isReduced_27 rfl (Nat.le_of_ble_eq_true rfl) (Nat.le_of_ble_eq_true rfl) (g_e rfl hM (by unfold g_card; simp only [*, if_true, if_false, not_true, not_false_iff, reduceIte, ge_iff_le, gt_iff_lt] <;> rfl))
    · refine V_iconst Y.1 (v := 1) dX6_isReduced_22 (rfl : _ = 23) (by decide) ?_
      refine V_goto Y.1 (tgt := 27) dX6_isReduced_23 (by decide) ?_
      exact V_ret Y.1 dX6_isReduced_27 rfl (Nat.le_of_ble_eq_true rfl) (Nat.le_of_ble_eq_true rfl) (g_e rfl hM (by unfold g_card; simp only [*, if_true, if_false, not_true, not_false_iff, reduceIte, ge_iff_le, gt_iff_lt] <;> rfl))

set_option maxRecDepth 100000 in
set_option maxHeartbeats 4000000 in
theorem c_X6_balance (l : Launch) (D : va_G) (kA : Nat → ClassId) (H0 : Heap) (o : Nat) (F s b v p u t c : Nat → Int32) (n t0 : Nat) (x : Int32) (hM : Rs D kA H0 o F s b v p u t c) (hI : RI s n t0) : Ct l D kA yX6_balance cX6_balance 2 (some .int) 2 43 0 0 H0 [.ref o, .int x] (blk o 8) (pI fun v9 H => v9 = (g_card s x fun i => ro s i 1).2 ∧ Rs D kA H o (upd F 6 (nI (g_card s x fun i => ro s i 1).1)) s b v p u t c) := by
  refine Ct.of mi_X6_balance (Nat.le_of_ble_eq_true rfl) (ls0 := [(0, _), (1, _)]) rfl ?_
  intro Pp Ee Ss Mm Ar Bl Me Cc Y hs hnm
  refine V_aload_n Y.1 0 dX6_balance_0 (rfl : _ = 1) rfl rfl ?_
  refine V_aload_n Y.1 0 dX6_balance_1 (rfl : _ = 2) rfl rfl ?_
  refine V_iload_n Y.1 1 dX6_balance_2 (rfl : _ = 3) rfl rfl ?_
  refine V_cP Y (rV Y (c_X6_isCard l D kA _ _ _ _ _ _ _ _ _ _ _ hM) mi_X6_isCard vi_X6_113 rfl hM.1 rfl rfl (Nat.le_of_ble_eq_true rfl) ⟨Nat.le_of_ble_eq_true rfl, Nat.le_of_ble_eq_true rfl⟩ (Nat.le_of_ble_eq_true rfl) (Nat.le_of_ble_eq_true rfl) dX6_balance_3) (rfl : _ = 6) ?_
  refine V_cI Y (rV Y (c_X6_isThere l D kA _ _ _ _ _ _ _ _ _ _ _ hM (r_in_01 _ _ _)) mi_X6_isThere vi_X6_149 rfl hM.1 rfl rfl (Nat.le_of_ble_eq_true rfl) ⟨Nat.le_of_ble_eq_true rfl, Nat.le_of_ble_eq_true rfl⟩ (Nat.le_of_ble_eq_true rfl) (Nat.le_of_ble_eq_true rfl) dX6_balance_6) (fun q hq => Or.inl (blk_sub (by omega) (by omega) q hq)) (rfl : _ = 9) (fun v_6 H6_4 hq_6 o_6 => ?_)
  obtain ⟨rfl, hM⟩ := hq_6
  refine V_if_eq Y.1 (tgt := 21) dX6_balance_9 (by decide) (rfl : _ = 12) (fun c_9 => ?_) (fun c_9 => ?_)
  · rw [c_9] at hM
    have hM := Rs.z (z := 1) hM
    refine V_iconst Y.1 (v := 0) dX6_balance_21 (rfl : _ = 22) (by decide) ?_
    exact V_ret Y.1 dX6_balance_22 rfl (Nat.le_of_ble_eq_true rfl) (Nat.le_of_ble_eq_true rfl) (g_e rfl hM (by unfold g_card; simp only [*, if_true, if_false, not_true, not_false_iff, reduceIte, ge_iff_le, gt_iff_lt] <;> rfl))
  · have c1 := (r_in_01 _ _ _).resolve_left c_9
    rw [c1] at hM
    have hM := Rs.z (z := 0) hM
    obtain ⟨i, hi0, rfl⟩ := r_in_ca hI.1 hI.2.1 c_9
    have hi : i < 8 := by have := hI.2.1; omega
    have ei : (nI i).toNatClampNeg = i := nI_clamp (by omega)
    refine V_aload_n Y.1 0 dX6_balance_12 (rfl : _ = 13) rfl rfl ?_
    refine V_iload_n Y.1 1 dX6_balance_13 (rfl : _ = 14) rfl rfl ?_
    refine V_iconst Y.1 (v := 1) dX6_balance_14 (rfl : _ = 15) (by decide) ?_
    refine V_cP Y (rV Y (c_X6_of l D kA _ _ _ _ _ _ _ _ _ _ i hi 1 (by decide) hM) mi_X6_of vi_X6_67 rfl hM.1 rfl rfl (Nat.le_of_ble_eq_true rfl) ⟨Nat.le_of_ble_eq_true rfl, Nat.le_of_ble_eq_true rfl⟩ (Nat.le_of_ble_eq_true rfl) (Nat.le_of_ble_eq_true rfl) dX6_balance_15) (rfl : _ = 18) ?_
    refine V_goto Y.1 (tgt := 22) dX6_balance_18 (by decide) ?_
    exact V_ret Y.1 dX6_balance_22 rfl (Nat.le_of_ble_eq_true rfl) (Nat.le_of_ble_eq_true rfl) (g_e rfl hM (by unfold g_card; simp only [*, if_true, if_false, not_true, not_false_iff, reduceIte, ge_iff_le, gt_iff_lt] <;> rfl))

set_option maxRecDepth 100000 in
set_option maxHeartbeats 4000000 in
theorem c_X6_isOnTrip (l : Launch) (D : va_G) (kA : Nat → ClassId) (H0 : Heap) (o : Nat) (F s b v p u t c : Nat → Int32) (n t0 : Nat) (x : Int32) (hM : Rs D kA H0 o F s b v p u t c) (hI : RI s n t0) : Ct l D kA yX6_isOnTrip cX6_isOnTrip 2 (some .boolean) 2 43 0 0 H0 [.ref o, .int x] (blk o 8) (pI fun v9 H => v9 = (g_card s x fun i => if ro s i 2 < 0 then 0 else 1).2 ∧ Rs D kA H o (upd F 6 (nI (g_card s x fun i => if ro s i 2 < 0 then 0 else 1).1)) s b v p u t c) := by
  refine Ct.of mi_X6_isOnTrip (Nat.le_of_ble_eq_true rfl) (ls0 := [(0, _), (1, _)]) rfl ?_
  intro Pp Ee Ss Mm Ar Bl Me Cc Y hs hnm
  refine V_aload_n Y.1 0 dX6_isOnTrip_0 (rfl : _ = 1) rfl rfl ?_
  refine V_aload_n Y.1 0 dX6_isOnTrip_1 (rfl : _ = 2) rfl rfl ?_
  refine V_iload_n Y.1 1 dX6_isOnTrip_2 (rfl : _ = 3) rfl rfl ?_
  refine V_cP Y (rV Y (c_X6_isCard l D kA _ _ _ _ _ _ _ _ _ _ _ hM) mi_X6_isCard vi_X6_113 rfl hM.1 rfl rfl (Nat.le_of_ble_eq_true rfl) ⟨Nat.le_of_ble_eq_true rfl, Nat.le_of_ble_eq_true rfl⟩ (Nat.le_of_ble_eq_true rfl) (Nat.le_of_ble_eq_true rfl) dX6_isOnTrip_3) (rfl : _ = 6) ?_
  refine V_cI Y (rV Y (c_X6_isThere l D kA _ _ _ _ _ _ _ _ _ _ _ hM (r_in_01 _ _ _)) mi_X6_isThere vi_X6_149 rfl hM.1 rfl rfl (Nat.le_of_ble_eq_true rfl) ⟨Nat.le_of_ble_eq_true rfl, Nat.le_of_ble_eq_true rfl⟩ (Nat.le_of_ble_eq_true rfl) (Nat.le_of_ble_eq_true rfl) dX6_isOnTrip_6) (fun q hq => Or.inl (blk_sub (by omega) (by omega) q hq)) (rfl : _ = 9) (fun v_6 H6_4 hq_6 o_6 => ?_)
  obtain ⟨rfl, hM⟩ := hq_6
  refine V_if_eq Y.1 (tgt := 25) dX6_isOnTrip_9 (by decide) (rfl : _ = 12) (fun c_9 => ?_) (fun c_9 => ?_)
  · rw [c_9] at hM
    have hM := Rs.z (z := 1) hM
    refine V_iconst Y.1 (v := 0) dX6_isOnTrip_25 (rfl : _ = 26) (by decide) ?_
    exact V_ret Y.1 dX6_isOnTrip_26 rfl (Nat.le_of_ble_eq_true rfl) (Nat.le_of_ble_eq_true rfl) (g_e rfl hM (by unfold g_card; simp only [*, if_true, if_false, not_true, not_false_iff, reduceIte, ge_iff_le, gt_iff_lt] <;> rfl))
  · have c1 := (r_in_01 _ _ _).resolve_left c_9
    rw [c1] at hM
    have hM := Rs.z (z := 0) hM
    obtain ⟨i, hi0, rfl⟩ := r_in_ca hI.1 hI.2.1 c_9
    have hi : i < 8 := by have := hI.2.1; omega
    have ei : (nI i).toNatClampNeg = i := nI_clamp (by omega)
    refine V_aload_n Y.1 0 dX6_isOnTrip_12 (rfl : _ = 13) rfl rfl ?_
    refine V_iload_n Y.1 1 dX6_isOnTrip_13 (rfl : _ = 14) rfl rfl ?_
    refine V_iconst Y.1 (v := 2) dX6_isOnTrip_14 (rfl : _ = 15) (by decide) ?_
    refine V_cP Y (rV Y (c_X6_of l D kA _ _ _ _ _ _ _ _ _ _ i hi 2 (by decide) hM) mi_X6_of vi_X6_67 rfl hM.1 rfl rfl (Nat.le_of_ble_eq_true rfl) ⟨Nat.le_of_ble_eq_true rfl, Nat.le_of_ble_eq_true rfl⟩ (Nat.le_of_ble_eq_true rfl) (Nat.le_of_ble_eq_true rfl) dX6_isOnTrip_15) (rfl : _ = 18) ?_
    refine V_if_lt Y.1 (tgt := 25) dX6_isOnTrip_18 (by decide) (rfl : _ = 21) (fun c_18 => ?_) (fun c_18 => ?_)
    · refine V_iconst Y.1 (v := 0) dX6_isOnTrip_25 (rfl : _ = 26) (by decide) ?_
      exact V_ret Y.1 dX6_isOnTrip_26 rfl (Nat.le_of_ble_eq_true rfl) (Nat.le_of_ble_eq_true rfl) (g_e rfl hM (by unfold g_card; simp only [*, if_true, if_false, not_true, not_false_iff, reduceIte, ge_iff_le, gt_iff_lt] <;> rfl))
    · refine V_iconst Y.1 (v := 1) dX6_isOnTrip_21 (rfl : _ = 22) (by decide) ?_
      refine V_goto Y.1 (tgt := 26) dX6_isOnTrip_22 (by decide) ?_
      exact V_ret Y.1 dX6_isOnTrip_26 rfl (Nat.le_of_ble_eq_true rfl) (Nat.le_of_ble_eq_true rfl) (g_e rfl hM (by unfold g_card; simp only [*, if_true, if_false, not_true, not_false_iff, reduceIte, ge_iff_le, gt_iff_lt] <;> rfl))

set_option maxRecDepth 100000 in
set_option maxHeartbeats 4000000 in
theorem c_X6_leftUnderCap (l : Launch) (D : va_G) (kA : Nat → ClassId) (H0 : Heap) (o : Nat) (F s b v p u t c : Nat → Int32) (n t0 : Nat) (x : Int32) (hM : Rs D kA H0 o F s b v p u t c) (hI : RI s n t0) : Ct l D kA yX6_leftUnderCap cX6_leftUnderCap 2 (some .int) 3 66 0 0 H0 [.ref o, .int x] (blk o 8) (pI fun v9 H => v9 = (g_card s x fun i => r_left s i (t0 / 1440)).2 ∧ Rs D kA H o (upd F 6 (nI (g_card s x fun i => r_left s i (t0 / 1440)).1)) s b v p u t c) := by
  refine Ct.of mi_X6_leftUnderCap (Nat.le_of_ble_eq_true rfl) (ls0 := [(0, _), (1, _)]) rfl ?_
  intro Pp Ee Ss Mm Ar Bl Me Cc Y hs hnm
  refine V_aload_n Y.1 0 dX6_leftUnderCap_0 (rfl : _ = 1) rfl rfl ?_
  refine V_aload_n Y.1 0 dX6_leftUnderCap_1 (rfl : _ = 2) rfl rfl ?_
  refine V_iload_n Y.1 1 dX6_leftUnderCap_2 (rfl : _ = 3) rfl rfl ?_
  refine V_cP Y (rV Y (c_X6_isCard l D kA _ _ _ _ _ _ _ _ _ _ _ hM) mi_X6_isCard vi_X6_113 rfl hM.1 rfl rfl (Nat.le_of_ble_eq_true rfl) ⟨Nat.le_of_ble_eq_true rfl, Nat.le_of_ble_eq_true rfl⟩ (Nat.le_of_ble_eq_true rfl) (Nat.le_of_ble_eq_true rfl) dX6_leftUnderCap_3) (rfl : _ = 6) ?_
  refine V_cI Y (rV Y (c_X6_isThere l D kA _ _ _ _ _ _ _ _ _ _ _ hM (r_in_01 _ _ _)) mi_X6_isThere vi_X6_149 rfl hM.1 rfl rfl (Nat.le_of_ble_eq_true rfl) ⟨Nat.le_of_ble_eq_true rfl, Nat.le_of_ble_eq_true rfl⟩ (Nat.le_of_ble_eq_true rfl) (Nat.le_of_ble_eq_true rfl) dX6_leftUnderCap_6) (fun q hq => Or.inl (blk_sub (by omega) (by omega) q hq)) (rfl : _ = 9) (fun v_6 H6_4 hq_6 o_6 => ?_)
  obtain ⟨rfl, hM⟩ := hq_6
  refine V_if_eq Y.1 (tgt := 20) dX6_leftUnderCap_9 (by decide) (rfl : _ = 12) (fun c_9 => ?_) (fun c_9 => ?_)
  · rw [c_9] at hM
    have hM := Rs.z (z := 1) hM
    refine V_iconst Y.1 (v := 0) dX6_leftUnderCap_20 (rfl : _ = 21) (by decide) ?_
    exact V_ret Y.1 dX6_leftUnderCap_21 rfl (Nat.le_of_ble_eq_true rfl) (Nat.le_of_ble_eq_true rfl) (g_e rfl hM (by unfold g_card; simp only [*, if_true, if_false, not_true, not_false_iff, reduceIte, ge_iff_le, gt_iff_lt] <;> rfl))
  · have c1 := (r_in_01 _ _ _).resolve_left c_9
    rw [c1] at hM
    have hM := Rs.z (z := 0) hM
    obtain ⟨i, hi0, rfl⟩ := r_in_ca hI.1 hI.2.1 c_9
    have hi : i < 8 := by have := hI.2.1; omega
    have ei : (nI i).toNatClampNeg = i := nI_clamp (by omega)
    refine V_aload_n Y.1 0 dX6_leftUnderCap_12 (rfl : _ = 13) rfl rfl ?_
    refine V_iload_n Y.1 1 dX6_leftUnderCap_13 (rfl : _ = 14) rfl rfl ?_
    refine V_cP Y (rV Y (c_X6_left l D kA _ _ _ _ _ _ _ _ _ _ i hi (t0 / 1440) hI.d hM hI.day) mi_X6_left vi_X6_85 rfl hM.1 rfl rfl (Nat.le_of_ble_eq_true rfl) ⟨Nat.le_of_ble_eq_true rfl, Nat.le_of_ble_eq_true rfl⟩ (Nat.le_of_ble_eq_true rfl) (Nat.le_of_ble_eq_true rfl) dX6_leftUnderCap_14) (rfl : _ = 17) ?_
    refine V_goto Y.1 (tgt := 21) dX6_leftUnderCap_17 (by decide) ?_
    exact V_ret Y.1 dX6_leftUnderCap_21 rfl (Nat.le_of_ble_eq_true rfl) (Nat.le_of_ble_eq_true rfl) (g_e rfl hM (by unfold g_card; simp only [*, if_true, if_false, not_true, not_false_iff, reduceIte, ge_iff_le, gt_iff_lt] <;> rfl))

set_option maxRecDepth 100000 in
set_option maxHeartbeats 4000000 in
theorem c_X6_isRepairable (l : Launch) (D : va_G) (kA : Nat → ClassId) (H0 : Heap) (o : Nat) (F s b v p u t c : Nat → Int32) (n t0 : Nat) (x : Int32) (hM : Rs D kA H0 o F s b v p u t c) (hI : RI s n t0) : Ct l D kA yX6_isRepairable cX6_isRepairable 2 (some .boolean) 2 43 0 0 H0 [.ref o, .int x] (blk o 8) (pI fun v9 H => v9 = (g_card s x (r_rep s (t0 / 1440))).2 ∧ Rs D kA H o (upd F 6 (nI (g_card s x (r_rep s (t0 / 1440))).1)) s b v p u t c) := by
  refine Ct.of mi_X6_isRepairable (Nat.le_of_ble_eq_true rfl) (ls0 := [(0, _), (1, _)]) rfl ?_
  intro Pp Ee Ss Mm Ar Bl Me Cc Y hs hnm
  refine V_aload_n Y.1 0 dX6_isRepairable_0 (rfl : _ = 1) rfl rfl ?_
  refine V_aload_n Y.1 0 dX6_isRepairable_1 (rfl : _ = 2) rfl rfl ?_
  refine V_iload_n Y.1 1 dX6_isRepairable_2 (rfl : _ = 3) rfl rfl ?_
  refine V_cP Y (rV Y (c_X6_isCard l D kA _ _ _ _ _ _ _ _ _ _ _ hM) mi_X6_isCard vi_X6_113 rfl hM.1 rfl rfl (Nat.le_of_ble_eq_true rfl) ⟨Nat.le_of_ble_eq_true rfl, Nat.le_of_ble_eq_true rfl⟩ (Nat.le_of_ble_eq_true rfl) (Nat.le_of_ble_eq_true rfl) dX6_isRepairable_3) (rfl : _ = 6) ?_
  refine V_cI Y (rV Y (c_X6_isThere l D kA _ _ _ _ _ _ _ _ _ _ _ hM (r_in_01 _ _ _)) mi_X6_isThere vi_X6_149 rfl hM.1 rfl rfl (Nat.le_of_ble_eq_true rfl) ⟨Nat.le_of_ble_eq_true rfl, Nat.le_of_ble_eq_true rfl⟩ (Nat.le_of_ble_eq_true rfl) (Nat.le_of_ble_eq_true rfl) dX6_isRepairable_6) (fun q hq => Or.inl (blk_sub (by omega) (by omega) q hq)) (rfl : _ = 9) (fun v_6 H6_4 hq_6 o_6 => ?_)
  obtain ⟨rfl, hM⟩ := hq_6
  refine V_if_eq Y.1 (tgt := 42) dX6_isRepairable_9 (by decide) (rfl : _ = 12) (fun c_9 => ?_) (fun c_9 => ?_)
  · rw [c_9] at hM
    have hM := Rs.z (z := 1) hM
    refine V_iconst Y.1 (v := 0) dX6_isRepairable_42 (rfl : _ = 43) (by decide) ?_
    exact V_ret Y.1 dX6_isRepairable_43 rfl (Nat.le_of_ble_eq_true rfl) (Nat.le_of_ble_eq_true rfl) (g_e rfl hM (by unfold g_card; simp only [*, if_true, if_false, not_true, not_false_iff, reduceIte, ge_iff_le, gt_iff_lt, r_rep] <;> rfl))
  · have c1 := (r_in_01 _ _ _).resolve_left c_9
    rw [c1] at hM
    have hM := Rs.z (z := 0) hM
    obtain ⟨i, hi0, rfl⟩ := r_in_ca hI.1 hI.2.1 c_9
    have hi : i < 8 := by have := hI.2.1; omega
    have ei : (nI i).toNatClampNeg = i := nI_clamp (by omega)
    refine V_aload_n Y.1 0 dX6_isRepairable_12 (rfl : _ = 13) rfl rfl ?_
    refine V_iload_n Y.1 1 dX6_isRepairable_13 (rfl : _ = 14) rfl rfl ?_
    refine V_bipush Y.1 (v := 8) dX6_isRepairable_14 (rfl : _ = 16) (by decide) ?_
    refine V_cP Y (rV Y (c_X6_of l D kA _ _ _ _ _ _ _ _ _ _ i hi 8 (by decide) hM) mi_X6_of vi_X6_67 rfl hM.1 rfl rfl (Nat.le_of_ble_eq_true rfl) ⟨Nat.le_of_ble_eq_true rfl, Nat.le_of_ble_eq_true rfl⟩ (Nat.le_of_ble_eq_true rfl) (Nat.le_of_ble_eq_true rfl) dX6_isRepairable_16) (rfl : _ = 19) ?_
    refine V_if_lt Y.1 (tgt := 42) dX6_isRepairable_19 (by decide) (rfl : _ = 22) (fun c_19 => ?_) (fun c_19 => ?_)
    · refine V_iconst Y.1 (v := 0) dX6_isRepairable_42 (rfl : _ = 43) (by decide) ?_
      exact V_ret Y.1 dX6_isRepairable_43 rfl (Nat.le_of_ble_eq_true rfl) (Nat.le_of_ble_eq_true rfl) (g_e rfl hM (by unfold g_card; simp only [*, if_true, if_false, not_true, not_false_iff, reduceIte, ge_iff_le, gt_iff_lt, r_rep] <;> rfl))
    · refine V_aload_n Y.1 0 dX6_isRepairable_22 (rfl : _ = 23) rfl rfl ?_
      refine V_cP Y (rV Y (c_X6_today l D kA _ _ _ _ _ _ _ _ _ _  hM) mi_X6_today vi_X6_81 rfl hM.1 rfl rfl (Nat.le_of_ble_eq_true rfl) ⟨Nat.le_of_ble_eq_true rfl, Nat.le_of_ble_eq_true rfl⟩ (Nat.le_of_ble_eq_true rfl) (Nat.le_of_ble_eq_true rfl) dX6_isRepairable_23) (rfl : _ = 26) ?_
      refine V_nm (v := nI (t0 / 1440)) hI.day ?_
      refine V_aload_n Y.1 0 dX6_isRepairable_26 (rfl : _ = 27) rfl rfl ?_
      refine V_iload_n Y.1 1 dX6_isRepairable_27 (rfl : _ = 28) rfl rfl ?_
      refine V_bipush Y.1 (v := 9) dX6_isRepairable_28 (rfl : _ = 30) (by decide) ?_
      refine V_cP Y (rV Y (c_X6_of l D kA _ _ _ _ _ _ _ _ _ _ i hi 9 (by decide) hM) mi_X6_of vi_X6_67 rfl hM.1 rfl rfl (Nat.le_of_ble_eq_true rfl) ⟨Nat.le_of_ble_eq_true rfl, Nat.le_of_ble_eq_true rfl⟩ (Nat.le_of_ble_eq_true rfl) (Nat.le_of_ble_eq_true rfl) dX6_isRepairable_30) (rfl : _ = 33) ?_
      refine V_isub Y.1 dX6_isRepairable_33 (rfl : _ = 34) ?_
      refine V_iconst Y.1 (v := 2) dX6_isRepairable_34 (rfl : _ = 35) (by decide) ?_
      refine V_icmp_gt Y.1 (tgt := 42) dX6_isRepairable_35 (by decide) (rfl : _ = 38) (fun c_35 => ?_) (fun c_35 => ?_)
      · refine V_iconst Y.1 (v := 0) dX6_isRepairable_42 (rfl : _ = 43) (by decide) ?_
        exact V_ret Y.1 dX6_isRepairable_43 rfl (Nat.le_of_ble_eq_true rfl) (Nat.le_of_ble_eq_true rfl) (g_e rfl hM (by unfold g_card; simp only [*, if_true, if_false, not_true, not_false_iff, reduceIte, ge_iff_le, gt_iff_lt, r_rep] <;> rfl))
      · refine V_iconst Y.1 (v := 1) dX6_isRepairable_38 (rfl : _ = 39) (by decide) ?_
        refine V_goto Y.1 (tgt := 43) dX6_isRepairable_39 (by decide) ?_
        exact V_ret Y.1 dX6_isRepairable_43 rfl (Nat.le_of_ble_eq_true rfl) (Nat.le_of_ble_eq_true rfl) (g_e rfl hM (by unfold g_card; simp only [*, if_true, if_false, not_true, not_false_iff, reduceIte, ge_iff_le, gt_iff_lt, r_rep] <;> rfl))

set_option maxRecDepth 100000 in
set_option maxHeartbeats 4000000 in
theorem c_X6_isGoing (l : Launch) (D : va_G) (kA : Nat → ClassId) (H0 : Heap) (o : Nat) (F s b v p u t c : Nat → Int32) (n t0 : Nat) (x : Int32) (hM : Rs D kA H0 o F s b v p u t c) (hI : RI s n t0) : Ct l D kA yX6_isGoing cX6_isGoing 2 (some .boolean) 2 43 0 0 H0 [.ref o, .int x] (blk o 8) (pI fun v9 H => v9 = (if g_go s x = 0 then 1 else 0) ∧ Rs D kA H o (upd F 6 (nI (g_go s x))) s b v p u t c) := by
  refine Ct.of mi_X6_isGoing (Nat.le_of_ble_eq_true rfl) (ls0 := [(0, _), (1, _)]) rfl ?_
  intro Pp Ee Ss Mm Ar Bl Me Cc Y hs hnm
  refine V_aload_n Y.1 0 dX6_isGoing_0 (rfl : _ = 1) rfl rfl ?_
  refine V_aload_n Y.1 0 dX6_isGoing_1 (rfl : _ = 2) rfl rfl ?_
  refine V_iload_n Y.1 1 dX6_isGoing_2 (rfl : _ = 3) rfl rfl ?_
  refine V_cP Y (rV Y (c_X6_isCard l D kA _ _ _ _ _ _ _ _ _ _ _ hM) mi_X6_isCard vi_X6_113 rfl hM.1 rfl rfl (Nat.le_of_ble_eq_true rfl) ⟨Nat.le_of_ble_eq_true rfl, Nat.le_of_ble_eq_true rfl⟩ (Nat.le_of_ble_eq_true rfl) (Nat.le_of_ble_eq_true rfl) dX6_isGoing_3) (rfl : _ = 6) ?_
  refine V_if_ne Y.1 (tgt := 13) dX6_isGoing_6 (by decide) (rfl : _ = 9) (fun c_6 => ?_) (fun c_6 => ?_)
  · obtain ⟨i, hi0, rfl⟩ := r_in_ca hI.1 hI.2.1 c_6
    have hi : i < 8 := by have := hI.2.1; omega
    have ei : (nI i).toNatClampNeg = i := nI_clamp (by omega)
    refine V_aload_n Y.1 0 dX6_isGoing_13 (rfl : _ = 14) rfl rfl ?_
    refine V_iload_n Y.1 1 dX6_isGoing_14 (rfl : _ = 15) rfl rfl ?_
    refine V_iconst Y.1 (v := 2) dX6_isGoing_15 (rfl : _ = 16) (by decide) ?_
    refine V_cP Y (rV Y (c_X6_of l D kA _ _ _ _ _ _ _ _ _ _ i hi 2 (by decide) hM) mi_X6_of vi_X6_67 rfl hM.1 rfl rfl (Nat.le_of_ble_eq_true rfl) ⟨Nat.le_of_ble_eq_true rfl, Nat.le_of_ble_eq_true rfl⟩ (Nat.le_of_ble_eq_true rfl) (Nat.le_of_ble_eq_true rfl) dX6_isGoing_16) (rfl : _ = 19) ?_
    refine V_if_ge Y.1 (tgt := 26) dX6_isGoing_19 (by decide) (rfl : _ = 22) (fun c_19 => ?_) (fun c_19 => ?_)
    · refine V_iconst Y.1 (v := 0) dX6_isGoing_26 (rfl : _ = 27) (by decide) ?_
      refine V_put Y.1 fi_X6_39 fw_X6 rfl rfl hM.1 (Or.inl ⟨by omega, by omega⟩) rfl rfl (Nat.le_of_ble_eq_true rfl) dX6_isGoing_27 (rfl : _ = 30) (fun H27_14 h_new o_27 => ?_)
      have hM := hM.f6 o_27 h_new
      clear h_new
      have hM := Rs.z (z := 0) hM
      refine V_aload_n Y.1 0 dX6_isGoing_30 (rfl : _ = 31) rfl rfl ?_
      refine V_get Y.1 fi_X6_39 hM.1 rfl dX6_isGoing_31 (rfl : _ = 34) ?_
      refine V_nm (v := 0) rfl ?_
      refine V_if_ne Y.1 (tgt := 41) dX6_isGoing_34 (by decide) (rfl : _ = 37) (fun c_n => absurd rfl c_n) (fun _ => ?_)
      refine V_iconst Y.1 (v := 1) dX6_isGoing_37 (rfl : _ = 38) (by decide) ?_
      refine V_goto Y.1 (tgt := 42) dX6_isGoing_38 (by decide) ?_
      exact V_ret Y.1 dX6_isGoing_42 rfl (Nat.le_of_ble_eq_true rfl) (Nat.le_of_ble_eq_true rfl) (g_g rfl hM (by unfold g_go; simp only [*, if_true, if_false, not_true, not_false_iff, reduceIte, ge_iff_le, gt_iff_lt] <;> rfl))
    · refine V_iconst Y.1 (v := 2) dX6_isGoing_22 (rfl : _ = 23) (by decide) ?_
      refine V_goto Y.1 (tgt := 27) dX6_isGoing_23 (by decide) ?_
      refine V_put Y.1 fi_X6_39 fw_X6 rfl rfl hM.1 (Or.inl ⟨by omega, by omega⟩) rfl rfl (Nat.le_of_ble_eq_true rfl) dX6_isGoing_27 (rfl : _ = 30) (fun H27_27 h_new o_27 => ?_)
      have hM := hM.f6 o_27 h_new
      clear h_new
      have hM := Rs.z (z := 2) hM
      refine V_aload_n Y.1 0 dX6_isGoing_30 (rfl : _ = 31) rfl rfl ?_
      refine V_get Y.1 fi_X6_39 hM.1 rfl dX6_isGoing_31 (rfl : _ = 34) ?_
      refine V_nm (v := 2) rfl ?_
      refine V_if_ne Y.1 (tgt := 41) dX6_isGoing_34 (by decide) (rfl : _ = 37) (fun _ => ?_) (fun c_n => absurd c_n (by decide))
      refine V_iconst Y.1 (v := 0) dX6_isGoing_41 (rfl : _ = 42) (by decide) ?_
      exact V_ret Y.1 dX6_isGoing_42 rfl (Nat.le_of_ble_eq_true rfl) (Nat.le_of_ble_eq_true rfl) (g_g rfl hM (by unfold g_go; simp only [*, if_true, if_false, not_true, not_false_iff, reduceIte, ge_iff_le, gt_iff_lt] <;> rfl))
  · refine V_iconst Y.1 (v := 1) dX6_isGoing_9 (rfl : _ = 10) (by decide) ?_
    refine V_goto Y.1 (tgt := 27) dX6_isGoing_10 (by decide) ?_
    refine V_put Y.1 fi_X6_39 fw_X6 rfl rfl hM.1 (Or.inl ⟨by omega, by omega⟩) rfl rfl (Nat.le_of_ble_eq_true rfl) dX6_isGoing_27 (rfl : _ = 30) (fun H27_39 h_new o_27 => ?_)
    have hM := hM.f6 o_27 h_new
    clear h_new
    have hM := Rs.z (z := 1) hM
    refine V_aload_n Y.1 0 dX6_isGoing_30 (rfl : _ = 31) rfl rfl ?_
    refine V_get Y.1 fi_X6_39 hM.1 rfl dX6_isGoing_31 (rfl : _ = 34) ?_
    refine V_nm (v := 1) rfl ?_
    refine V_if_ne Y.1 (tgt := 41) dX6_isGoing_34 (by decide) (rfl : _ = 37) (fun _ => ?_) (fun c_n => absurd c_n (by decide))
    refine V_iconst Y.1 (v := 0) dX6_isGoing_41 (rfl : _ = 42) (by decide) ?_
    exact V_ret Y.1 dX6_isGoing_42 rfl (Nat.le_of_ble_eq_true rfl) (Nat.le_of_ble_eq_true rfl) (g_g rfl hM (by unfold g_go; simp only [*, if_true, if_false, not_true, not_false_iff, reduceIte, ge_iff_le, gt_iff_lt] <;> rfl))

set_option maxRecDepth 100000 in
set_option maxHeartbeats 4000000 in
theorem c_X6_tripStart (l : Launch) (D : va_G) (kA : Nat → ClassId) (H0 : Heap) (o : Nat) (F s b v p u t c : Nat → Int32) (n t0 : Nat) (x : Int32) (hM : Rs D kA H0 o F s b v p u t c) (hI : RI s n t0) : Ct l D kA yX6_tripStart cX6_tripStart 2 (some .int) 3 64 0 0 H0 [.ref o, .int x] (blk o 8) (pI fun v9 H => v9 = (g_trip s x fun i => ro s i 2).2 ∧ Rs D kA H o (upd F 6 (nI (g_trip s x fun i => ro s i 2).1)) s b v p u t c) := by
  refine Ct.of mi_X6_tripStart (Nat.le_of_ble_eq_true rfl) (ls0 := [(0, _), (1, _)]) rfl ?_
  intro Pp Ee Ss Mm Ar Bl Me Cc Y hs hnm
  refine V_aload_n Y.1 0 dX6_tripStart_0 (rfl : _ = 1) rfl rfl ?_
  refine V_iload_n Y.1 1 dX6_tripStart_1 (rfl : _ = 2) rfl rfl ?_
  refine V_cI Y (rV Y (c_X6_isGoing l D kA _ _ _ _ _ _ _ _ _ _ n t0 _ hM hI) mi_X6_isGoing vi_X6_156 rfl hM.1 rfl rfl (Nat.le_of_ble_eq_true rfl) ⟨Nat.le_of_ble_eq_true rfl, Nat.le_of_ble_eq_true rfl⟩ (Nat.le_of_ble_eq_true rfl) (Nat.le_of_ble_eq_true rfl) dX6_tripStart_2) (fun q hq => Or.inl (blk_sub (by omega) (by omega) q hq)) (rfl : _ = 5) (fun v_2 H2_2 hq_2 o_2 => ?_)
  obtain ⟨rfl, hM⟩ := hq_2
  refine V_if_eq Y.1 (tgt := 17) dX6_tripStart_5 (by decide) (rfl : _ = 8) (fun c_5 => ?_) (fun c_5 => ?_)
  · have g0 := g_go_d c_5
    refine V_iconst Y.1 (v := 0) dX6_tripStart_17 (rfl : _ = 18) (by decide) ?_
    exact V_ret Y.1 dX6_tripStart_18 rfl (Nat.le_of_ble_eq_true rfl) (Nat.le_of_ble_eq_true rfl) (g_e rfl hM (by unfold g_trip; simp only [*, if_true, if_false, not_true, not_false_iff, reduceIte, ge_iff_le, gt_iff_lt] <;> rfl))
  · have g0 := g_go_c c_5
    have c_c := g_go_0 g0
    obtain ⟨i, hi0, rfl⟩ := r_in_ca hI.1 hI.2.1 c_c
    have hi : i < 8 := by have := hI.2.1; omega
    have ei : (nI i).toNatClampNeg = i := nI_clamp (by omega)
    refine V_aload_n Y.1 0 dX6_tripStart_8 (rfl : _ = 9) rfl rfl ?_
    refine V_iload_n Y.1 1 dX6_tripStart_9 (rfl : _ = 10) rfl rfl ?_
    refine V_iconst Y.1 (v := 2) dX6_tripStart_10 (rfl : _ = 11) (by decide) ?_
    refine V_cP Y (rV Y (c_X6_of l D kA _ _ _ _ _ _ _ _ _ _ i hi 2 (by decide) hM) mi_X6_of vi_X6_67 rfl hM.1 rfl rfl (Nat.le_of_ble_eq_true rfl) ⟨Nat.le_of_ble_eq_true rfl, Nat.le_of_ble_eq_true rfl⟩ (Nat.le_of_ble_eq_true rfl) (Nat.le_of_ble_eq_true rfl) dX6_tripStart_11) (rfl : _ = 14) ?_
    refine V_goto Y.1 (tgt := 18) dX6_tripStart_14 (by decide) ?_
    exact V_ret Y.1 dX6_tripStart_18 rfl (Nat.le_of_ble_eq_true rfl) (Nat.le_of_ble_eq_true rfl) (g_e rfl hM (by unfold g_trip; simp only [*, if_true, if_false, not_true, not_false_iff, reduceIte, ge_iff_le, gt_iff_lt] <;> rfl))

set_option maxRecDepth 100000 in
set_option maxHeartbeats 4000000 in
theorem c_X6_journeyStart (l : Launch) (D : va_G) (kA : Nat → ClassId) (H0 : Heap) (o : Nat) (F s b v p u t c : Nat → Int32) (n t0 : Nat) (x : Int32) (hM : Rs D kA H0 o F s b v p u t c) (hI : RI s n t0) : Ct l D kA yX6_journeyStart cX6_journeyStart 2 (some .int) 3 64 0 0 H0 [.ref o, .int x] (blk o 8) (pI fun v9 H => v9 = (g_trip s x fun i => ro s i 4).2 ∧ Rs D kA H o (upd F 6 (nI (g_trip s x fun i => ro s i 4).1)) s b v p u t c) := by
  refine Ct.of mi_X6_journeyStart (Nat.le_of_ble_eq_true rfl) (ls0 := [(0, _), (1, _)]) rfl ?_
  intro Pp Ee Ss Mm Ar Bl Me Cc Y hs hnm
  refine V_aload_n Y.1 0 dX6_journeyStart_0 (rfl : _ = 1) rfl rfl ?_
  refine V_iload_n Y.1 1 dX6_journeyStart_1 (rfl : _ = 2) rfl rfl ?_
  refine V_cI Y (rV Y (c_X6_isGoing l D kA _ _ _ _ _ _ _ _ _ _ n t0 _ hM hI) mi_X6_isGoing vi_X6_156 rfl hM.1 rfl rfl (Nat.le_of_ble_eq_true rfl) ⟨Nat.le_of_ble_eq_true rfl, Nat.le_of_ble_eq_true rfl⟩ (Nat.le_of_ble_eq_true rfl) (Nat.le_of_ble_eq_true rfl) dX6_journeyStart_2) (fun q hq => Or.inl (blk_sub (by omega) (by omega) q hq)) (rfl : _ = 5) (fun v_2 H2_2 hq_2 o_2 => ?_)
  obtain ⟨rfl, hM⟩ := hq_2
  refine V_if_eq Y.1 (tgt := 17) dX6_journeyStart_5 (by decide) (rfl : _ = 8) (fun c_5 => ?_) (fun c_5 => ?_)
  · have g0 := g_go_d c_5
    refine V_iconst Y.1 (v := 0) dX6_journeyStart_17 (rfl : _ = 18) (by decide) ?_
    exact V_ret Y.1 dX6_journeyStart_18 rfl (Nat.le_of_ble_eq_true rfl) (Nat.le_of_ble_eq_true rfl) (g_e rfl hM (by unfold g_trip; simp only [*, if_true, if_false, not_true, not_false_iff, reduceIte, ge_iff_le, gt_iff_lt] <;> rfl))
  · have g0 := g_go_c c_5
    have c_c := g_go_0 g0
    obtain ⟨i, hi0, rfl⟩ := r_in_ca hI.1 hI.2.1 c_c
    have hi : i < 8 := by have := hI.2.1; omega
    have ei : (nI i).toNatClampNeg = i := nI_clamp (by omega)
    refine V_aload_n Y.1 0 dX6_journeyStart_8 (rfl : _ = 9) rfl rfl ?_
    refine V_iload_n Y.1 1 dX6_journeyStart_9 (rfl : _ = 10) rfl rfl ?_
    refine V_iconst Y.1 (v := 4) dX6_journeyStart_10 (rfl : _ = 11) (by decide) ?_
    refine V_cP Y (rV Y (c_X6_of l D kA _ _ _ _ _ _ _ _ _ _ i hi 4 (by decide) hM) mi_X6_of vi_X6_67 rfl hM.1 rfl rfl (Nat.le_of_ble_eq_true rfl) ⟨Nat.le_of_ble_eq_true rfl, Nat.le_of_ble_eq_true rfl⟩ (Nat.le_of_ble_eq_true rfl) (Nat.le_of_ble_eq_true rfl) dX6_journeyStart_11) (rfl : _ = 14) ?_
    refine V_goto Y.1 (tgt := 18) dX6_journeyStart_14 (by decide) ?_
    exact V_ret Y.1 dX6_journeyStart_18 rfl (Nat.le_of_ble_eq_true rfl) (Nat.le_of_ble_eq_true rfl) (g_e rfl hM (by unfold g_trip; simp only [*, if_true, if_false, not_true, not_false_iff, reduceIte, ge_iff_le, gt_iff_lt] <;> rfl))

set_option maxRecDepth 100000 in
set_option maxHeartbeats 4000000 in
theorem c_X6_minutesLeft (l : Launch) (D : va_G) (kA : Nat → ClassId) (H0 : Heap) (o : Nat) (F s b v p u t c : Nat → Int32) (n t0 : Nat) (x : Int32) (hM : Rs D kA H0 o F s b v p u t c) (hI : RI s n t0) : Ct l D kA yX6_minutesLeft cX6_minutesLeft 2 (some .int) 3 64 0 0 H0 [.ref o, .int x] (blk o 8) (pI fun v9 H => v9 = (g_trip s x fun i => ro s i 3 + 180 - s 1).2 ∧ Rs D kA H o (upd F 6 (nI (g_trip s x fun i => ro s i 3 + 180 - s 1).1)) s b v p u t c) := by
  refine Ct.of mi_X6_minutesLeft (Nat.le_of_ble_eq_true rfl) (ls0 := [(0, _), (1, _)]) rfl ?_
  intro Pp Ee Ss Mm Ar Bl Me Cc Y hs hnm
  refine V_aload_n Y.1 0 dX6_minutesLeft_0 (rfl : _ = 1) rfl rfl ?_
  refine V_iload_n Y.1 1 dX6_minutesLeft_1 (rfl : _ = 2) rfl rfl ?_
  refine V_cI Y (rV Y (c_X6_isGoing l D kA _ _ _ _ _ _ _ _ _ _ n t0 _ hM hI) mi_X6_isGoing vi_X6_156 rfl hM.1 rfl rfl (Nat.le_of_ble_eq_true rfl) ⟨Nat.le_of_ble_eq_true rfl, Nat.le_of_ble_eq_true rfl⟩ (Nat.le_of_ble_eq_true rfl) (Nat.le_of_ble_eq_true rfl) dX6_minutesLeft_2) (fun q hq => Or.inl (blk_sub (by omega) (by omega) q hq)) (rfl : _ = 5) (fun v_2 H2_2 hq_2 o_2 => ?_)
  obtain ⟨rfl, hM⟩ := hq_2
  refine V_if_eq Y.1 (tgt := 28) dX6_minutesLeft_5 (by decide) (rfl : _ = 8) (fun c_5 => ?_) (fun c_5 => ?_)
  · have g0 := g_go_d c_5
    refine V_iconst Y.1 (v := 0) dX6_minutesLeft_28 (rfl : _ = 29) (by decide) ?_
    exact V_ret Y.1 dX6_minutesLeft_29 rfl (Nat.le_of_ble_eq_true rfl) (Nat.le_of_ble_eq_true rfl) (g_e rfl hM (by unfold g_trip; simp only [*, if_true, if_false, not_true, not_false_iff, reduceIte, ge_iff_le, gt_iff_lt] <;> rfl))
  · have g0 := g_go_c c_5
    have c_c := g_go_0 g0
    obtain ⟨i, hi0, rfl⟩ := r_in_ca hI.1 hI.2.1 c_c
    have hi : i < 8 := by have := hI.2.1; omega
    have ei : (nI i).toNatClampNeg = i := nI_clamp (by omega)
    refine V_aload_n Y.1 0 dX6_minutesLeft_8 (rfl : _ = 9) rfl rfl ?_
    refine V_iload_n Y.1 1 dX6_minutesLeft_9 (rfl : _ = 10) rfl rfl ?_
    refine V_iconst Y.1 (v := 3) dX6_minutesLeft_10 (rfl : _ = 11) (by decide) ?_
    refine V_cP Y (rV Y (c_X6_of l D kA _ _ _ _ _ _ _ _ _ _ i hi 3 (by decide) hM) mi_X6_of vi_X6_67 rfl hM.1 rfl rfl (Nat.le_of_ble_eq_true rfl) ⟨Nat.le_of_ble_eq_true rfl, Nat.le_of_ble_eq_true rfl⟩ (Nat.le_of_ble_eq_true rfl) (Nat.le_of_ble_eq_true rfl) dX6_minutesLeft_11) (rfl : _ = 14) ?_
    refine V_sipush Y.1 (v := 180) dX6_minutesLeft_14 (rfl : _ = 17) (by decide) ?_
    refine V_iadd Y.1 dX6_minutesLeft_17 (rfl : _ = 18) ?_
    refine V_aload_n Y.1 0 dX6_minutesLeft_18 (rfl : _ = 19) rfl rfl ?_
    refine V_get Y.1 fi_X6_9 hM.1 rfl dX6_minutesLeft_19 (rfl : _ = 22) ?_
    refine V_iconst Y.1 (v := 1) dX6_minutesLeft_22 (rfl : _ = 23) (by decide) ?_
    refine V_iald Y.1 (v := s 1) hM.2.1 (by unfold vp_in; decide) rfl dX6_minutesLeft_23 (rfl : _ = 24) ?_
    refine V_isub Y.1 dX6_minutesLeft_24 (rfl : _ = 25) ?_
    refine V_goto Y.1 (tgt := 29) dX6_minutesLeft_25 (by decide) ?_
    exact V_ret Y.1 dX6_minutesLeft_29 rfl (Nat.le_of_ble_eq_true rfl) (Nat.le_of_ble_eq_true rfl) (g_e rfl hM (by unfold g_trip; simp only [*, if_true, if_false, not_true, not_false_iff, reduceIte, ge_iff_le, gt_iff_lt] <;> rfl))

set_option maxRecDepth 100000 in
set_option maxHeartbeats 4000000 in
theorem c_X6_wouldContinue (l : Launch) (D : va_G) (kA : Nat → ClassId) (H0 : Heap) (o : Nat) (F s b v p u t c : Nat → Int32) (n t0 : Nat) (x y : Int32) (hM : Rs D kA H0 o F s b v p u t c) (hI : RI s n t0) : Ct l D kA yX6_wouldContinue cX6_wouldContinue 3 (some .boolean) 2 44 0 0 H0 [.ref o, .int x, .int y] (blk o 8) (pI fun v9 H => v9 = (g_would s x y).2 ∧ Rs D kA H o (upd F 6 (nI (g_would s x y).1)) s b v p u t c) := by
  refine Ct.of mi_X6_wouldContinue (Nat.le_of_ble_eq_true rfl) (ls0 := [(0, _), (1, _), (2, _)]) rfl ?_
  intro Pp Ee Ss Mm Ar Bl Me Cc Y hs hnm
  refine V_aload_n Y.1 0 dX6_wouldContinue_0 (rfl : _ = 1) rfl rfl ?_
  refine V_aload_n Y.1 0 dX6_wouldContinue_1 (rfl : _ = 2) rfl rfl ?_
  refine V_iload_n Y.1 1 dX6_wouldContinue_2 (rfl : _ = 3) rfl rfl ?_
  refine V_cP Y (rV Y (c_X6_isCard l D kA _ _ _ _ _ _ _ _ _ _ _ hM) mi_X6_isCard vi_X6_113 rfl hM.1 rfl rfl (Nat.le_of_ble_eq_true rfl) ⟨Nat.le_of_ble_eq_true rfl, Nat.le_of_ble_eq_true rfl⟩ (Nat.le_of_ble_eq_true rfl) (Nat.le_of_ble_eq_true rfl) dX6_wouldContinue_3) (rfl : _ = 6) ?_
  refine V_if_eq Y.1 (tgt := 20) dX6_wouldContinue_6 (by decide) (rfl : _ = 9) (fun c_6 => ?_) (fun c_6 => ?_)
  · refine V_iconst Y.1 (v := 0) dX6_wouldContinue_20 (rfl : _ = 21) (by decide) ?_
    refine V_cI Y (rV Y (c_X6_isThere l D kA _ _ _ _ _ _ _ _ _ _ 0 hM (by decide)) mi_X6_isThere vi_X6_149 rfl hM.1 rfl rfl (Nat.le_of_ble_eq_true rfl) ⟨Nat.le_of_ble_eq_true rfl, Nat.le_of_ble_eq_true rfl⟩ (Nat.le_of_ble_eq_true rfl) (Nat.le_of_ble_eq_true rfl) dX6_wouldContinue_21) (fun q hq => Or.inl (blk_sub (by omega) (by omega) q hq)) (rfl : _ = 24) (fun v_21 H21_6 hq_21 o_21 => ?_)
    obtain ⟨rfl, hM⟩ := hq_21
    have hM := Rs.z (z := 1) hM
    refine V_if_eq Y.1 (tgt := 40) dX6_wouldContinue_24 (by decide) (rfl : _ = 27) (fun _ => ?_) (fun c_n => absurd rfl c_n)
    refine V_iconst Y.1 (v := 0) dX6_wouldContinue_40 (rfl : _ = 41) (by decide) ?_
    exact V_ret Y.1 dX6_wouldContinue_41 rfl (Nat.le_of_ble_eq_true rfl) (Nat.le_of_ble_eq_true rfl) (g_e rfl hM (by unfold g_would; simp only [*, if_true, if_false, not_true, not_false_iff, reduceIte, ge_iff_le, gt_iff_lt] <;> rfl))
  · obtain ⟨i, hi0, rfl⟩ := r_in_ca hI.1 hI.2.1 c_6
    have hi : i < 8 := by have := hI.2.1; omega
    have ei : (nI i).toNatClampNeg = i := nI_clamp (by omega)
    refine V_iload_n Y.1 2 dX6_wouldContinue_9 (rfl : _ = 10) rfl rfl ?_
    refine V_cP Y (rS Y (c_X6_isStation l D kA _ _) mi_X6_isStation si_X6_120 rfl rfl (Nat.le_of_ble_eq_true rfl) ⟨Nat.le_of_ble_eq_true rfl, Nat.le_of_ble_eq_true rfl⟩ (Nat.le_of_ble_eq_true rfl) (Nat.le_of_ble_eq_true rfl) dX6_wouldContinue_10) (rfl : _ = 13) ?_
    refine V_if_eq Y.1 (tgt := 20) dX6_wouldContinue_13 (by decide) (rfl : _ = 16) (fun c_13 => ?_) (fun c_13 => ?_)
    · refine V_iconst Y.1 (v := 0) dX6_wouldContinue_20 (rfl : _ = 21) (by decide) ?_
      refine V_cI Y (rV Y (c_X6_isThere l D kA _ _ _ _ _ _ _ _ _ _ 0 hM (by decide)) mi_X6_isThere vi_X6_149 rfl hM.1 rfl rfl (Nat.le_of_ble_eq_true rfl) ⟨Nat.le_of_ble_eq_true rfl, Nat.le_of_ble_eq_true rfl⟩ (Nat.le_of_ble_eq_true rfl) (Nat.le_of_ble_eq_true rfl) dX6_wouldContinue_21) (fun q hq => Or.inl (blk_sub (by omega) (by omega) q hq)) (rfl : _ = 24) (fun v_21 H21_19 hq_21 o_21 => ?_)
      obtain ⟨rfl, hM⟩ := hq_21
      have hM := Rs.z (z := 1) hM
      refine V_if_eq Y.1 (tgt := 40) dX6_wouldContinue_24 (by decide) (rfl : _ = 27) (fun _ => ?_) (fun c_n => absurd rfl c_n)
      refine V_iconst Y.1 (v := 0) dX6_wouldContinue_40 (rfl : _ = 41) (by decide) ?_
      exact V_ret Y.1 dX6_wouldContinue_41 rfl (Nat.le_of_ble_eq_true rfl) (Nat.le_of_ble_eq_true rfl) (g_e rfl hM (by unfold g_would; simp only [*, if_true, if_false, not_true, not_false_iff, reduceIte, ge_iff_le, gt_iff_lt] <;> rfl))
    · obtain ⟨w, hw, rfl⟩ := r_in_st c_13
      have ew : (nI w).toNatClampNeg = w := nI_clamp (by omega)
      refine V_iconst Y.1 (v := 1) dX6_wouldContinue_16 (rfl : _ = 17) (by decide) ?_
      refine V_goto Y.1 (tgt := 21) dX6_wouldContinue_17 (by decide) ?_
      refine V_cI Y (rV Y (c_X6_isThere l D kA _ _ _ _ _ _ _ _ _ _ 1 hM (by decide)) mi_X6_isThere vi_X6_149 rfl hM.1 rfl rfl (Nat.le_of_ble_eq_true rfl) ⟨Nat.le_of_ble_eq_true rfl, Nat.le_of_ble_eq_true rfl⟩ (Nat.le_of_ble_eq_true rfl) (Nat.le_of_ble_eq_true rfl) dX6_wouldContinue_21) (fun q hq => Or.inl (blk_sub (by omega) (by omega) q hq)) (rfl : _ = 24) (fun v_21 H21_29 hq_21 o_21 => ?_)
      obtain ⟨rfl, hM⟩ := hq_21
      have hM := Rs.z (z := 0) hM
      refine V_if_eq Y.1 (tgt := 40) dX6_wouldContinue_24 (by decide) (rfl : _ = 27) (fun c_n => absurd c_n (by decide)) (fun _ => ?_)
      refine V_aload_n Y.1 0 dX6_wouldContinue_27 (rfl : _ = 28) rfl rfl ?_
      refine V_iload_n Y.1 1 dX6_wouldContinue_28 (rfl : _ = 29) rfl rfl ?_
      refine V_iload_n Y.1 2 dX6_wouldContinue_29 (rfl : _ = 30) rfl rfl ?_
      refine V_cP Y (rV Y (c_X6_continues l D kA _ _ _ _ _ _ _ _ _ _ i hi _ hM) mi_X6_continues vi_X6_123 rfl hM.1 rfl rfl (Nat.le_of_ble_eq_true rfl) ⟨Nat.le_of_ble_eq_true rfl, Nat.le_of_ble_eq_true rfl⟩ (Nat.le_of_ble_eq_true rfl) (Nat.le_of_ble_eq_true rfl) dX6_wouldContinue_30) (rfl : _ = 33) ?_
      refine V_if_eq Y.1 (tgt := 40) dX6_wouldContinue_33 (by decide) (rfl : _ = 36) (fun c_33 => ?_) (fun c_33 => ?_)
      · have c33 := c_33
        refine V_iconst Y.1 (v := 0) dX6_wouldContinue_40 (rfl : _ = 41) (by decide) ?_
        exact V_ret Y.1 dX6_wouldContinue_41 rfl (Nat.le_of_ble_eq_true rfl) (Nat.le_of_ble_eq_true rfl) (g_e rfl hM (by unfold g_would; simp only [*, if_true, if_false, not_true, not_false_iff, reduceIte, ge_iff_le, gt_iff_lt] <;> rfl))
      · have c33 := (r_cont_01 _ _ _).resolve_left c_33
        refine V_iconst Y.1 (v := 1) dX6_wouldContinue_36 (rfl : _ = 37) (by decide) ?_
        refine V_goto Y.1 (tgt := 41) dX6_wouldContinue_37 (by decide) ?_
        exact V_ret Y.1 dX6_wouldContinue_41 rfl (Nat.le_of_ble_eq_true rfl) (Nat.le_of_ble_eq_true rfl) (g_e rfl hM (by unfold g_would; simp only [*, if_true, if_false, not_true, not_false_iff, reduceIte, ge_iff_le, gt_iff_lt] <;> rfl))

set_option maxRecDepth 100000 in
set_option maxHeartbeats 4000000 in
theorem c_X6_chargeIfTappedOut (l : Launch) (D : va_G) (kA : Nat → ClassId) (H0 : Heap) (o : Nat) (F s b v p u t c : Nat → Int32) (n t0 : Nat) (x y : Int32) (hM : Rs D kA H0 o F s b v p u t c) (hI : RI s n t0) : Ct l D kA yX6_chargeIfTappedOut cX6_chargeIfTappedOut 3 (some .int) 4 94 0 0 H0 [.ref o, .int x, .int y] (blk o 8) (pI fun v9 H => v9 = (g_ifOut s (t0 / 1440) x y).2 ∧ Rs D kA H o (upd F 6 (nI (g_ifOut s (t0 / 1440) x y).1)) s b v p u t c) := by
  refine Ct.of mi_X6_chargeIfTappedOut (Nat.le_of_ble_eq_true rfl) (ls0 := [(0, _), (1, _), (2, _)]) rfl ?_
  intro Pp Ee Ss Mm Ar Bl Me Cc Y hs hnm
  refine V_aload_n Y.1 0 dX6_chargeIfTappedOut_0 (rfl : _ = 1) rfl rfl ?_
  refine V_iload_n Y.1 1 dX6_chargeIfTappedOut_1 (rfl : _ = 2) rfl rfl ?_
  refine V_cP Y (rV Y (c_X6_isCard l D kA _ _ _ _ _ _ _ _ _ _ _ hM) mi_X6_isCard vi_X6_113 rfl hM.1 rfl rfl (Nat.le_of_ble_eq_true rfl) ⟨Nat.le_of_ble_eq_true rfl, Nat.le_of_ble_eq_true rfl⟩ (Nat.le_of_ble_eq_true rfl) (Nat.le_of_ble_eq_true rfl) dX6_chargeIfTappedOut_2) (rfl : _ = 5) ?_
  refine V_if_eq Y.1 (tgt := 15) dX6_chargeIfTappedOut_5 (by decide) (rfl : _ = 8) (fun c_5 => ?_) (fun c_5 => ?_)
  · refine V_aload_n Y.1 0 dX6_chargeIfTappedOut_15 (rfl : _ = 16) rfl rfl ?_
    refine V_iconst Y.1 (v := 1) dX6_chargeIfTappedOut_16 (rfl : _ = 17) (by decide) ?_
    refine V_cI Y (rV Y (c_X6_fails l D kA _ _ _ _ _ _ _ _ _ _ 1 hM) mi_X6_fails vi_X6_100 rfl hM.1 rfl rfl (Nat.le_of_ble_eq_true rfl) ⟨Nat.le_of_ble_eq_true rfl, Nat.le_of_ble_eq_true rfl⟩ (Nat.le_of_ble_eq_true rfl) (Nat.le_of_ble_eq_true rfl) dX6_chargeIfTappedOut_17) (fun q hq => Or.inl (blk_sub (by omega) (by omega) q hq)) (rfl : _ = 20) (fun v_17 H17_6 hq_17 o_17 => ?_)
    obtain ⟨rfl, hM⟩ := hq_17
    have hM := Rs.z (z := 1) hM
    exact V_ret Y.1 dX6_chargeIfTappedOut_20 rfl (Nat.le_of_ble_eq_true rfl) (Nat.le_of_ble_eq_true rfl) (g_e rfl hM (by unfold g_ifOut; simp only [*, if_true, if_false, not_true, not_false_iff, reduceIte, ge_iff_le, gt_iff_lt, g_trip, r_chg, r_min] <;> rfl))
  · obtain ⟨i, hi0, rfl⟩ := r_in_ca hI.1 hI.2.1 c_5
    have hi : i < 8 := by have := hI.2.1; omega
    have ei : (nI i).toNatClampNeg = i := nI_clamp (by omega)
    obtain ⟨j, hj, ej⟩ := (hI.2.2.2.2 i hi).2.1
    have ejc : (nI j).toNatClampNeg = j := nI_clamp (by omega)
    refine V_iload_n Y.1 2 dX6_chargeIfTappedOut_8 (rfl : _ = 9) rfl rfl ?_
    refine V_cP Y (rS Y (c_X6_isStation l D kA _ _) mi_X6_isStation si_X6_120 rfl rfl (Nat.le_of_ble_eq_true rfl) ⟨Nat.le_of_ble_eq_true rfl, Nat.le_of_ble_eq_true rfl⟩ (Nat.le_of_ble_eq_true rfl) (Nat.le_of_ble_eq_true rfl) dX6_chargeIfTappedOut_9) (rfl : _ = 12) ?_
    refine V_if_ne Y.1 (tgt := 21) dX6_chargeIfTappedOut_12 (by decide) (rfl : _ = 15) (fun c_12 => ?_) (fun c_12 => ?_)
    · obtain ⟨w, hw, rfl⟩ := r_in_st c_12
      have ew : (nI w).toNatClampNeg = w := nI_clamp (by omega)
      refine V_aload_n Y.1 0 dX6_chargeIfTappedOut_21 (rfl : _ = 22) rfl rfl ?_
      refine V_iload_n Y.1 1 dX6_chargeIfTappedOut_22 (rfl : _ = 23) rfl rfl ?_
      refine V_cI Y (rV Y (c_X6_isGoing l D kA _ _ _ _ _ _ _ _ _ _ n t0 _ hM hI) mi_X6_isGoing vi_X6_156 rfl hM.1 rfl rfl (Nat.le_of_ble_eq_true rfl) ⟨Nat.le_of_ble_eq_true rfl, Nat.le_of_ble_eq_true rfl⟩ (Nat.le_of_ble_eq_true rfl) (Nat.le_of_ble_eq_true rfl) dX6_chargeIfTappedOut_23) (fun q hq => Or.inl (blk_sub (by omega) (by omega) q hq)) (rfl : _ = 26) (fun v_23 H23_22 hq_23 o_23 => ?_)
      obtain ⟨rfl, hM⟩ := hq_23
      refine V_if_eq Y.1 (tgt := 46) dX6_chargeIfTappedOut_26 (by decide) (rfl : _ = 29) (fun c_26 => ?_) (fun c_26 => ?_)
      · have g0 := g_go_d c_26
        refine V_iconst Y.1 (v := 0) dX6_chargeIfTappedOut_46 (rfl : _ = 47) (by decide) ?_
        exact V_ret Y.1 dX6_chargeIfTappedOut_47 rfl (Nat.le_of_ble_eq_true rfl) (Nat.le_of_ble_eq_true rfl) (g_e rfl hM (by unfold g_ifOut; simp only [*, if_true, if_false, not_true, not_false_iff, reduceIte, ge_iff_le, gt_iff_lt, g_trip, r_chg, r_min] <;> rfl))
      · have g0 := g_go_c c_26
        refine V_aload_n Y.1 0 dX6_chargeIfTappedOut_29 (rfl : _ = 30) rfl rfl ?_
        refine V_iload_n Y.1 1 dX6_chargeIfTappedOut_30 (rfl : _ = 31) rfl rfl ?_
        refine V_iload_n Y.1 2 dX6_chargeIfTappedOut_31 (rfl : _ = 32) rfl rfl ?_
        refine V_cP Y (rV Y (c_X6_chargeTo l D kA _ _ _ _ _ _ _ _ _ _ i hi j w hj hw hM ej) mi_X6_chargeTo vi_X6_134 rfl hM.1 rfl rfl (Nat.le_of_ble_eq_true rfl) ⟨Nat.le_of_ble_eq_true rfl, Nat.le_of_ble_eq_true rfl⟩ (Nat.le_of_ble_eq_true rfl) (Nat.le_of_ble_eq_true rfl) dX6_chargeIfTappedOut_32) (rfl : _ = 35) ?_
        refine V_aload_n Y.1 0 dX6_chargeIfTappedOut_35 (rfl : _ = 36) rfl rfl ?_
        refine V_iload_n Y.1 1 dX6_chargeIfTappedOut_36 (rfl : _ = 37) rfl rfl ?_
        refine V_cP Y (rV Y (c_X6_left l D kA _ _ _ _ _ _ _ _ _ _ i hi (t0 / 1440) hI.d hM hI.day) mi_X6_left vi_X6_85 rfl hM.1 rfl rfl (Nat.le_of_ble_eq_true rfl) ⟨Nat.le_of_ble_eq_true rfl, Nat.le_of_ble_eq_true rfl⟩ (Nat.le_of_ble_eq_true rfl) (Nat.le_of_ble_eq_true rfl) dX6_chargeIfTappedOut_37) (rfl : _ = 40) ?_
        refine V_mmin Y.1 mw_X6_55 (Nat.le_of_ble_eq_true rfl) (Nat.le_of_ble_eq_true rfl) (Nat.le_of_ble_eq_true rfl) (Nat.le_of_ble_eq_true rfl) dX6_chargeIfTappedOut_40 (rfl : _ = 43) ?_
        refine V_goto Y.1 (tgt := 47) dX6_chargeIfTappedOut_43 (by decide) ?_
        exact V_ret Y.1 dX6_chargeIfTappedOut_47 rfl (Nat.le_of_ble_eq_true rfl) (Nat.le_of_ble_eq_true rfl) (g_e rfl hM (by unfold g_ifOut; simp only [*, if_true, if_false, not_true, not_false_iff, reduceIte, ge_iff_le, gt_iff_lt, g_trip, r_chg, r_min] <;> rfl))
    · refine V_aload_n Y.1 0 dX6_chargeIfTappedOut_15 (rfl : _ = 16) rfl rfl ?_
      refine V_iconst Y.1 (v := 1) dX6_chargeIfTappedOut_16 (rfl : _ = 17) (by decide) ?_
      refine V_cI Y (rV Y (c_X6_fails l D kA _ _ _ _ _ _ _ _ _ _ 1 hM) mi_X6_fails vi_X6_100 rfl hM.1 rfl rfl (Nat.le_of_ble_eq_true rfl) ⟨Nat.le_of_ble_eq_true rfl, Nat.le_of_ble_eq_true rfl⟩ (Nat.le_of_ble_eq_true rfl) (Nat.le_of_ble_eq_true rfl) dX6_chargeIfTappedOut_17) (fun q hq => Or.inl (blk_sub (by omega) (by omega) q hq)) (rfl : _ = 20) (fun v_17 H17_41 hq_17 o_17 => ?_)
      obtain ⟨rfl, hM⟩ := hq_17
      have hM := Rs.z (z := 1) hM
      exact V_ret Y.1 dX6_chargeIfTappedOut_20 rfl (Nat.le_of_ble_eq_true rfl) (Nat.le_of_ble_eq_true rfl) (g_e rfl hM (by unfold g_ifOut; simp only [*, if_true, if_false, not_true, not_false_iff, reduceIte, ge_iff_le, gt_iff_lt, g_trip, r_chg, r_min] <;> rfl))

set_option maxRecDepth 100000 in
set_option maxHeartbeats 4000000 in
theorem c_X6_chargedOn (l : Launch) (D : va_G) (kA : Nat → ClassId) (H0 : Heap) (o : Nat) (F s b v p u t c : Nat → Int32) (n t0 : Nat) (x y : Int32) (hM : Rs D kA H0 o F s b v p u t c) (hI : RI s n t0) : Ct l D kA yX6_chargedOn cX6_chargedOn 3 (some .int) 2 45 0 0 H0 [.ref o, .int x, .int y] (blk o 8) (pI fun v9 H => v9 = (g_on s (t0 / 1440) x y).2 ∧ Rs D kA H o (upd F 6 (nI (g_on s (t0 / 1440) x y).1)) s b v p u t c) := by
  refine Ct.of mi_X6_chargedOn (Nat.le_of_ble_eq_true rfl) (ls0 := [(0, _), (1, _), (2, _)]) rfl ?_
  intro Pp Ee Ss Mm Ar Bl Me Cc Y hs hnm
  refine V_aload_n Y.1 0 dX6_chargedOn_0 (rfl : _ = 1) rfl rfl ?_
  refine V_aload_n Y.1 0 dX6_chargedOn_1 (rfl : _ = 2) rfl rfl ?_
  refine V_iload_n Y.1 1 dX6_chargedOn_2 (rfl : _ = 3) rfl rfl ?_
  refine V_cP Y (rV Y (c_X6_isCard l D kA _ _ _ _ _ _ _ _ _ _ _ hM) mi_X6_isCard vi_X6_113 rfl hM.1 rfl rfl (Nat.le_of_ble_eq_true rfl) ⟨Nat.le_of_ble_eq_true rfl, Nat.le_of_ble_eq_true rfl⟩ (Nat.le_of_ble_eq_true rfl) (Nat.le_of_ble_eq_true rfl) dX6_chargedOn_3) (rfl : _ = 6) ?_
  refine V_if_ne Y.1 (tgt := 13) dX6_chargedOn_6 (by decide) (rfl : _ = 9) (fun c_6 => ?_) (fun c_6 => ?_)
  · obtain ⟨i, hi0, rfl⟩ := r_in_ca hI.1 hI.2.1 c_6
    have hi : i < 8 := by have := hI.2.1; omega
    have ei : (nI i).toNatClampNeg = i := nI_clamp (by omega)
    refine V_iload_n Y.1 2 dX6_chargedOn_13 (rfl : _ = 14) rfl rfl ?_
    refine V_if_lt Y.1 (tgt := 31) dX6_chargedOn_14 (by decide) (rfl : _ = 17) (fun c_14 => ?_) (fun c_14 => ?_)
    · refine V_iconst Y.1 (v := 2) dX6_chargedOn_31 (rfl : _ = 32) (by decide) ?_
      refine V_goto Y.1 (tgt := 36) dX6_chargedOn_32 (by decide) ?_
      refine V_put Y.1 fi_X6_39 fw_X6 rfl rfl hM.1 (Or.inl ⟨by omega, by omega⟩) rfl rfl (Nat.le_of_ble_eq_true rfl) dX6_chargedOn_36 (rfl : _ = 39) (fun H36_12 h_new o_36 => ?_)
      have hM := hM.f6 o_36 h_new
      clear h_new
      have hM := Rs.z (z := 2) hM
      refine V_aload_n Y.1 0 dX6_chargedOn_39 (rfl : _ = 40) rfl rfl ?_
      refine V_get Y.1 fi_X6_39 hM.1 rfl dX6_chargedOn_40 (rfl : _ = 43) ?_
      refine V_nm (v := 2) rfl ?_
      refine V_if_le Y.1 (tgt := 50) dX6_chargedOn_43 (by decide) (rfl : _ = 46) (fun c_n => absurd c_n (by decide)) (fun _ => ?_)
      refine V_iconst Y.1 (v := 0) dX6_chargedOn_46 (rfl : _ = 47) (by decide) ?_
      refine V_goto Y.1 (tgt := 56) dX6_chargedOn_47 (by decide) ?_
      exact V_ret Y.1 dX6_chargedOn_56 rfl (Nat.le_of_ble_eq_true rfl) (Nat.le_of_ble_eq_true rfl) (g_e rfl hM (by unfold g_on; simp only [*, if_true, if_false, not_true, not_false_iff, reduceIte, ge_iff_le, gt_iff_lt] <;> rfl))
    · obtain ⟨e, he, rfl⟩ := nI_of c_14
      have ee : (nI e).toNatClampNeg = e := nI_clamp he
      refine V_aload_n Y.1 0 dX6_chargedOn_17 (rfl : _ = 18) rfl rfl ?_
      refine V_cP Y (rV Y (c_X6_today l D kA _ _ _ _ _ _ _ _ _ _  hM) mi_X6_today vi_X6_81 rfl hM.1 rfl rfl (Nat.le_of_ble_eq_true rfl) ⟨Nat.le_of_ble_eq_true rfl, Nat.le_of_ble_eq_true rfl⟩ (Nat.le_of_ble_eq_true rfl) (Nat.le_of_ble_eq_true rfl) dX6_chargedOn_18) (rfl : _ = 21) ?_
      refine V_nm (v := nI (t0 / 1440)) hI.day ?_
      refine V_iload_n Y.1 2 dX6_chargedOn_21 (rfl : _ = 22) rfl rfl ?_
      refine V_isub Y.1 dX6_chargedOn_22 (rfl : _ = 23) ?_
      refine V_iconst Y.1 (v := 0) dX6_chargedOn_23 (rfl : _ = 24) (by decide) ?_
      refine V_iconst Y.1 (v := 2) dX6_chargedOn_24 (rfl : _ = 25) (by decide) ?_
      refine V_cP Y (rS Y (c_X6_in l D kA _ _ _ _) mi_X6_in si_X6_51 rfl rfl (Nat.le_of_ble_eq_true rfl) ⟨Nat.le_of_ble_eq_true rfl, Nat.le_of_ble_eq_true rfl⟩ (Nat.le_of_ble_eq_true rfl) (Nat.le_of_ble_eq_true rfl) dX6_chargedOn_25) (rfl : _ = 28) ?_
      refine V_if_ne Y.1 (tgt := 35) dX6_chargedOn_28 (by decide) (rfl : _ = 31) (fun c_28 => ?_) (fun c_28 => ?_)
      · refine V_iconst Y.1 (v := 0) dX6_chargedOn_35 (rfl : _ = 36) (by decide) ?_
        refine V_put Y.1 fi_X6_39 fw_X6 rfl rfl hM.1 (Or.inl ⟨by omega, by omega⟩) rfl rfl (Nat.le_of_ble_eq_true rfl) dX6_chargedOn_36 (rfl : _ = 39) (fun H36_35 h_new o_36 => ?_)
        have hM := hM.f6 o_36 h_new
        clear h_new
        have hM := Rs.z (z := 0) hM
        refine V_aload_n Y.1 0 dX6_chargedOn_39 (rfl : _ = 40) rfl rfl ?_
        refine V_get Y.1 fi_X6_39 hM.1 rfl dX6_chargedOn_40 (rfl : _ = 43) ?_
        refine V_nm (v := 0) rfl ?_
        refine V_if_le Y.1 (tgt := 50) dX6_chargedOn_43 (by decide) (rfl : _ = 46) (fun _ => ?_) (fun c_n => absurd (by decide) c_n)
        refine V_aload_n Y.1 0 dX6_chargedOn_50 (rfl : _ = 51) rfl rfl ?_
        refine V_iload_n Y.1 1 dX6_chargedOn_51 (rfl : _ = 52) rfl rfl ?_
        refine V_iload_n Y.1 2 dX6_chargedOn_52 (rfl : _ = 53) rfl rfl ?_
        refine V_cP Y (rV Y (c_X6_sumOn l D kA _ _ _ _ _ _ _ _ _ _ i hi e he hM) mi_X6_sumOn vi_X6_70 rfl hM.1 rfl rfl (Nat.le_of_ble_eq_true rfl) ⟨Nat.le_of_ble_eq_true rfl, Nat.le_of_ble_eq_true rfl⟩ (Nat.le_of_ble_eq_true rfl) (Nat.le_of_ble_eq_true rfl) dX6_chargedOn_53) (rfl : _ = 56) ?_
        exact V_ret Y.1 dX6_chargedOn_56 rfl (Nat.le_of_ble_eq_true rfl) (Nat.le_of_ble_eq_true rfl) (g_e rfl hM (by unfold g_on; simp only [*, if_true, if_false, not_true, not_false_iff, reduceIte, ge_iff_le, gt_iff_lt] <;> rfl))
      · refine V_iconst Y.1 (v := 2) dX6_chargedOn_31 (rfl : _ = 32) (by decide) ?_
        refine V_goto Y.1 (tgt := 36) dX6_chargedOn_32 (by decide) ?_
        refine V_put Y.1 fi_X6_39 fw_X6 rfl rfl hM.1 (Or.inl ⟨by omega, by omega⟩) rfl rfl (Nat.le_of_ble_eq_true rfl) dX6_chargedOn_36 (rfl : _ = 39) (fun H36_50 h_new o_36 => ?_)
        have hM := hM.f6 o_36 h_new
        clear h_new
        have hM := Rs.z (z := 2) hM
        refine V_aload_n Y.1 0 dX6_chargedOn_39 (rfl : _ = 40) rfl rfl ?_
        refine V_get Y.1 fi_X6_39 hM.1 rfl dX6_chargedOn_40 (rfl : _ = 43) ?_
        refine V_nm (v := 2) rfl ?_
        refine V_if_le Y.1 (tgt := 50) dX6_chargedOn_43 (by decide) (rfl : _ = 46) (fun c_n => absurd c_n (by decide)) (fun _ => ?_)
        refine V_iconst Y.1 (v := 0) dX6_chargedOn_46 (rfl : _ = 47) (by decide) ?_
        refine V_goto Y.1 (tgt := 56) dX6_chargedOn_47 (by decide) ?_
        exact V_ret Y.1 dX6_chargedOn_56 rfl (Nat.le_of_ble_eq_true rfl) (Nat.le_of_ble_eq_true rfl) (g_e rfl hM (by unfold g_on; simp only [*, if_true, if_false, not_true, not_false_iff, reduceIte, ge_iff_le, gt_iff_lt] <;> rfl))
  · refine V_iconst Y.1 (v := 1) dX6_chargedOn_9 (rfl : _ = 10) (by decide) ?_
    refine V_goto Y.1 (tgt := 36) dX6_chargedOn_10 (by decide) ?_
    refine V_put Y.1 fi_X6_39 fw_X6 rfl rfl hM.1 (Or.inl ⟨by omega, by omega⟩) rfl rfl (Nat.le_of_ble_eq_true rfl) dX6_chargedOn_36 (rfl : _ = 39) (fun H36_63 h_new o_36 => ?_)
    have hM := hM.f6 o_36 h_new
    clear h_new
    have hM := Rs.z (z := 1) hM
    refine V_aload_n Y.1 0 dX6_chargedOn_39 (rfl : _ = 40) rfl rfl ?_
    refine V_get Y.1 fi_X6_39 hM.1 rfl dX6_chargedOn_40 (rfl : _ = 43) ?_
    refine V_nm (v := 1) rfl ?_
    refine V_if_le Y.1 (tgt := 50) dX6_chargedOn_43 (by decide) (rfl : _ = 46) (fun c_n => absurd c_n (by decide)) (fun _ => ?_)
    refine V_iconst Y.1 (v := 0) dX6_chargedOn_46 (rfl : _ = 47) (by decide) ?_
    refine V_goto Y.1 (tgt := 56) dX6_chargedOn_47 (by decide) ?_
    exact V_ret Y.1 dX6_chargedOn_56 rfl (Nat.le_of_ble_eq_true rfl) (Nat.le_of_ble_eq_true rfl) (g_e rfl hM (by unfold g_on; simp only [*, if_true, if_false, not_true, not_false_iff, reduceIte, ge_iff_le, gt_iff_lt] <;> rfl))

set_option maxRecDepth 100000 in
set_option maxHeartbeats 4000000 in
theorem c_X6_chargedOnByRecords (l : Launch) (D : va_G) (kA : Nat → ClassId) (H0 : Heap) (o : Nat) (F s b v p u t c : Nat → Int32) (n t0 : Nat) (x y : Int32) (hM : Rs D kA H0 o F s b v p u t c) (hI : RI s n t0) : Ct l D kA yX6_chargedOnByRecords cX6_chargedOnByRecords 3 (some .int) 3 67 0 0 H0 [.ref o, .int x, .int y] (blk o 8) (pI fun v9 H => v9 = (g_on s (t0 / 1440) x y).2 ∧ Rs D kA H o (upd F 6 (nI (g_on s (t0 / 1440) x y).1)) s b v p u t c) := by
  refine Ct.of mi_X6_chargedOnByRecords (Nat.le_of_ble_eq_true rfl) (ls0 := [(0, _), (1, _), (2, _)]) rfl ?_
  intro Pp Ee Ss Mm Ar Bl Me Cc Y hs hnm
  refine V_aload_n Y.1 0 dX6_chargedOnByRecords_0 (rfl : _ = 1) rfl rfl ?_
  refine V_iload_n Y.1 1 dX6_chargedOnByRecords_1 (rfl : _ = 2) rfl rfl ?_
  refine V_iload_n Y.1 2 dX6_chargedOnByRecords_2 (rfl : _ = 3) rfl rfl ?_
  refine V_cI Y (rV Y (c_X6_chargedOn l D kA _ _ _ _ _ _ _ _ _ _ n t0 _ _ hM hI) mi_X6_chargedOn vi_X6_159 rfl hM.1 rfl rfl (Nat.le_of_ble_eq_true rfl) ⟨Nat.le_of_ble_eq_true rfl, Nat.le_of_ble_eq_true rfl⟩ (Nat.le_of_ble_eq_true rfl) (Nat.le_of_ble_eq_true rfl) dX6_chargedOnByRecords_3) (fun q hq => Or.inl (blk_sub (by omega) (by omega) q hq)) (rfl : _ = 6) (fun v_3 H3_3 hq_3 o_3 => ?_)
  obtain ⟨e3, hM⟩ := hq_3
  exact V_ret Y.1 dX6_chargedOnByRecords_6 rfl (Nat.le_of_ble_eq_true rfl) (Nat.le_of_ble_eq_true rfl) ⟨e3, hM⟩

