theorem Rs.to {D : va_G} {kA : Nat → ClassId} {H : Heap} {o : Nat} {F F1 s b v p u u1 t c : Nat → Int32} (h : Rs D kA H o F s b v p u t c) (e1 : F = F1) (e2 : u = u1) : Rs D kA H o F1 s b v p u1 t c := by subst e1; subst e2; exact h
theorem r_rem10 {d : Nat} (hd : d < 2 ^ 31) : nI d - nI d / 10 * 10 = nI (d % 10) := pk_rem (a := d) (d := 10) hd (by decide) (by decide)
set_option maxRecDepth 100000 in
set_option maxHeartbeats 4000000 in
theorem c_X6_says (l : Launch) (D : va_G) (kA : Nat → ClassId) (H0 : Heap) (o : Nat) (F s b v p u t c : Nat → Int32) (x : Int32) (q : Nat) (hq : F 8 = nI q) (hq2 : q < 30) (hx : narrow .char (.int x) = .int x) (hM : Rs D kA H0 o F s b v p u t c)  : Ct l D kA yX6_says cX6_says 2 none 0 0 0 0 H0 [.ref o, .int x] (blk o 8) (pV fun H => Rs D kA H o (upd F 8 (nI (q + 1))) s b v p (upd u q x) t c) := by
  refine Ct.of mi_X6_says (Nat.le_of_ble_eq_true rfl) (ls0 := [(0, _), (1, _)]) rfl ?_
  intro Pp Ee Ss Mm Ar Bl Me Cc Y hs hnm
  refine V_aload_n Y.1 0 dX6_says_0 (rfl : _ = 1) rfl rfl ?_
  refine V_get Y.1 fi_X6_22 hM.1 rfl dX6_says_1 (rfl : _ = 4) ?_
  refine V_aload_n Y.1 0 dX6_says_4 (rfl : _ = 5) rfl rfl ?_
  refine V_get Y.1 fi_X6_182 hM.1 rfl dX6_says_5 (rfl : _ = 8) ?_
  refine V_iload_n Y.1 1 dX6_says_8 (rfl : _ = 9) rfl rfl ?_
  refine V_cast Y.1 hM.2.2.2.2.2.1 (Or.inl ⟨by omega, by omega⟩) (by rw [hq]; exact vp_in_nI (by omega) (by omega)) hx dX6_says_9 (rfl : _ = 10) (fun H9_5 h_new o_9 => ?_)
  rw [hq, nI_clamp (by omega)] at h_new
  have hM := hM.a5 o_9 h_new
  clear h_new
  refine V_aload_n Y.1 0 dX6_says_10 (rfl : _ = 11) rfl rfl ?_
  refine V_dup Y.1 dX6_says_11 (rfl : _ = 12) rfl ?_
  refine V_get Y.1 fi_X6_182 hM.1 rfl dX6_says_12 (rfl : _ = 15) ?_
  refine V_iconst Y.1 (v := 1) dX6_says_15 (rfl : _ = 16) (by decide) ?_
  refine V_iadd Y.1 dX6_says_16 (rfl : _ = 17) ?_
  refine V_nm (v := nI (q + 1)) (by rw [hq]; exact nI_1 q) ?_
  refine V_put Y.1 fi_X6_182 fw_X6 rfl rfl hM.1 (Or.inl ⟨by omega, by omega⟩) rfl rfl (Nat.le_of_ble_eq_true rfl) dX6_says_17 (rfl : _ = 20) (fun H17_15 h_new o_17 => ?_)
  have hM := hM.f8 o_17 h_new
  clear h_new
  exact V_retV Y.1 dX6_says_20 (Nat.le_of_ble_eq_true rfl) (Nat.le_of_ble_eq_true rfl) hM

set_option maxRecDepth 100000 in
set_option maxHeartbeats 4000000 in
theorem c_X6_saysNumber_1 (l : Launch) (D : va_G) (kA : Nat → ClassId) (H0 : Heap) (o : Nat) (F s b v p u t c : Nat → Int32) (w : Nat) (hw : w < 10) (q : Nat) (hq : F 8 = nI q) (hq2 : q + 1 ≤ 30) (hM : Rs D kA H0 o F s b v p u t c)  : Ct l D kA yX6_saysNumber cX6_saysNumber 3 none 1 24 0 0 H0 [.ref o, .int (nI w)] (blk o 8) (pV fun H => Rs D kA H o (upd F 8 (nI (q + (dg 1 w).length))) s b v p (r_put u q (dg 1 w)) t c) := by
  refine Ct.of mi_X6_saysNumber (Nat.le_of_ble_eq_true rfl) (ls0 := [(0, _), (1, _)]) rfl ?_
  intro Pp Ee Ss Mm Ar Bl Me Cc Y hs hnm
  refine V_iload_n Y.1 1 dX6_saysNumber_0 (rfl : _ = 1) rfl rfl ?_
  refine V_if_ge Y.1 (tgt := 10) dX6_saysNumber_1 (by decide) (rfl : _ = 4) (fun _ => ?_) (fun c_n => absurd (nI_pos' (by omega)) c_n)
  refine V_iload_n Y.1 1 dX6_saysNumber_10 (rfl : _ = 11) rfl rfl ?_
  refine V_mabs Y.1 mw_X6_189 (Nat.le_of_ble_eq_true rfl) (Nat.le_of_ble_eq_true rfl) (Nat.le_of_ble_eq_true rfl) (Nat.le_of_ble_eq_true rfl) dX6_saysNumber_11 (rfl : _ = 14) ?_
  refine V_nm (v := nI w) (nI_absP (by omega)) ?_
  refine V_istore_n Y.1 (ls' := [(2, _), (0, _), (1, _)]) dX6_saysNumber_14 (rfl : _ = 15) rfl (by decide) rfl ?_
  refine V_iload_n Y.1 0 dX6_saysNumber_15 (rfl : _ = 16) rfl rfl ?_
  refine V_bipush Y.1 (v := 9) dX6_saysNumber_16 (rfl : _ = 18) (by decide) ?_
  refine V_icmp_le Y.1 (tgt := 29) dX6_saysNumber_18 (by decide) (rfl : _ = 21) (fun _ => ?_) (fun c_n => absurd ((nI_leI (b := 9) (by omega) (by omega)).mpr (by omega)) c_n)
  refine V_aload_n Y.1 1 dX6_saysNumber_29 (rfl : _ = 30) rfl rfl ?_
  refine V_bipush Y.1 (v := 48) dX6_saysNumber_30 (rfl : _ = 32) (by decide) ?_
  refine V_iload_n Y.1 0 dX6_saysNumber_32 (rfl : _ = 33) rfl rfl ?_
  refine V_bipush Y.1 (v := 10) dX6_saysNumber_33 (rfl : _ = 35) (by decide) ?_
  refine V_irem Y.1 dX6_saysNumber_35 (rfl : _ = 36) (by decide) ?_
  refine V_nm (v := nI (w % 10)) (r_rem10 (by omega)) ?_
  refine V_iadd Y.1 dX6_saysNumber_36 (rfl : _ = 37) ?_
  refine V_nm (v := nI (48 + w % 10)) (nI_add _ _) ?_
  refine V_i2c Y.1 (v := nI (48 + w % 10)) dX6_saysNumber_37 (rfl : _ = 38) (ch_i2c (by omega)) ?_
  refine V_cV Y (rV Y (c_X6_says l D kA _ _ _ _ _ _ _ _ _ _ _ (q) hq (by omega) (ch_nar (by omega)) hM) mi_X6_says vi_X6_185 rfl hM.1 rfl rfl (Nat.le_of_ble_eq_true rfl) ⟨Nat.le_of_ble_eq_true rfl, Nat.le_of_ble_eq_true rfl⟩ (Nat.le_of_ble_eq_true rfl) (Nat.le_of_ble_eq_true rfl) dX6_saysNumber_38) (fun q hq => Or.inl (blk_sub (by omega) (by omega) q hq)) (rfl : _ = 41) (fun H38_18 hq_38 o_38 => ?_)
  have hM := hq_38
  exact V_retV Y.1 dX6_saysNumber_41 (Nat.le_of_ble_eq_true rfl) (Nat.le_of_ble_eq_true rfl) (by rw [dg_9 (by omega)]; exact hM)

set_option maxRecDepth 100000 in
set_option maxHeartbeats 4000000 in
theorem c_X6_saysNumber_2 (l : Launch) (D : va_G) (kA : Nat → ClassId) (H0 : Heap) (o : Nat) (F s b v p u t c : Nat → Int32) (w : Nat) (hw : w < 100) (q : Nat) (hq : F 8 = nI q) (hq2 : q + 2 ≤ 30) (hM : Rs D kA H0 o F s b v p u t c)  : Ct l D kA yX6_saysNumber cX6_saysNumber 3 none 2 46 0 0 H0 [.ref o, .int (nI w)] (blk o 8) (pV fun H => Rs D kA H o (upd F 8 (nI (q + (dg 2 w).length))) s b v p (r_put u q (dg 2 w)) t c) := by
  refine Ct.of mi_X6_saysNumber (Nat.le_of_ble_eq_true rfl) (ls0 := [(0, _), (1, _)]) rfl ?_
  intro Pp Ee Ss Mm Ar Bl Me Cc Y hs hnm
  refine V_iload_n Y.1 1 dX6_saysNumber_0 (rfl : _ = 1) rfl rfl ?_
  refine V_if_ge Y.1 (tgt := 10) dX6_saysNumber_1 (by decide) (rfl : _ = 4) (fun _ => ?_) (fun c_n => absurd (nI_pos' (by omega)) c_n)
  refine V_iload_n Y.1 1 dX6_saysNumber_10 (rfl : _ = 11) rfl rfl ?_
  refine V_mabs Y.1 mw_X6_189 (Nat.le_of_ble_eq_true rfl) (Nat.le_of_ble_eq_true rfl) (Nat.le_of_ble_eq_true rfl) (Nat.le_of_ble_eq_true rfl) dX6_saysNumber_11 (rfl : _ = 14) ?_
  refine V_nm (v := nI w) (nI_absP (by omega)) ?_
  refine V_istore_n Y.1 (ls' := [(2, _), (0, _), (1, _)]) dX6_saysNumber_14 (rfl : _ = 15) rfl (by decide) rfl ?_
  refine V_iload_n Y.1 0 dX6_saysNumber_15 (rfl : _ = 16) rfl rfl ?_
  refine V_bipush Y.1 (v := 9) dX6_saysNumber_16 (rfl : _ = 18) (by decide) ?_
  refine V_icmp_le Y.1 (tgt := 29) dX6_saysNumber_18 (by decide) (rfl : _ = 21) (fun c_18 => ?_) (fun c_18 => ?_)
  · have w9 := (nI_leI (b := 9) (by omega) (by decide)).mp c_18
    refine V_aload_n Y.1 1 dX6_saysNumber_29 (rfl : _ = 30) rfl rfl ?_
    refine V_bipush Y.1 (v := 48) dX6_saysNumber_30 (rfl : _ = 32) (by decide) ?_
    refine V_iload_n Y.1 0 dX6_saysNumber_32 (rfl : _ = 33) rfl rfl ?_
    refine V_bipush Y.1 (v := 10) dX6_saysNumber_33 (rfl : _ = 35) (by decide) ?_
    refine V_irem Y.1 dX6_saysNumber_35 (rfl : _ = 36) (by decide) ?_
    refine V_nm (v := nI (w % 10)) (r_rem10 (by omega)) ?_
    refine V_iadd Y.1 dX6_saysNumber_36 (rfl : _ = 37) ?_
    refine V_nm (v := nI (48 + w % 10)) (nI_add _ _) ?_
    refine V_i2c Y.1 (v := nI (48 + w % 10)) dX6_saysNumber_37 (rfl : _ = 38) (ch_i2c (by omega)) ?_
    refine V_cV Y (rV Y (c_X6_says l D kA _ _ _ _ _ _ _ _ _ _ _ (q) hq (by omega) (ch_nar (by omega)) hM) mi_X6_says vi_X6_185 rfl hM.1 rfl rfl (Nat.le_of_ble_eq_true rfl) ⟨Nat.le_of_ble_eq_true rfl, Nat.le_of_ble_eq_true rfl⟩ (Nat.le_of_ble_eq_true rfl) (Nat.le_of_ble_eq_true rfl) dX6_saysNumber_38) (fun q hq => Or.inl (blk_sub (by omega) (by omega) q hq)) (rfl : _ = 41) (fun H38_19 hq_38 o_38 => ?_)
    have hM := hq_38
    exact V_retV Y.1 dX6_saysNumber_41 (Nat.le_of_ble_eq_true rfl) (Nat.le_of_ble_eq_true rfl) (by rw [dg_9 (by omega)]; exact hM)
  · have w9 : ¬ w ≤ 9 := fun q => c_18 ((nI_leI (b := 9) (by omega) (by decide)).mpr q)
    refine V_aload_n Y.1 1 dX6_saysNumber_21 (rfl : _ = 22) rfl rfl ?_
    refine V_iload_n Y.1 0 dX6_saysNumber_22 (rfl : _ = 23) rfl rfl ?_
    refine V_bipush Y.1 (v := 10) dX6_saysNumber_23 (rfl : _ = 25) (by decide) ?_
    refine V_idiv Y.1 dX6_saysNumber_25 (rfl : _ = 26) (by decide) ?_
    refine V_nm (v := nI (w / 10)) (pk_div (d := 10) (by omega) (by decide) (by decide)) ?_
    refine V_cV Y (rV Y (c_X6_saysNumber_1 l D kA _ _ _ _ _ _ _ _ _ _ (w / 10) (by omega) q hq (by omega) hM) mi_X6_saysNumber vi_X6_192 rfl hM.1 rfl rfl (Nat.le_of_ble_eq_true rfl) ⟨Nat.le_of_ble_eq_true rfl, Nat.le_of_ble_eq_true rfl⟩ (Nat.le_of_ble_eq_true rfl) (Nat.le_of_ble_eq_true rfl) dX6_saysNumber_26) (fun q hq => Or.inl (blk_sub (by omega) (by omega) q hq)) (rfl : _ = 29) (fun H26_28 hq_26 o_26 => ?_)
    have hM := hq_26
    refine V_aload_n Y.1 1 dX6_saysNumber_29 (rfl : _ = 30) rfl rfl ?_
    refine V_bipush Y.1 (v := 48) dX6_saysNumber_30 (rfl : _ = 32) (by decide) ?_
    refine V_iload_n Y.1 0 dX6_saysNumber_32 (rfl : _ = 33) rfl rfl ?_
    refine V_bipush Y.1 (v := 10) dX6_saysNumber_33 (rfl : _ = 35) (by decide) ?_
    refine V_irem Y.1 dX6_saysNumber_35 (rfl : _ = 36) (by decide) ?_
    refine V_nm (v := nI (w % 10)) (r_rem10 (by omega)) ?_
    refine V_iadd Y.1 dX6_saysNumber_36 (rfl : _ = 37) ?_
    refine V_nm (v := nI (48 + w % 10)) (nI_add _ _) ?_
    refine V_i2c Y.1 (v := nI (48 + w % 10)) dX6_saysNumber_37 (rfl : _ = 38) (ch_i2c (by omega)) ?_
    refine V_cV Y (rV Y (c_X6_says l D kA _ _ _ _ _ _ _ _ _ _ _ (q + (dg 1 (w / 10)).length) pk_us (by have := dg_len 1 (w / 10); omega) (ch_nar (by omega)) hM) mi_X6_says vi_X6_185 rfl hM.1 rfl rfl (Nat.le_of_ble_eq_true rfl) ⟨Nat.le_of_ble_eq_true rfl, Nat.le_of_ble_eq_true rfl⟩ (Nat.le_of_ble_eq_true rfl) (Nat.le_of_ble_eq_true rfl) dX6_saysNumber_38) (fun q hq => Or.inl (blk_sub (by omega) (by omega) q hq)) (rfl : _ = 41) (fun H38_39 hq_38 o_38 => ?_)
    have hM := hq_38
    exact V_retV Y.1 dX6_saysNumber_41 (Nat.le_of_ble_eq_true rfl) (Nat.le_of_ble_eq_true rfl) (by rw [dg_10 w9, List.length_append, r_put_app]; rw [upd2] at hM; exact hM)

set_option maxRecDepth 100000 in
set_option maxHeartbeats 4000000 in
theorem c_X6_saysNumber_3 (l : Launch) (D : va_G) (kA : Nat → ClassId) (H0 : Heap) (o : Nat) (F s b v p u t c : Nat → Int32) (w : Nat) (hw : w < 1000) (q : Nat) (hq : F 8 = nI q) (hq2 : q + 3 ≤ 30) (hM : Rs D kA H0 o F s b v p u t c)  : Ct l D kA yX6_saysNumber cX6_saysNumber 3 none 3 68 0 0 H0 [.ref o, .int (nI w)] (blk o 8) (pV fun H => Rs D kA H o (upd F 8 (nI (q + (dg 3 w).length))) s b v p (r_put u q (dg 3 w)) t c) := by
  refine Ct.of mi_X6_saysNumber (Nat.le_of_ble_eq_true rfl) (ls0 := [(0, _), (1, _)]) rfl ?_
  intro Pp Ee Ss Mm Ar Bl Me Cc Y hs hnm
  refine V_iload_n Y.1 1 dX6_saysNumber_0 (rfl : _ = 1) rfl rfl ?_
  refine V_if_ge Y.1 (tgt := 10) dX6_saysNumber_1 (by decide) (rfl : _ = 4) (fun _ => ?_) (fun c_n => absurd (nI_pos' (by omega)) c_n)
  refine V_iload_n Y.1 1 dX6_saysNumber_10 (rfl : _ = 11) rfl rfl ?_
  refine V_mabs Y.1 mw_X6_189 (Nat.le_of_ble_eq_true rfl) (Nat.le_of_ble_eq_true rfl) (Nat.le_of_ble_eq_true rfl) (Nat.le_of_ble_eq_true rfl) dX6_saysNumber_11 (rfl : _ = 14) ?_
  refine V_nm (v := nI w) (nI_absP (by omega)) ?_
  refine V_istore_n Y.1 (ls' := [(2, _), (0, _), (1, _)]) dX6_saysNumber_14 (rfl : _ = 15) rfl (by decide) rfl ?_
  refine V_iload_n Y.1 0 dX6_saysNumber_15 (rfl : _ = 16) rfl rfl ?_
  refine V_bipush Y.1 (v := 9) dX6_saysNumber_16 (rfl : _ = 18) (by decide) ?_
  refine V_icmp_le Y.1 (tgt := 29) dX6_saysNumber_18 (by decide) (rfl : _ = 21) (fun c_18 => ?_) (fun c_18 => ?_)
  · have w9 := (nI_leI (b := 9) (by omega) (by decide)).mp c_18
    refine V_aload_n Y.1 1 dX6_saysNumber_29 (rfl : _ = 30) rfl rfl ?_
    refine V_bipush Y.1 (v := 48) dX6_saysNumber_30 (rfl : _ = 32) (by decide) ?_
    refine V_iload_n Y.1 0 dX6_saysNumber_32 (rfl : _ = 33) rfl rfl ?_
    refine V_bipush Y.1 (v := 10) dX6_saysNumber_33 (rfl : _ = 35) (by decide) ?_
    refine V_irem Y.1 dX6_saysNumber_35 (rfl : _ = 36) (by decide) ?_
    refine V_nm (v := nI (w % 10)) (r_rem10 (by omega)) ?_
    refine V_iadd Y.1 dX6_saysNumber_36 (rfl : _ = 37) ?_
    refine V_nm (v := nI (48 + w % 10)) (nI_add _ _) ?_
    refine V_i2c Y.1 (v := nI (48 + w % 10)) dX6_saysNumber_37 (rfl : _ = 38) (ch_i2c (by omega)) ?_
    refine V_cV Y (rV Y (c_X6_says l D kA _ _ _ _ _ _ _ _ _ _ _ (q) hq (by omega) (ch_nar (by omega)) hM) mi_X6_says vi_X6_185 rfl hM.1 rfl rfl (Nat.le_of_ble_eq_true rfl) ⟨Nat.le_of_ble_eq_true rfl, Nat.le_of_ble_eq_true rfl⟩ (Nat.le_of_ble_eq_true rfl) (Nat.le_of_ble_eq_true rfl) dX6_saysNumber_38) (fun q hq => Or.inl (blk_sub (by omega) (by omega) q hq)) (rfl : _ = 41) (fun H38_19 hq_38 o_38 => ?_)
    have hM := hq_38
    exact V_retV Y.1 dX6_saysNumber_41 (Nat.le_of_ble_eq_true rfl) (Nat.le_of_ble_eq_true rfl) (by rw [dg_9 (by omega)]; exact hM)
  · have w9 : ¬ w ≤ 9 := fun q => c_18 ((nI_leI (b := 9) (by omega) (by decide)).mpr q)
    refine V_aload_n Y.1 1 dX6_saysNumber_21 (rfl : _ = 22) rfl rfl ?_
    refine V_iload_n Y.1 0 dX6_saysNumber_22 (rfl : _ = 23) rfl rfl ?_
    refine V_bipush Y.1 (v := 10) dX6_saysNumber_23 (rfl : _ = 25) (by decide) ?_
    refine V_idiv Y.1 dX6_saysNumber_25 (rfl : _ = 26) (by decide) ?_
    refine V_nm (v := nI (w / 10)) (pk_div (d := 10) (by omega) (by decide) (by decide)) ?_
    refine V_cV Y (rV Y (c_X6_saysNumber_2 l D kA _ _ _ _ _ _ _ _ _ _ (w / 10) (by omega) q hq (by omega) hM) mi_X6_saysNumber vi_X6_192 rfl hM.1 rfl rfl (Nat.le_of_ble_eq_true rfl) ⟨Nat.le_of_ble_eq_true rfl, Nat.le_of_ble_eq_true rfl⟩ (Nat.le_of_ble_eq_true rfl) (Nat.le_of_ble_eq_true rfl) dX6_saysNumber_26) (fun q hq => Or.inl (blk_sub (by omega) (by omega) q hq)) (rfl : _ = 29) (fun H26_28 hq_26 o_26 => ?_)
    have hM := hq_26
    refine V_aload_n Y.1 1 dX6_saysNumber_29 (rfl : _ = 30) rfl rfl ?_
    refine V_bipush Y.1 (v := 48) dX6_saysNumber_30 (rfl : _ = 32) (by decide) ?_
    refine V_iload_n Y.1 0 dX6_saysNumber_32 (rfl : _ = 33) rfl rfl ?_
    refine V_bipush Y.1 (v := 10) dX6_saysNumber_33 (rfl : _ = 35) (by decide) ?_
    refine V_irem Y.1 dX6_saysNumber_35 (rfl : _ = 36) (by decide) ?_
    refine V_nm (v := nI (w % 10)) (r_rem10 (by omega)) ?_
    refine V_iadd Y.1 dX6_saysNumber_36 (rfl : _ = 37) ?_
    refine V_nm (v := nI (48 + w % 10)) (nI_add _ _) ?_
    refine V_i2c Y.1 (v := nI (48 + w % 10)) dX6_saysNumber_37 (rfl : _ = 38) (ch_i2c (by omega)) ?_
    refine V_cV Y (rV Y (c_X6_says l D kA _ _ _ _ _ _ _ _ _ _ _ (q + (dg 2 (w / 10)).length) pk_us (by have := dg_len 2 (w / 10); omega) (ch_nar (by omega)) hM) mi_X6_says vi_X6_185 rfl hM.1 rfl rfl (Nat.le_of_ble_eq_true rfl) ⟨Nat.le_of_ble_eq_true rfl, Nat.le_of_ble_eq_true rfl⟩ (Nat.le_of_ble_eq_true rfl) (Nat.le_of_ble_eq_true rfl) dX6_saysNumber_38) (fun q hq => Or.inl (blk_sub (by omega) (by omega) q hq)) (rfl : _ = 41) (fun H38_39 hq_38 o_38 => ?_)
    have hM := hq_38
    exact V_retV Y.1 dX6_saysNumber_41 (Nat.le_of_ble_eq_true rfl) (Nat.le_of_ble_eq_true rfl) (by rw [dg_10 w9, List.length_append, r_put_app]; rw [upd2] at hM; exact hM)

set_option maxRecDepth 100000 in
set_option maxHeartbeats 4000000 in
theorem c_X6_saysNumber_4 (l : Launch) (D : va_G) (kA : Nat → ClassId) (H0 : Heap) (o : Nat) (F s b v p u t c : Nat → Int32) (w : Nat) (hw : w < 10000) (q : Nat) (hq : F 8 = nI q) (hq2 : q + 4 ≤ 30) (hM : Rs D kA H0 o F s b v p u t c)  : Ct l D kA yX6_saysNumber cX6_saysNumber 3 none 4 90 0 0 H0 [.ref o, .int (nI w)] (blk o 8) (pV fun H => Rs D kA H o (upd F 8 (nI (q + (dg 4 w).length))) s b v p (r_put u q (dg 4 w)) t c) := by
  refine Ct.of mi_X6_saysNumber (Nat.le_of_ble_eq_true rfl) (ls0 := [(0, _), (1, _)]) rfl ?_
  intro Pp Ee Ss Mm Ar Bl Me Cc Y hs hnm
  refine V_iload_n Y.1 1 dX6_saysNumber_0 (rfl : _ = 1) rfl rfl ?_
  refine V_if_ge Y.1 (tgt := 10) dX6_saysNumber_1 (by decide) (rfl : _ = 4) (fun _ => ?_) (fun c_n => absurd (nI_pos' (by omega)) c_n)
  refine V_iload_n Y.1 1 dX6_saysNumber_10 (rfl : _ = 11) rfl rfl ?_
  refine V_mabs Y.1 mw_X6_189 (Nat.le_of_ble_eq_true rfl) (Nat.le_of_ble_eq_true rfl) (Nat.le_of_ble_eq_true rfl) (Nat.le_of_ble_eq_true rfl) dX6_saysNumber_11 (rfl : _ = 14) ?_
  refine V_nm (v := nI w) (nI_absP (by omega)) ?_
  refine V_istore_n Y.1 (ls' := [(2, _), (0, _), (1, _)]) dX6_saysNumber_14 (rfl : _ = 15) rfl (by decide) rfl ?_
  refine V_iload_n Y.1 0 dX6_saysNumber_15 (rfl : _ = 16) rfl rfl ?_
  refine V_bipush Y.1 (v := 9) dX6_saysNumber_16 (rfl : _ = 18) (by decide) ?_
  refine V_icmp_le Y.1 (tgt := 29) dX6_saysNumber_18 (by decide) (rfl : _ = 21) (fun c_18 => ?_) (fun c_18 => ?_)
  · have w9 := (nI_leI (b := 9) (by omega) (by decide)).mp c_18
    refine V_aload_n Y.1 1 dX6_saysNumber_29 (rfl : _ = 30) rfl rfl ?_
    refine V_bipush Y.1 (v := 48) dX6_saysNumber_30 (rfl : _ = 32) (by decide) ?_
    refine V_iload_n Y.1 0 dX6_saysNumber_32 (rfl : _ = 33) rfl rfl ?_
    refine V_bipush Y.1 (v := 10) dX6_saysNumber_33 (rfl : _ = 35) (by decide) ?_
    refine V_irem Y.1 dX6_saysNumber_35 (rfl : _ = 36) (by decide) ?_
    refine V_nm (v := nI (w % 10)) (r_rem10 (by omega)) ?_
    refine V_iadd Y.1 dX6_saysNumber_36 (rfl : _ = 37) ?_
    refine V_nm (v := nI (48 + w % 10)) (nI_add _ _) ?_
    refine V_i2c Y.1 (v := nI (48 + w % 10)) dX6_saysNumber_37 (rfl : _ = 38) (ch_i2c (by omega)) ?_
    refine V_cV Y (rV Y (c_X6_says l D kA _ _ _ _ _ _ _ _ _ _ _ (q) hq (by omega) (ch_nar (by omega)) hM) mi_X6_says vi_X6_185 rfl hM.1 rfl rfl (Nat.le_of_ble_eq_true rfl) ⟨Nat.le_of_ble_eq_true rfl, Nat.le_of_ble_eq_true rfl⟩ (Nat.le_of_ble_eq_true rfl) (Nat.le_of_ble_eq_true rfl) dX6_saysNumber_38) (fun q hq => Or.inl (blk_sub (by omega) (by omega) q hq)) (rfl : _ = 41) (fun H38_19 hq_38 o_38 => ?_)
    have hM := hq_38
    exact V_retV Y.1 dX6_saysNumber_41 (Nat.le_of_ble_eq_true rfl) (Nat.le_of_ble_eq_true rfl) (by rw [dg_9 (by omega)]; exact hM)
  · have w9 : ¬ w ≤ 9 := fun q => c_18 ((nI_leI (b := 9) (by omega) (by decide)).mpr q)
    refine V_aload_n Y.1 1 dX6_saysNumber_21 (rfl : _ = 22) rfl rfl ?_
    refine V_iload_n Y.1 0 dX6_saysNumber_22 (rfl : _ = 23) rfl rfl ?_
    refine V_bipush Y.1 (v := 10) dX6_saysNumber_23 (rfl : _ = 25) (by decide) ?_
    refine V_idiv Y.1 dX6_saysNumber_25 (rfl : _ = 26) (by decide) ?_
    refine V_nm (v := nI (w / 10)) (pk_div (d := 10) (by omega) (by decide) (by decide)) ?_
    refine V_cV Y (rV Y (c_X6_saysNumber_3 l D kA _ _ _ _ _ _ _ _ _ _ (w / 10) (by omega) q hq (by omega) hM) mi_X6_saysNumber vi_X6_192 rfl hM.1 rfl rfl (Nat.le_of_ble_eq_true rfl) ⟨Nat.le_of_ble_eq_true rfl, Nat.le_of_ble_eq_true rfl⟩ (Nat.le_of_ble_eq_true rfl) (Nat.le_of_ble_eq_true rfl) dX6_saysNumber_26) (fun q hq => Or.inl (blk_sub (by omega) (by omega) q hq)) (rfl : _ = 29) (fun H26_28 hq_26 o_26 => ?_)
    have hM := hq_26
    refine V_aload_n Y.1 1 dX6_saysNumber_29 (rfl : _ = 30) rfl rfl ?_
    refine V_bipush Y.1 (v := 48) dX6_saysNumber_30 (rfl : _ = 32) (by decide) ?_
    refine V_iload_n Y.1 0 dX6_saysNumber_32 (rfl : _ = 33) rfl rfl ?_
    refine V_bipush Y.1 (v := 10) dX6_saysNumber_33 (rfl : _ = 35) (by decide) ?_
    refine V_irem Y.1 dX6_saysNumber_35 (rfl : _ = 36) (by decide) ?_
    refine V_nm (v := nI (w % 10)) (r_rem10 (by omega)) ?_
    refine V_iadd Y.1 dX6_saysNumber_36 (rfl : _ = 37) ?_
    refine V_nm (v := nI (48 + w % 10)) (nI_add _ _) ?_
    refine V_i2c Y.1 (v := nI (48 + w % 10)) dX6_saysNumber_37 (rfl : _ = 38) (ch_i2c (by omega)) ?_
    refine V_cV Y (rV Y (c_X6_says l D kA _ _ _ _ _ _ _ _ _ _ _ (q + (dg 3 (w / 10)).length) pk_us (by have := dg_len 3 (w / 10); omega) (ch_nar (by omega)) hM) mi_X6_says vi_X6_185 rfl hM.1 rfl rfl (Nat.le_of_ble_eq_true rfl) ⟨Nat.le_of_ble_eq_true rfl, Nat.le_of_ble_eq_true rfl⟩ (Nat.le_of_ble_eq_true rfl) (Nat.le_of_ble_eq_true rfl) dX6_saysNumber_38) (fun q hq => Or.inl (blk_sub (by omega) (by omega) q hq)) (rfl : _ = 41) (fun H38_39 hq_38 o_38 => ?_)
    have hM := hq_38
    exact V_retV Y.1 dX6_saysNumber_41 (Nat.le_of_ble_eq_true rfl) (Nat.le_of_ble_eq_true rfl) (by rw [dg_10 w9, List.length_append, r_put_app]; rw [upd2] at hM; exact hM)

set_option maxRecDepth 100000 in
set_option maxHeartbeats 4000000 in
theorem c_X6_saysNumber_5 (l : Launch) (D : va_G) (kA : Nat → ClassId) (H0 : Heap) (o : Nat) (F s b v p u t c : Nat → Int32) (w : Nat) (hw : w < 100000) (q : Nat) (hq : F 8 = nI q) (hq2 : q + 5 ≤ 30) (hM : Rs D kA H0 o F s b v p u t c)  : Ct l D kA yX6_saysNumber cX6_saysNumber 3 none 5 112 0 0 H0 [.ref o, .int (nI w)] (blk o 8) (pV fun H => Rs D kA H o (upd F 8 (nI (q + (dg 5 w).length))) s b v p (r_put u q (dg 5 w)) t c) := by
  refine Ct.of mi_X6_saysNumber (Nat.le_of_ble_eq_true rfl) (ls0 := [(0, _), (1, _)]) rfl ?_
  intro Pp Ee Ss Mm Ar Bl Me Cc Y hs hnm
  refine V_iload_n Y.1 1 dX6_saysNumber_0 (rfl : _ = 1) rfl rfl ?_
  refine V_if_ge Y.1 (tgt := 10) dX6_saysNumber_1 (by decide) (rfl : _ = 4) (fun _ => ?_) (fun c_n => absurd (nI_pos' (by omega)) c_n)
  refine V_iload_n Y.1 1 dX6_saysNumber_10 (rfl : _ = 11) rfl rfl ?_
  refine V_mabs Y.1 mw_X6_189 (Nat.le_of_ble_eq_true rfl) (Nat.le_of_ble_eq_true rfl) (Nat.le_of_ble_eq_true rfl) (Nat.le_of_ble_eq_true rfl) dX6_saysNumber_11 (rfl : _ = 14) ?_
  refine V_nm (v := nI w) (nI_absP (by omega)) ?_
  refine V_istore_n Y.1 (ls' := [(2, _), (0, _), (1, _)]) dX6_saysNumber_14 (rfl : _ = 15) rfl (by decide) rfl ?_
  refine V_iload_n Y.1 0 dX6_saysNumber_15 (rfl : _ = 16) rfl rfl ?_
  refine V_bipush Y.1 (v := 9) dX6_saysNumber_16 (rfl : _ = 18) (by decide) ?_
  refine V_icmp_le Y.1 (tgt := 29) dX6_saysNumber_18 (by decide) (rfl : _ = 21) (fun c_18 => ?_) (fun c_18 => ?_)
  · have w9 := (nI_leI (b := 9) (by omega) (by decide)).mp c_18
    refine V_aload_n Y.1 1 dX6_saysNumber_29 (rfl : _ = 30) rfl rfl ?_
    refine V_bipush Y.1 (v := 48) dX6_saysNumber_30 (rfl : _ = 32) (by decide) ?_
    refine V_iload_n Y.1 0 dX6_saysNumber_32 (rfl : _ = 33) rfl rfl ?_
    refine V_bipush Y.1 (v := 10) dX6_saysNumber_33 (rfl : _ = 35) (by decide) ?_
    refine V_irem Y.1 dX6_saysNumber_35 (rfl : _ = 36) (by decide) ?_
    refine V_nm (v := nI (w % 10)) (r_rem10 (by omega)) ?_
    refine V_iadd Y.1 dX6_saysNumber_36 (rfl : _ = 37) ?_
    refine V_nm (v := nI (48 + w % 10)) (nI_add _ _) ?_
    refine V_i2c Y.1 (v := nI (48 + w % 10)) dX6_saysNumber_37 (rfl : _ = 38) (ch_i2c (by omega)) ?_
    refine V_cV Y (rV Y (c_X6_says l D kA _ _ _ _ _ _ _ _ _ _ _ (q) hq (by omega) (ch_nar (by omega)) hM) mi_X6_says vi_X6_185 rfl hM.1 rfl rfl (Nat.le_of_ble_eq_true rfl) ⟨Nat.le_of_ble_eq_true rfl, Nat.le_of_ble_eq_true rfl⟩ (Nat.le_of_ble_eq_true rfl) (Nat.le_of_ble_eq_true rfl) dX6_saysNumber_38) (fun q hq => Or.inl (blk_sub (by omega) (by omega) q hq)) (rfl : _ = 41) (fun H38_19 hq_38 o_38 => ?_)
    have hM := hq_38
    exact V_retV Y.1 dX6_saysNumber_41 (Nat.le_of_ble_eq_true rfl) (Nat.le_of_ble_eq_true rfl) (by rw [dg_9 (by omega)]; exact hM)
  · have w9 : ¬ w ≤ 9 := fun q => c_18 ((nI_leI (b := 9) (by omega) (by decide)).mpr q)
    refine V_aload_n Y.1 1 dX6_saysNumber_21 (rfl : _ = 22) rfl rfl ?_
    refine V_iload_n Y.1 0 dX6_saysNumber_22 (rfl : _ = 23) rfl rfl ?_
    refine V_bipush Y.1 (v := 10) dX6_saysNumber_23 (rfl : _ = 25) (by decide) ?_
    refine V_idiv Y.1 dX6_saysNumber_25 (rfl : _ = 26) (by decide) ?_
    refine V_nm (v := nI (w / 10)) (pk_div (d := 10) (by omega) (by decide) (by decide)) ?_
    refine V_cV Y (rV Y (c_X6_saysNumber_4 l D kA _ _ _ _ _ _ _ _ _ _ (w / 10) (by omega) q hq (by omega) hM) mi_X6_saysNumber vi_X6_192 rfl hM.1 rfl rfl (Nat.le_of_ble_eq_true rfl) ⟨Nat.le_of_ble_eq_true rfl, Nat.le_of_ble_eq_true rfl⟩ (Nat.le_of_ble_eq_true rfl) (Nat.le_of_ble_eq_true rfl) dX6_saysNumber_26) (fun q hq => Or.inl (blk_sub (by omega) (by omega) q hq)) (rfl : _ = 29) (fun H26_28 hq_26 o_26 => ?_)
    have hM := hq_26
    refine V_aload_n Y.1 1 dX6_saysNumber_29 (rfl : _ = 30) rfl rfl ?_
    refine V_bipush Y.1 (v := 48) dX6_saysNumber_30 (rfl : _ = 32) (by decide) ?_
    refine V_iload_n Y.1 0 dX6_saysNumber_32 (rfl : _ = 33) rfl rfl ?_
    refine V_bipush Y.1 (v := 10) dX6_saysNumber_33 (rfl : _ = 35) (by decide) ?_
    refine V_irem Y.1 dX6_saysNumber_35 (rfl : _ = 36) (by decide) ?_
    refine V_nm (v := nI (w % 10)) (r_rem10 (by omega)) ?_
    refine V_iadd Y.1 dX6_saysNumber_36 (rfl : _ = 37) ?_
    refine V_nm (v := nI (48 + w % 10)) (nI_add _ _) ?_
    refine V_i2c Y.1 (v := nI (48 + w % 10)) dX6_saysNumber_37 (rfl : _ = 38) (ch_i2c (by omega)) ?_
    refine V_cV Y (rV Y (c_X6_says l D kA _ _ _ _ _ _ _ _ _ _ _ (q + (dg 4 (w / 10)).length) pk_us (by have := dg_len 4 (w / 10); omega) (ch_nar (by omega)) hM) mi_X6_says vi_X6_185 rfl hM.1 rfl rfl (Nat.le_of_ble_eq_true rfl) ⟨Nat.le_of_ble_eq_true rfl, Nat.le_of_ble_eq_true rfl⟩ (Nat.le_of_ble_eq_true rfl) (Nat.le_of_ble_eq_true rfl) dX6_saysNumber_38) (fun q hq => Or.inl (blk_sub (by omega) (by omega) q hq)) (rfl : _ = 41) (fun H38_39 hq_38 o_38 => ?_)
    have hM := hq_38
    exact V_retV Y.1 dX6_saysNumber_41 (Nat.le_of_ble_eq_true rfl) (Nat.le_of_ble_eq_true rfl) (by rw [dg_10 w9, List.length_append, r_put_app]; rw [upd2] at hM; exact hM)

set_option maxRecDepth 100000 in
set_option maxHeartbeats 4000000 in
theorem c_X6_saysNumber_n (l : Launch) (D : va_G) (kA : Nat → ClassId) (H0 : Heap) (o : Nat) (F s b v p u t c : Nat → Int32) (w : Nat) (h0 : 0 < w) (hw : w < 100000) (q : Nat) (hq : F 8 = nI q) (hq2 : q + 6 ≤ 30) (hM : Rs D kA H0 o F s b v p u t c)  : Ct l D kA yX6_saysNumber cX6_saysNumber 3 none 5 112 0 0 H0 [.ref o, .int (-(nI w))] (blk o 8) (pV fun H => Rs D kA H o (upd F 8 (nI (q + (45 :: dg 5 w).length))) s b v p (r_put u q (45 :: dg 5 w)) t c) := by
  refine Ct.of mi_X6_saysNumber (Nat.le_of_ble_eq_true rfl) (ls0 := [(0, _), (1, _)]) rfl ?_
  intro Pp Ee Ss Mm Ar Bl Me Cc Y hs hnm
  refine V_iload_n Y.1 1 dX6_saysNumber_0 (rfl : _ = 1) rfl rfl ?_
  refine V_if_ge Y.1 (tgt := 10) dX6_saysNumber_1 (by decide) (rfl : _ = 4) (fun c_n => absurd c_n (by rw [Int32.le_iff_toInt_le, nI_neg (by omega)]; simp; omega)) (fun _ => ?_)
  refine V_aload_n Y.1 0 dX6_saysNumber_4 (rfl : _ = 5) rfl rfl ?_
  refine V_bipush Y.1 (v := 45) dX6_saysNumber_5 (rfl : _ = 7) (by decide) ?_
  refine V_cV Y (rV Y (c_X6_says l D kA _ _ _ _ _ _ _ _ _ _ 45 (q) hq (by omega) (by rfl) hM) mi_X6_says vi_X6_185 rfl hM.1 rfl rfl (Nat.le_of_ble_eq_true rfl) ⟨Nat.le_of_ble_eq_true rfl, Nat.le_of_ble_eq_true rfl⟩ (Nat.le_of_ble_eq_true rfl) (Nat.le_of_ble_eq_true rfl) dX6_saysNumber_7) (fun q hq => Or.inl (blk_sub (by omega) (by omega) q hq)) (rfl : _ = 10) (fun H7_4 hq_7 o_7 => ?_)
  have hM := hq_7
  refine V_iload_n Y.1 1 dX6_saysNumber_10 (rfl : _ = 11) rfl rfl ?_
  refine V_mabs Y.1 mw_X6_189 (Nat.le_of_ble_eq_true rfl) (Nat.le_of_ble_eq_true rfl) (Nat.le_of_ble_eq_true rfl) (Nat.le_of_ble_eq_true rfl) dX6_saysNumber_11 (rfl : _ = 14) ?_
  refine V_nm (v := nI w) (nI_absN h0 (by omega)) ?_
  refine V_istore_n Y.1 (ls' := [(2, _), (0, _), (1, _)]) dX6_saysNumber_14 (rfl : _ = 15) rfl (by decide) rfl ?_
  refine V_iload_n Y.1 0 dX6_saysNumber_15 (rfl : _ = 16) rfl rfl ?_
  refine V_bipush Y.1 (v := 9) dX6_saysNumber_16 (rfl : _ = 18) (by decide) ?_
  refine V_icmp_le Y.1 (tgt := 29) dX6_saysNumber_18 (by decide) (rfl : _ = 21) (fun c_18 => ?_) (fun c_18 => ?_)
  · have w9 := (nI_leI (b := 9) (by omega) (by decide)).mp c_18
    refine V_aload_n Y.1 1 dX6_saysNumber_29 (rfl : _ = 30) rfl rfl ?_
    refine V_bipush Y.1 (v := 48) dX6_saysNumber_30 (rfl : _ = 32) (by decide) ?_
    refine V_iload_n Y.1 0 dX6_saysNumber_32 (rfl : _ = 33) rfl rfl ?_
    refine V_bipush Y.1 (v := 10) dX6_saysNumber_33 (rfl : _ = 35) (by decide) ?_
    refine V_irem Y.1 dX6_saysNumber_35 (rfl : _ = 36) (by decide) ?_
    refine V_nm (v := nI (w % 10)) (r_rem10 (by omega)) ?_
    refine V_iadd Y.1 dX6_saysNumber_36 (rfl : _ = 37) ?_
    refine V_nm (v := nI (48 + w % 10)) (nI_add _ _) ?_
    refine V_i2c Y.1 (v := nI (48 + w % 10)) dX6_saysNumber_37 (rfl : _ = 38) (ch_i2c (by omega)) ?_
    refine V_cV Y (rV Y (c_X6_says l D kA _ _ _ _ _ _ _ _ _ _ _ (q + 1) pk_us (by omega) (ch_nar (by omega)) hM) mi_X6_says vi_X6_185 rfl hM.1 rfl rfl (Nat.le_of_ble_eq_true rfl) ⟨Nat.le_of_ble_eq_true rfl, Nat.le_of_ble_eq_true rfl⟩ (Nat.le_of_ble_eq_true rfl) (Nat.le_of_ble_eq_true rfl) dX6_saysNumber_38) (fun q hq => Or.inl (blk_sub (by omega) (by omega) q hq)) (rfl : _ = 41) (fun H38_23 hq_38 o_38 => ?_)
    have hM := hq_38
    exact V_retV Y.1 dX6_saysNumber_41 (Nat.le_of_ble_eq_true rfl) (Nat.le_of_ble_eq_true rfl) (by rw [dg_9 w9, upd2] at *; exact hM)
  · have w9 : ¬ w ≤ 9 := fun q => c_18 ((nI_leI (b := 9) (by omega) (by decide)).mpr q)
    refine V_aload_n Y.1 1 dX6_saysNumber_21 (rfl : _ = 22) rfl rfl ?_
    refine V_iload_n Y.1 0 dX6_saysNumber_22 (rfl : _ = 23) rfl rfl ?_
    refine V_bipush Y.1 (v := 10) dX6_saysNumber_23 (rfl : _ = 25) (by decide) ?_
    refine V_idiv Y.1 dX6_saysNumber_25 (rfl : _ = 26) (by decide) ?_
    refine V_nm (v := nI (w / 10)) (pk_div (d := 10) (by omega) (by decide) (by decide)) ?_
    refine V_cV Y (rV Y (c_X6_saysNumber_4 l D kA _ _ _ _ _ _ _ _ _ _ (w / 10) (by omega) (q + 1) pk_us (by omega) hM) mi_X6_saysNumber vi_X6_192 rfl hM.1 rfl rfl (Nat.le_of_ble_eq_true rfl) ⟨Nat.le_of_ble_eq_true rfl, Nat.le_of_ble_eq_true rfl⟩ (Nat.le_of_ble_eq_true rfl) (Nat.le_of_ble_eq_true rfl) dX6_saysNumber_26) (fun q hq => Or.inl (blk_sub (by omega) (by omega) q hq)) (rfl : _ = 29) (fun H26_32 hq_26 o_26 => ?_)
    have hM := hq_26
    refine V_aload_n Y.1 1 dX6_saysNumber_29 (rfl : _ = 30) rfl rfl ?_
    refine V_bipush Y.1 (v := 48) dX6_saysNumber_30 (rfl : _ = 32) (by decide) ?_
    refine V_iload_n Y.1 0 dX6_saysNumber_32 (rfl : _ = 33) rfl rfl ?_
    refine V_bipush Y.1 (v := 10) dX6_saysNumber_33 (rfl : _ = 35) (by decide) ?_
    refine V_irem Y.1 dX6_saysNumber_35 (rfl : _ = 36) (by decide) ?_
    refine V_nm (v := nI (w % 10)) (r_rem10 (by omega)) ?_
    refine V_iadd Y.1 dX6_saysNumber_36 (rfl : _ = 37) ?_
    refine V_nm (v := nI (48 + w % 10)) (nI_add _ _) ?_
    refine V_i2c Y.1 (v := nI (48 + w % 10)) dX6_saysNumber_37 (rfl : _ = 38) (ch_i2c (by omega)) ?_
    refine V_cV Y (rV Y (c_X6_says l D kA _ _ _ _ _ _ _ _ _ _ _ (q + 1 + (dg 4 (w / 10)).length) pk_us (by have := dg_len 4 (w / 10); omega) (ch_nar (by omega)) hM) mi_X6_says vi_X6_185 rfl hM.1 rfl rfl (Nat.le_of_ble_eq_true rfl) ⟨Nat.le_of_ble_eq_true rfl, Nat.le_of_ble_eq_true rfl⟩ (Nat.le_of_ble_eq_true rfl) (Nat.le_of_ble_eq_true rfl) dX6_saysNumber_38) (fun q hq => Or.inl (blk_sub (by omega) (by omega) q hq)) (rfl : _ = 41) (fun H38_43 hq_38 o_38 => ?_)
    have hM := hq_38
    exact V_retV Y.1 dX6_saysNumber_41 (Nat.le_of_ble_eq_true rfl) (Nat.le_of_ble_eq_true rfl) (by rw [dg_10 w9]; rw [upd2, upd2] at hM; rw [show (45 :: (dg 4 (w / 10) ++ [nI (48 + w % 10)])).length = 1 + (dg 4 (w / 10)).length + 1 by simp; omega]; show Rs D kA _ o _ s b v p (r_put (upd u q 45) (q + 1) (dg 4 (w / 10) ++ [nI (48 + w % 10)])) t c; rw [r_put_app]; rw [show q + (1 + (dg 4 (w / 10)).length + 1) = q + 1 + (dg 4 (w / 10)).length + 1 by omega]; exact hM)

set_option maxRecDepth 100000 in
set_option maxHeartbeats 4000000 in
theorem c_X6_saysNumber (l : Launch) (D : va_G) (kA : Nat → ClassId) (H0 : Heap) (o : Nat) (F s b v p u t c : Nat → Int32) (x : Int32) (h1 : -100000 < x.toInt) (h2 : x.toInt < 100000) (q : Nat) (hq : F 8 = nI q) (hq2 : q + 6 ≤ 30) (hM : Rs D kA H0 o F s b v p u t c) : Ct l D kA yX6_saysNumber cX6_saysNumber 3 none 5 112 0 0 H0 [.ref o, .int x] (blk o 8) (pV fun H => Rs D kA H o (upd F 8 (nI (q + (sg x).length))) s b v p (r_put u q (sg x)) t c) := by
  by_cases hx : x < 0
  · obtain ⟨w, hw, rfl⟩ : ∃ w : Nat, (0 < w ∧ w < 100000) ∧ x = -(nI w) := by
      rw [Int32.lt_iff_toInt_lt] at hx
      have e0 : (0 : Int32).toInt = 0 := rfl
      rw [e0] at hx
      refine ⟨(-x.toInt).toNat, by omega, ?_⟩
      apply Int32.toInt_inj.mp
      rw [nI_neg (by omega)]
      omega
    rw [sg_neg hw.1 (by omega)]
    exact c_X6_saysNumber_n l D kA H0 o F s b v p u t c w hw.1 hw.2 q hq hq2 hM
  · obtain ⟨w, hw, rfl⟩ := nI_of hx
    rw [nI_toInt hw] at h2
    rw [sg_pos hw]
    exact c_X6_saysNumber_5 l D kA H0 o F s b v p u t c w (by omega) q hq (by omega) hM

set_option maxRecDepth 100000 in
set_option maxHeartbeats 4000000 in
theorem c_X6_renderCard_n (l : Launch) (D : va_G) (kA : Nat → ClassId) (H0 : Heap) (o : Nat) (F s b v p u t c : Nat → Int32) (n t0 : Nat) (x : Int32) (hM : Rs D kA H0 o F s b v p u t c) (hI : RI s n t0) (hb : ∀ i, i < n → -100000 < (ro s i 1).toInt ∧ (ro s i 1).toInt < 100000) (h1 : r_in x 0 (s 0 - 1) = 0) : Ct l D kA yX6_renderCard cX6_renderCard 2 (some .int) 6 134 0 0 H0 [.ref o, .int x] (blk o 8) (pI fun v9 H => v9 = 0 ∧ Rs D kA H o (upd F 6 1) s b v p u t c) := by
  refine Ct.of mi_X6_renderCard (Nat.le_of_ble_eq_true rfl) (ls0 := [(0, _), (1, _)]) rfl ?_
  intro Pp Ee Ss Mm Ar Bl Me Cc Y hs hnm
  refine V_aload_n Y.1 0 dX6_renderCard_0 (rfl : _ = 1) rfl rfl ?_
  refine V_aload_n Y.1 0 dX6_renderCard_1 (rfl : _ = 2) rfl rfl ?_
  refine V_iload_n Y.1 1 dX6_renderCard_2 (rfl : _ = 3) rfl rfl ?_
  refine V_cP Y (rV Y (c_X6_isCard l D kA _ _ _ _ _ _ _ _ _ _ _ hM) mi_X6_isCard vi_X6_113 rfl hM.1 rfl rfl (Nat.le_of_ble_eq_true rfl) ⟨Nat.le_of_ble_eq_true rfl, Nat.le_of_ble_eq_true rfl⟩ (Nat.le_of_ble_eq_true rfl) (Nat.le_of_ble_eq_true rfl) dX6_renderCard_3) (rfl : _ = 6) ?_
  refine V_cI Y (rV Y (c_X6_isThere l D kA _ _ _ _ _ _ _ _ _ _ _ hM (r_in_01 _ _ _)) mi_X6_isThere vi_X6_149 rfl hM.1 rfl rfl (Nat.le_of_ble_eq_true rfl) ⟨Nat.le_of_ble_eq_true rfl, Nat.le_of_ble_eq_true rfl⟩ (Nat.le_of_ble_eq_true rfl) (Nat.le_of_ble_eq_true rfl) dX6_renderCard_6) (fun q hq => Or.inl (blk_sub (by omega) (by omega) q hq)) (rfl : _ = 9) (fun v_6 H6_4 hq_6 o_6 => ?_)
  obtain ⟨rfl, hM⟩ := hq_6
  refine V_if_ne Y.1 (tgt := 14) dX6_renderCard_9 (by decide) (rfl : _ = 12) (fun c_n => absurd h1 c_n) (fun _ => ?_)
  refine V_iconst Y.1 (v := 0) dX6_renderCard_12 (rfl : _ = 13) (by decide) ?_
  exact V_ret Y.1 dX6_renderCard_13 rfl (Nat.le_of_ble_eq_true rfl) (Nat.le_of_ble_eq_true rfl) ⟨rfl, by rw [h1] at hM; exact hM⟩

set_option maxRecDepth 100000 in
set_option maxHeartbeats 4000000 in
theorem c_X6_renderCard_y (l : Launch) (D : va_G) (kA : Nat → ClassId) (H0 : Heap) (o : Nat) (F s b v p u t c : Nat → Int32) (n t0 i : Nat) (hi0 : i < n) (hM : Rs D kA H0 o F s b v p u t c) (hI : RI s n t0) (hb : ∀ i, i < n → -100000 < (ro s i 1).toInt ∧ (ro s i 1).toInt < 100000) (h1 : ¬ r_in (nI i) 0 (s 0 - 1) = 0) : Ct l D kA yX6_renderCard cX6_renderCard 2 (some .int) 6 134 0 0 H0 [.ref o, .int (nI i)] (blk o 8) (pI fun v9 H => v9 = nI (r_card s i).length ∧ Rs D kA H o (upd (upd F 6 0) 8 (nI (r_card s i).length)) s b v p (r_put u 0 (r_card s i)) t c) := by
  refine Ct.of mi_X6_renderCard (Nat.le_of_ble_eq_true rfl) (ls0 := [(0, _), (1, _)]) rfl ?_
  intro Pp Ee Ss Mm Ar Bl Me Cc Y hs hnm
  have hi : i < 8 := by have := hI.2.1; omega
  refine V_aload_n Y.1 0 dX6_renderCard_0 (rfl : _ = 1) rfl rfl ?_
  refine V_aload_n Y.1 0 dX6_renderCard_1 (rfl : _ = 2) rfl rfl ?_
  refine V_iload_n Y.1 1 dX6_renderCard_2 (rfl : _ = 3) rfl rfl ?_
  refine V_cP Y (rV Y (c_X6_isCard l D kA _ _ _ _ _ _ _ _ _ _ _ hM) mi_X6_isCard vi_X6_113 rfl hM.1 rfl rfl (Nat.le_of_ble_eq_true rfl) ⟨Nat.le_of_ble_eq_true rfl, Nat.le_of_ble_eq_true rfl⟩ (Nat.le_of_ble_eq_true rfl) (Nat.le_of_ble_eq_true rfl) dX6_renderCard_3) (rfl : _ = 6) ?_
  refine V_cI Y (rV Y (c_X6_isThere l D kA _ _ _ _ _ _ _ _ _ _ _ hM (r_in_01 _ _ _)) mi_X6_isThere vi_X6_149 rfl hM.1 rfl rfl (Nat.le_of_ble_eq_true rfl) ⟨Nat.le_of_ble_eq_true rfl, Nat.le_of_ble_eq_true rfl⟩ (Nat.le_of_ble_eq_true rfl) (Nat.le_of_ble_eq_true rfl) dX6_renderCard_6) (fun q hq => Or.inl (blk_sub (by omega) (by omega) q hq)) (rfl : _ = 9) (fun v_6 H6_4 hq_6 o_6 => ?_)
  obtain ⟨rfl, hM⟩ := hq_6
  refine V_if_ne Y.1 (tgt := 14) dX6_renderCard_9 (by decide) (rfl : _ = 12) (fun _ => ?_) (fun c_n => absurd c_n h1)
  refine V_aload_n Y.1 0 dX6_renderCard_14 (rfl : _ = 15) rfl rfl ?_
  refine V_iconst Y.1 (v := 0) dX6_renderCard_15 (rfl : _ = 16) (by decide) ?_
  refine V_put Y.1 fi_X6_182 fw_X6 rfl rfl hM.1 (Or.inl ⟨by omega, by omega⟩) rfl rfl (Nat.le_of_ble_eq_true rfl) dX6_renderCard_16 (rfl : _ = 19) (fun H16_9 h_new o_16 => ?_)
  have hM := hM.f8 o_16 h_new
  clear h_new
  refine V_aload_n Y.1 0 dX6_renderCard_19 (rfl : _ = 20) rfl rfl ?_
  refine V_iload_n Y.1 1 dX6_renderCard_20 (rfl : _ = 21) rfl rfl ?_
  refine V_cV Y (rV Y (c_X6_saysNumber l D kA _ _ _ _ _ _ _ _ _ _ _ (by rw [nI_toInt (by omega)]; omega) (by rw [nI_toInt (by omega)]; omega) (0) pk_us (by omega) hM) mi_X6_saysNumber vi_X6_192 rfl hM.1 rfl rfl (Nat.le_of_ble_eq_true rfl) ⟨Nat.le_of_ble_eq_true rfl, Nat.le_of_ble_eq_true rfl⟩ (Nat.le_of_ble_eq_true rfl) (Nat.le_of_ble_eq_true rfl) dX6_renderCard_21) (fun q hq => Or.inl (blk_sub (by omega) (by omega) q hq)) (rfl : _ = 24) (fun H21_14 hq_21 o_21 => ?_)
  have hM := hq_21
  refine V_aload_n Y.1 0 dX6_renderCard_24 (rfl : _ = 25) rfl rfl ?_
  refine V_aload_n Y.1 0 dX6_renderCard_25 (rfl : _ = 26) rfl rfl ?_
  refine V_iload_n Y.1 1 dX6_renderCard_26 (rfl : _ = 27) rfl rfl ?_
  refine V_iconst Y.1 (v := 0) dX6_renderCard_27 (rfl : _ = 28) (by decide) ?_
  refine V_cP Y (rV Y (c_X6_of l D kA _ _ _ _ _ _ _ _ _ _ i hi 0 (by decide) hM) mi_X6_of vi_X6_67 rfl hM.1 rfl rfl (Nat.le_of_ble_eq_true rfl) ⟨Nat.le_of_ble_eq_true rfl, Nat.le_of_ble_eq_true rfl⟩ (Nat.le_of_ble_eq_true rfl) (Nat.le_of_ble_eq_true rfl) dX6_renderCard_28) (rfl : _ = 31) ?_
  refine V_iconst Y.1 (v := 1) dX6_renderCard_31 (rfl : _ = 32) (by decide) ?_
  refine V_icmp_ne Y.1 (tgt := 40) dX6_renderCard_32 (by decide) (rfl : _ = 35) (fun c_32 => ?_) (fun c_32 => ?_)
  · refine V_bipush Y.1 (v := 102) dX6_renderCard_40 (rfl : _ = 42) (by decide) ?_
    refine V_cV Y (rV Y (c_X6_says l D kA _ _ _ _ _ _ _ _ _ _ 102 (0 + (sg (nI i)).length) pk_us (by have := sg_len (nI i); have := sg_len (ro s i 1); omega) (by rfl) hM) mi_X6_says vi_X6_185 rfl hM.1 rfl rfl (Nat.le_of_ble_eq_true rfl) ⟨Nat.le_of_ble_eq_true rfl, Nat.le_of_ble_eq_true rfl⟩ (Nat.le_of_ble_eq_true rfl) (Nat.le_of_ble_eq_true rfl) dX6_renderCard_42) (fun q hq => Or.inl (blk_sub (by omega) (by omega) q hq)) (rfl : _ = 45) (fun H42_24 hq_42 o_42 => ?_)
    have hM := hq_42
    refine V_aload_n Y.1 0 dX6_renderCard_45 (rfl : _ = 46) rfl rfl ?_
    refine V_bipush Y.1 (v := 58) dX6_renderCard_46 (rfl : _ = 48) (by decide) ?_
    refine V_cV Y (rV Y (c_X6_says l D kA _ _ _ _ _ _ _ _ _ _ 58 (0 + (sg (nI i)).length + 1) pk_us (by have := sg_len (nI i); have := sg_len (ro s i 1); omega) (by rfl) hM) mi_X6_says vi_X6_185 rfl hM.1 rfl rfl (Nat.le_of_ble_eq_true rfl) ⟨Nat.le_of_ble_eq_true rfl, Nat.le_of_ble_eq_true rfl⟩ (Nat.le_of_ble_eq_true rfl) (Nat.le_of_ble_eq_true rfl) dX6_renderCard_48) (fun q hq => Or.inl (blk_sub (by omega) (by omega) q hq)) (rfl : _ = 51) (fun H48_28 hq_48 o_48 => ?_)
    have hM := hq_48
    refine V_aload_n Y.1 0 dX6_renderCard_51 (rfl : _ = 52) rfl rfl ?_
    refine V_aload_n Y.1 0 dX6_renderCard_52 (rfl : _ = 53) rfl rfl ?_
    refine V_iload_n Y.1 1 dX6_renderCard_53 (rfl : _ = 54) rfl rfl ?_
    refine V_iconst Y.1 (v := 1) dX6_renderCard_54 (rfl : _ = 55) (by decide) ?_
    refine V_cP Y (rV Y (c_X6_of l D kA _ _ _ _ _ _ _ _ _ _ i hi 1 (by decide) hM) mi_X6_of vi_X6_67 rfl hM.1 rfl rfl (Nat.le_of_ble_eq_true rfl) ⟨Nat.le_of_ble_eq_true rfl, Nat.le_of_ble_eq_true rfl⟩ (Nat.le_of_ble_eq_true rfl) (Nat.le_of_ble_eq_true rfl) dX6_renderCard_55) (rfl : _ = 58) ?_
    refine V_cV Y (rV Y (c_X6_saysNumber l D kA _ _ _ _ _ _ _ _ _ _ _ (hb i hi0).1 (hb i hi0).2 (0 + (sg (nI i)).length + 1 + 1) pk_us (by have := sg_len (nI i); have := sg_len (ro s i 1); omega) hM) mi_X6_saysNumber vi_X6_192 rfl hM.1 rfl rfl (Nat.le_of_ble_eq_true rfl) ⟨Nat.le_of_ble_eq_true rfl, Nat.le_of_ble_eq_true rfl⟩ (Nat.le_of_ble_eq_true rfl) (Nat.le_of_ble_eq_true rfl) dX6_renderCard_58) (fun q hq => Or.inl (blk_sub (by omega) (by omega) q hq)) (rfl : _ = 61) (fun H58_35 hq_58 o_58 => ?_)
    have hM := hq_58
    refine V_aload_n Y.1 0 dX6_renderCard_61 (rfl : _ = 62) rfl rfl ?_
    refine V_iload_n Y.1 1 dX6_renderCard_62 (rfl : _ = 63) rfl rfl ?_
    refine V_iconst Y.1 (v := 2) dX6_renderCard_63 (rfl : _ = 64) (by decide) ?_
    refine V_cP Y (rV Y (c_X6_of l D kA _ _ _ _ _ _ _ _ _ _ i hi 2 (by decide) hM) mi_X6_of vi_X6_67 rfl hM.1 rfl rfl (Nat.le_of_ble_eq_true rfl) ⟨Nat.le_of_ble_eq_true rfl, Nat.le_of_ble_eq_true rfl⟩ (Nat.le_of_ble_eq_true rfl) (Nat.le_of_ble_eq_true rfl) dX6_renderCard_64) (rfl : _ = 67) ?_
    refine V_if_lt Y.1 (tgt := 86) dX6_renderCard_67 (by decide) (rfl : _ = 70) (fun c_67 => ?_) (fun c_67 => ?_)
    · refine V_aload_n Y.1 0 dX6_renderCard_86 (rfl : _ = 87) rfl rfl ?_
      refine V_get Y.1 fi_X6_182 hM.1 rfl dX6_renderCard_87 (rfl : _ = 90) ?_
      have c1 := (r_in_01 (nI i) 0 (s 0 - 1)).resolve_left h1
      have eL : r_card s i = (sg (nI i)) ++ ([102, 58] ++ ((sg (ro s i 1)) ++ [])) := by unfold r_card; rw [if_neg c_32, if_pos c_67]; rfl
      rw [c1, show (1 : Int32) - 1 = 0 from rfl] at hM
      simp only [upd2] at hM
      have hM := Rs.to hM (F1 := upd (upd F 6 0) 8 (nI (r_card s i).length)) (u1 := r_put u 0 (r_card s i)) (by rw [eL]; simp only [List.length_append, List.length_cons, List.length_nil]; congr 2; omega) (by rw [eL]; simp only [r_put_app, r_put, List.length_append, List.length_cons, List.length_nil, Nat.zero_add, Nat.add_assoc, Nat.reduceAdd])
      exact V_ret Y.1 dX6_renderCard_90 rfl (Nat.le_of_ble_eq_true rfl) (Nat.le_of_ble_eq_true rfl) ⟨by show upd _ 8 _ 8 = _; rw [eL, pk_us]; simp only [List.length_append, List.length_cons, List.length_nil]; congr 1; omega, hM⟩
    · obtain ⟨j, hj, ej⟩ := ((hI.2.2.2.2 i hi).1).resolve_left c_67
      refine V_aload_n Y.1 0 dX6_renderCard_70 (rfl : _ = 71) rfl rfl ?_
      refine V_bipush Y.1 (v := 64) dX6_renderCard_71 (rfl : _ = 73) (by decide) ?_
      refine V_cV Y (rV Y (c_X6_says l D kA _ _ _ _ _ _ _ _ _ _ 64 (0 + (sg (nI i)).length + 1 + 1 + (sg (ro s i 1)).length) pk_us (by have := sg_len (nI i); have := sg_len (ro s i 1); omega) (by rfl) hM) mi_X6_says vi_X6_185 rfl hM.1 rfl rfl (Nat.le_of_ble_eq_true rfl) ⟨Nat.le_of_ble_eq_true rfl, Nat.le_of_ble_eq_true rfl⟩ (Nat.le_of_ble_eq_true rfl) (Nat.le_of_ble_eq_true rfl) dX6_renderCard_73) (fun q hq => Or.inl (blk_sub (by omega) (by omega) q hq)) (rfl : _ = 76) (fun H73_48 hq_73 o_73 => ?_)
      have hM := hq_73
      refine V_aload_n Y.1 0 dX6_renderCard_76 (rfl : _ = 77) rfl rfl ?_
      refine V_aload_n Y.1 0 dX6_renderCard_77 (rfl : _ = 78) rfl rfl ?_
      refine V_iload_n Y.1 1 dX6_renderCard_78 (rfl : _ = 79) rfl rfl ?_
      refine V_iconst Y.1 (v := 2) dX6_renderCard_79 (rfl : _ = 80) (by decide) ?_
      refine V_cP Y (rV Y (c_X6_of l D kA _ _ _ _ _ _ _ _ _ _ i hi 2 (by decide) hM) mi_X6_of vi_X6_67 rfl hM.1 rfl rfl (Nat.le_of_ble_eq_true rfl) ⟨Nat.le_of_ble_eq_true rfl, Nat.le_of_ble_eq_true rfl⟩ (Nat.le_of_ble_eq_true rfl) (Nat.le_of_ble_eq_true rfl) dX6_renderCard_80) (rfl : _ = 83) ?_
      refine V_nm (v := nI j) ej ?_
      refine V_cV Y (rV Y (c_X6_saysNumber l D kA _ _ _ _ _ _ _ _ _ _ _ (by rw [nI_toInt (by omega)]; omega) (by rw [nI_toInt (by omega)]; omega) (0 + (sg (nI i)).length + 1 + 1 + (sg (ro s i 1)).length + 1) pk_us (by have := sg_len (nI i); have := sg_len (ro s i 1); omega) hM) mi_X6_saysNumber vi_X6_192 rfl hM.1 rfl rfl (Nat.le_of_ble_eq_true rfl) ⟨Nat.le_of_ble_eq_true rfl, Nat.le_of_ble_eq_true rfl⟩ (Nat.le_of_ble_eq_true rfl) (Nat.le_of_ble_eq_true rfl) dX6_renderCard_83) (fun q hq => Or.inl (blk_sub (by omega) (by omega) q hq)) (rfl : _ = 86) (fun H83_56 hq_83 o_83 => ?_)
      have hM := hq_83
      refine V_aload_n Y.1 0 dX6_renderCard_86 (rfl : _ = 87) rfl rfl ?_
      refine V_get Y.1 fi_X6_182 hM.1 rfl dX6_renderCard_87 (rfl : _ = 90) ?_
      have c1 := (r_in_01 (nI i) 0 (s 0 - 1)).resolve_left h1
      have eL : r_card s i = (sg (nI i)) ++ ([102, 58] ++ ((sg (ro s i 1)) ++ (64 :: sg (nI j)))) := by unfold r_card; rw [if_neg c_32, if_neg c_67, ej]; rfl
      rw [c1, show (1 : Int32) - 1 = 0 from rfl] at hM
      simp only [upd2] at hM
      have hM := Rs.to hM (F1 := upd (upd F 6 0) 8 (nI (r_card s i).length)) (u1 := r_put u 0 (r_card s i)) (by rw [eL]; simp only [List.length_append, List.length_cons, List.length_nil]; congr 2; omega) (by rw [eL]; simp only [r_put_app, r_put, List.length_append, List.length_cons, List.length_nil, Nat.zero_add, Nat.add_assoc, Nat.reduceAdd])
      exact V_ret Y.1 dX6_renderCard_90 rfl (Nat.le_of_ble_eq_true rfl) (Nat.le_of_ble_eq_true rfl) ⟨by show upd _ 8 _ 8 = _; rw [eL, pk_us]; simp only [List.length_append, List.length_cons, List.length_nil]; congr 1; omega, hM⟩
  · refine V_bipush Y.1 (v := 114) dX6_renderCard_35 (rfl : _ = 37) (by decide) ?_
    refine V_goto Y.1 (tgt := 42) dX6_renderCard_37 (by decide) ?_
    refine V_cV Y (rV Y (c_X6_says l D kA _ _ _ _ _ _ _ _ _ _ 114 (0 + (sg (nI i)).length) pk_us (by have := sg_len (nI i); have := sg_len (ro s i 1); omega) (by rfl) hM) mi_X6_says vi_X6_185 rfl hM.1 rfl rfl (Nat.le_of_ble_eq_true rfl) ⟨Nat.le_of_ble_eq_true rfl, Nat.le_of_ble_eq_true rfl⟩ (Nat.le_of_ble_eq_true rfl) (Nat.le_of_ble_eq_true rfl) dX6_renderCard_42) (fun q hq => Or.inl (blk_sub (by omega) (by omega) q hq)) (rfl : _ = 45) (fun H42_63 hq_42 o_42 => ?_)
    have hM := hq_42
    refine V_aload_n Y.1 0 dX6_renderCard_45 (rfl : _ = 46) rfl rfl ?_
    refine V_bipush Y.1 (v := 58) dX6_renderCard_46 (rfl : _ = 48) (by decide) ?_
    refine V_cV Y (rV Y (c_X6_says l D kA _ _ _ _ _ _ _ _ _ _ 58 (0 + (sg (nI i)).length + 1) pk_us (by have := sg_len (nI i); have := sg_len (ro s i 1); omega) (by rfl) hM) mi_X6_says vi_X6_185 rfl hM.1 rfl rfl (Nat.le_of_ble_eq_true rfl) ⟨Nat.le_of_ble_eq_true rfl, Nat.le_of_ble_eq_true rfl⟩ (Nat.le_of_ble_eq_true rfl) (Nat.le_of_ble_eq_true rfl) dX6_renderCard_48) (fun q hq => Or.inl (blk_sub (by omega) (by omega) q hq)) (rfl : _ = 51) (fun H48_67 hq_48 o_48 => ?_)
    have hM := hq_48
    refine V_aload_n Y.1 0 dX6_renderCard_51 (rfl : _ = 52) rfl rfl ?_
    refine V_aload_n Y.1 0 dX6_renderCard_52 (rfl : _ = 53) rfl rfl ?_
    refine V_iload_n Y.1 1 dX6_renderCard_53 (rfl : _ = 54) rfl rfl ?_
    refine V_iconst Y.1 (v := 1) dX6_renderCard_54 (rfl : _ = 55) (by decide) ?_
    refine V_cP Y (rV Y (c_X6_of l D kA _ _ _ _ _ _ _ _ _ _ i hi 1 (by decide) hM) mi_X6_of vi_X6_67 rfl hM.1 rfl rfl (Nat.le_of_ble_eq_true rfl) ⟨Nat.le_of_ble_eq_true rfl, Nat.le_of_ble_eq_true rfl⟩ (Nat.le_of_ble_eq_true rfl) (Nat.le_of_ble_eq_true rfl) dX6_renderCard_55) (rfl : _ = 58) ?_
    refine V_cV Y (rV Y (c_X6_saysNumber l D kA _ _ _ _ _ _ _ _ _ _ _ (hb i hi0).1 (hb i hi0).2 (0 + (sg (nI i)).length + 1 + 1) pk_us (by have := sg_len (nI i); have := sg_len (ro s i 1); omega) hM) mi_X6_saysNumber vi_X6_192 rfl hM.1 rfl rfl (Nat.le_of_ble_eq_true rfl) ⟨Nat.le_of_ble_eq_true rfl, Nat.le_of_ble_eq_true rfl⟩ (Nat.le_of_ble_eq_true rfl) (Nat.le_of_ble_eq_true rfl) dX6_renderCard_58) (fun q hq => Or.inl (blk_sub (by omega) (by omega) q hq)) (rfl : _ = 61) (fun H58_74 hq_58 o_58 => ?_)
    have hM := hq_58
    refine V_aload_n Y.1 0 dX6_renderCard_61 (rfl : _ = 62) rfl rfl ?_
    refine V_iload_n Y.1 1 dX6_renderCard_62 (rfl : _ = 63) rfl rfl ?_
    refine V_iconst Y.1 (v := 2) dX6_renderCard_63 (rfl : _ = 64) (by decide) ?_
    refine V_cP Y (rV Y (c_X6_of l D kA _ _ _ _ _ _ _ _ _ _ i hi 2 (by decide) hM) mi_X6_of vi_X6_67 rfl hM.1 rfl rfl (Nat.le_of_ble_eq_true rfl) ⟨Nat.le_of_ble_eq_true rfl, Nat.le_of_ble_eq_true rfl⟩ (Nat.le_of_ble_eq_true rfl) (Nat.le_of_ble_eq_true rfl) dX6_renderCard_64) (rfl : _ = 67) ?_
    refine V_if_lt Y.1 (tgt := 86) dX6_renderCard_67 (by decide) (rfl : _ = 70) (fun c_67 => ?_) (fun c_67 => ?_)
    · refine V_aload_n Y.1 0 dX6_renderCard_86 (rfl : _ = 87) rfl rfl ?_
      refine V_get Y.1 fi_X6_182 hM.1 rfl dX6_renderCard_87 (rfl : _ = 90) ?_
      have c1 := (r_in_01 (nI i) 0 (s 0 - 1)).resolve_left h1
      have eL : r_card s i = (sg (nI i)) ++ ([114, 58] ++ ((sg (ro s i 1)) ++ [])) := by unfold r_card; rw [if_pos c_32, if_pos c_67]; rfl
      rw [c1, show (1 : Int32) - 1 = 0 from rfl] at hM
      simp only [upd2] at hM
      have hM := Rs.to hM (F1 := upd (upd F 6 0) 8 (nI (r_card s i).length)) (u1 := r_put u 0 (r_card s i)) (by rw [eL]; simp only [List.length_append, List.length_cons, List.length_nil]; congr 2; omega) (by rw [eL]; simp only [r_put_app, r_put, List.length_append, List.length_cons, List.length_nil, Nat.zero_add, Nat.add_assoc, Nat.reduceAdd])
      exact V_ret Y.1 dX6_renderCard_90 rfl (Nat.le_of_ble_eq_true rfl) (Nat.le_of_ble_eq_true rfl) ⟨by show upd _ 8 _ 8 = _; rw [eL, pk_us]; simp only [List.length_append, List.length_cons, List.length_nil]; congr 1; omega, hM⟩
    · obtain ⟨j, hj, ej⟩ := ((hI.2.2.2.2 i hi).1).resolve_left c_67
      refine V_aload_n Y.1 0 dX6_renderCard_70 (rfl : _ = 71) rfl rfl ?_
      refine V_bipush Y.1 (v := 64) dX6_renderCard_71 (rfl : _ = 73) (by decide) ?_
      refine V_cV Y (rV Y (c_X6_says l D kA _ _ _ _ _ _ _ _ _ _ 64 (0 + (sg (nI i)).length + 1 + 1 + (sg (ro s i 1)).length) pk_us (by have := sg_len (nI i); have := sg_len (ro s i 1); omega) (by rfl) hM) mi_X6_says vi_X6_185 rfl hM.1 rfl rfl (Nat.le_of_ble_eq_true rfl) ⟨Nat.le_of_ble_eq_true rfl, Nat.le_of_ble_eq_true rfl⟩ (Nat.le_of_ble_eq_true rfl) (Nat.le_of_ble_eq_true rfl) dX6_renderCard_73) (fun q hq => Or.inl (blk_sub (by omega) (by omega) q hq)) (rfl : _ = 76) (fun H73_87 hq_73 o_73 => ?_)
      have hM := hq_73
      refine V_aload_n Y.1 0 dX6_renderCard_76 (rfl : _ = 77) rfl rfl ?_
      refine V_aload_n Y.1 0 dX6_renderCard_77 (rfl : _ = 78) rfl rfl ?_
      refine V_iload_n Y.1 1 dX6_renderCard_78 (rfl : _ = 79) rfl rfl ?_
      refine V_iconst Y.1 (v := 2) dX6_renderCard_79 (rfl : _ = 80) (by decide) ?_
      refine V_cP Y (rV Y (c_X6_of l D kA _ _ _ _ _ _ _ _ _ _ i hi 2 (by decide) hM) mi_X6_of vi_X6_67 rfl hM.1 rfl rfl (Nat.le_of_ble_eq_true rfl) ⟨Nat.le_of_ble_eq_true rfl, Nat.le_of_ble_eq_true rfl⟩ (Nat.le_of_ble_eq_true rfl) (Nat.le_of_ble_eq_true rfl) dX6_renderCard_80) (rfl : _ = 83) ?_
      refine V_nm (v := nI j) ej ?_
      refine V_cV Y (rV Y (c_X6_saysNumber l D kA _ _ _ _ _ _ _ _ _ _ _ (by rw [nI_toInt (by omega)]; omega) (by rw [nI_toInt (by omega)]; omega) (0 + (sg (nI i)).length + 1 + 1 + (sg (ro s i 1)).length + 1) pk_us (by have := sg_len (nI i); have := sg_len (ro s i 1); omega) hM) mi_X6_saysNumber vi_X6_192 rfl hM.1 rfl rfl (Nat.le_of_ble_eq_true rfl) ⟨Nat.le_of_ble_eq_true rfl, Nat.le_of_ble_eq_true rfl⟩ (Nat.le_of_ble_eq_true rfl) (Nat.le_of_ble_eq_true rfl) dX6_renderCard_83) (fun q hq => Or.inl (blk_sub (by omega) (by omega) q hq)) (rfl : _ = 86) (fun H83_95 hq_83 o_83 => ?_)
      have hM := hq_83
      refine V_aload_n Y.1 0 dX6_renderCard_86 (rfl : _ = 87) rfl rfl ?_
      refine V_get Y.1 fi_X6_182 hM.1 rfl dX6_renderCard_87 (rfl : _ = 90) ?_
      have c1 := (r_in_01 (nI i) 0 (s 0 - 1)).resolve_left h1
      have eL : r_card s i = (sg (nI i)) ++ ([114, 58] ++ ((sg (ro s i 1)) ++ (64 :: sg (nI j)))) := by unfold r_card; rw [if_pos c_32, if_neg c_67, ej]; rfl
      rw [c1, show (1 : Int32) - 1 = 0 from rfl] at hM
      simp only [upd2] at hM
      have hM := Rs.to hM (F1 := upd (upd F 6 0) 8 (nI (r_card s i).length)) (u1 := r_put u 0 (r_card s i)) (by rw [eL]; simp only [List.length_append, List.length_cons, List.length_nil]; congr 2; omega) (by rw [eL]; simp only [r_put_app, r_put, List.length_append, List.length_cons, List.length_nil, Nat.zero_add, Nat.add_assoc, Nat.reduceAdd])
      exact V_ret Y.1 dX6_renderCard_90 rfl (Nat.le_of_ble_eq_true rfl) (Nat.le_of_ble_eq_true rfl) ⟨by show upd _ 8 _ 8 = _; rw [eL, pk_us]; simp only [List.length_append, List.length_cons, List.length_nil]; congr 1; omega, hM⟩

set_option maxRecDepth 100000 in
set_option maxHeartbeats 4000000 in
theorem c_X6_renderZones (l : Launch) (D : va_G) (kA : Nat → ClassId) (H0 : Heap) (o : Nat) (F s b v p u t c : Nat → Int32)  (hM : Rs D kA H0 o F s b v p u t c) (hz : ∀ j, j < 12 → ∃ w, w < 10 ∧ s (9 + j) = nI w) : Ct l D kA yX6_renderZones cX6_renderZones 2 (some .int) 6 134 0 0 H0 [.ref o] (blk o 8) (pI fun v9 H => v9 = nI 12 ∧ Rs D kA H o (upd (upd F 6 0) 8 (nI 12)) s b v p (r_put u 0 (r_zl s 12)) t c) := by
  refine Ct.of mi_X6_renderZones (Nat.le_of_ble_eq_true rfl) (ls0 := [(0, _)]) rfl ?_
  intro Pp Ee Ss Mm Ar Bl Me Cc Y hs hnm
  refine V_aload_n Y.1 0 dX6_renderZones_0 (rfl : _ = 1) rfl rfl ?_
  refine V_iconst Y.1 (v := 0) dX6_renderZones_1 (rfl : _ = 2) (by decide) ?_
  refine V_put Y.1 fi_X6_39 fw_X6 rfl rfl hM.1 (Or.inl ⟨by omega, by omega⟩) rfl rfl (Nat.le_of_ble_eq_true rfl) dX6_renderZones_2 (rfl : _ = 5) (fun H2_2 h_new o_2 => ?_)
  have hM := hM.f6 o_2 h_new
  clear h_new
  refine V_aload_n Y.1 0 dX6_renderZones_5 (rfl : _ = 6) rfl rfl ?_
  refine V_iconst Y.1 (v := 0) dX6_renderZones_6 (rfl : _ = 7) (by decide) ?_
  refine V_put Y.1 fi_X6_182 fw_X6 rfl rfl hM.1 (Or.inl ⟨by omega, by omega⟩) rfl rfl (Nat.le_of_ble_eq_true rfl) dX6_renderZones_7 (rfl : _ = 10) (fun H7_7 h_new o_7 => ?_)
  have hM := hM.f8 o_7 h_new
  clear h_new
  refine V_iconst Y.1 (v := 0) dX6_renderZones_10 (rfl : _ = 11) (by decide) ?_
  refine V_istore_n Y.1 (ls' := [(1, _), (0, _)]) dX6_renderZones_11 (rfl : _ = 12) rfl (by decide) rfl ?_
  have lp : ∀ (r i : Nat) (H : Heap), i + r = 12 → (r_zl s i).length = i → Rs D kA H o (upd (upd F 6 0) 8 (nI i)) s b v p (r_put u 0 (r_zl s i)) t c → V Pp l Ee (rmO 6 134 0 0) Ss Mm Ar Bl Me Cc 2 (AA H0 (blk o 8)) (QC Bl Ar Ss 0 0 H0 (blk o 8) (pI fun v9 H => v9 = nI 12 ∧ Rs D kA H o (upd (upd F 6 0) 8 (nI 12)) s b v p (r_put u 0 (r_zl s 12)) t c)) H 0 0 12 [(1, .int (nI i)), (0, .ref o)] [] := by
    intro r
    induction r with
    | zero =>
      intro i H hi hl hM
      obtain rfl : i = 12 := by omega
      refine V_iload_n Y.1 0 dX6_renderZones_12 (rfl : _ = 13) rfl rfl ?_
      refine V_bipush Y.1 (v := 12) dX6_renderZones_13 (rfl : _ = 15) (by decide) ?_
      refine V_icmp_ge Y.1 (tgt := 37) dX6_renderZones_15 (by decide) (rfl : _ = 18) (fun _ => ?_) (fun c_n => absurd (by simp (disch := omega) only [Int32.lt_iff_toInt_lt, Int32.le_iff_toInt_le, ge_iff_le, gt_iff_lt, nI_toInt, Int32.reduceToInt] ; omega) c_n)
      refine V_aload_n Y.1 1 dX6_renderZones_37 (rfl : _ = 38) rfl rfl ?_
      refine V_get Y.1 fi_X6_182 hM.1 rfl dX6_renderZones_38 (rfl : _ = 41) ?_
      exact V_ret Y.1 dX6_renderZones_41 rfl (Nat.le_of_ble_eq_true rfl) (Nat.le_of_ble_eq_true rfl) ⟨by show upd _ 8 _ 8 = _; rw [pk_us], hM⟩
    | succ r ih =>
      intro i H hi hl hM
      obtain ⟨w, hw, ew⟩ := hz i (by omega)
      have e1 : sg (s (9 + i)) = [nI (48 + w)] := by rw [ew, sg_pos (by omega), dg_9 (by omega), Nat.mod_eq_of_lt hw]
      have e2 : (r_zl s (i + 1)).length = i + 1 := by show (r_zl s i ++ sg (s (9 + i))).length = _; rw [List.length_append, hl, e1]; rfl
      have e3 : r_put (r_put u 0 (r_zl s i)) i (sg (s (9 + i))) = r_put u 0 (r_zl s (i + 1)) := by show _ = r_put u 0 (r_zl s i ++ sg (s (9 + i))); rw [r_put_app, hl, Nat.zero_add]
      refine V_iload_n Y.1 0 dX6_renderZones_12 (rfl : _ = 13) rfl rfl ?_
      refine V_bipush Y.1 (v := 12) dX6_renderZones_13 (rfl : _ = 15) (by decide) ?_
      refine V_icmp_ge Y.1 (tgt := 37) dX6_renderZones_15 (by decide) (rfl : _ = 18) (fun c_n => absurd c_n (by simp (disch := omega) only [Int32.lt_iff_toInt_lt, Int32.le_iff_toInt_le, ge_iff_le, gt_iff_lt, nI_toInt, Int32.reduceToInt] ; omega)) (fun _ => ?_)
      refine V_aload_n Y.1 1 dX6_renderZones_18 (rfl : _ = 19) rfl rfl ?_
      refine V_aload_n Y.1 1 dX6_renderZones_19 (rfl : _ = 20) rfl rfl ?_
      refine V_get Y.1 fi_X6_9 hM.1 rfl dX6_renderZones_20 (rfl : _ = 23) ?_
      refine V_bipush Y.1 (v := 9) dX6_renderZones_23 (rfl : _ = 25) (by decide) ?_
      refine V_iload_n Y.1 0 dX6_renderZones_25 (rfl : _ = 26) rfl rfl ?_
      refine V_iadd Y.1 dX6_renderZones_26 (rfl : _ = 27) ?_
      refine V_nm (v := nI (9 + i)) (nI_add _ _) ?_
      refine V_iald Y.1 (v := s (9 + i)) hM.2.1 (by first | assumption | exact vp_in_nI (by omega) (by omega)) (by rw [nI_clamp (by omega)]) dX6_renderZones_27 (rfl : _ = 28) ?_
      refine V_cV Y (rV Y (c_X6_saysNumber l D kA _ _ _ _ _ _ _ _ _ _ (s (9 + i)) (by rw [ew, nI_toInt (by omega)]; omega) (by rw [ew, nI_toInt (by omega)]; omega) i pk_us (by omega) hM) mi_X6_saysNumber vi_X6_192 rfl hM.1 rfl rfl (Nat.le_of_ble_eq_true rfl) ⟨Nat.le_of_ble_eq_true rfl, Nat.le_of_ble_eq_true rfl⟩ (Nat.le_of_ble_eq_true rfl) (Nat.le_of_ble_eq_true rfl) dX6_renderZones_28) (fun q hq => Or.inl (blk_sub (by omega) (by omega) q hq)) (rfl : _ = 31) (fun H28_11 hq_28 o_28 => ?_)
      have hM := hq_28
      rw [upd2, e3, e1] at hM
      refine V_iinc Y.1 (v := nI (i + 1)) (ls' := [(1, _), (0, _)]) 0 dX6_renderZones_31 (rfl : _ = 34) rfl (nI_1 _) (by decide) rfl ?_
      refine V_goto Y.1 (tgt := 12) dX6_renderZones_34 (by decide) ?_
      exact ih (i + 1) _ (by omega) e2 hM
  exact lp 12 0 _ rfl rfl hM

set_option maxRecDepth 100000 in
set_option maxHeartbeats 4000000 in
theorem c_X6_outputAt (l : Launch) (D : va_G) (kA : Nat → ClassId) (H0 : Heap) (o : Nat) (F s b v p u t c : Nat → Int32) (x : Int32) (q : Nat) (hq : F 8 = nI q) (hq2 : q ≤ 30) (hu : ∀ j, j < q → narrow .char (.int (u j)) = .int (u j)) (hM : Rs D kA H0 o F s b v p u t c)  : Ct l D kA yX6_outputAt cX6_outputAt 2 (some .char) 1 22 0 0 H0 [.ref o, .int x] (blk o 8) (pI fun v9 H => v9 = (g_out F u x).2 ∧ Rs D kA H o (upd F 6 (nI (g_out F u x).1)) s b v p u t c) := by
  refine Ct.of mi_X6_outputAt (Nat.le_of_ble_eq_true rfl) (ls0 := [(0, _), (1, _)]) rfl ?_
  intro Pp Ee Ss Mm Ar Bl Me Cc Y hs hnm
  refine V_aload_n Y.1 0 dX6_outputAt_0 (rfl : _ = 1) rfl rfl ?_
  refine V_iload_n Y.1 1 dX6_outputAt_1 (rfl : _ = 2) rfl rfl ?_
  refine V_iconst Y.1 (v := 0) dX6_outputAt_2 (rfl : _ = 3) (by decide) ?_
  refine V_aload_n Y.1 0 dX6_outputAt_3 (rfl : _ = 4) rfl rfl ?_
  refine V_get Y.1 fi_X6_182 hM.1 rfl dX6_outputAt_4 (rfl : _ = 7) ?_
  refine V_iconst Y.1 (v := 1) dX6_outputAt_7 (rfl : _ = 8) (by decide) ?_
  refine V_isub Y.1 dX6_outputAt_8 (rfl : _ = 9) ?_
  refine V_cP Y (rS Y (c_X6_in l D kA _ _ _ _) mi_X6_in si_X6_51 rfl rfl (Nat.le_of_ble_eq_true rfl) ⟨Nat.le_of_ble_eq_true rfl, Nat.le_of_ble_eq_true rfl⟩ (Nat.le_of_ble_eq_true rfl) (Nat.le_of_ble_eq_true rfl) dX6_outputAt_9) (rfl : _ = 12) ?_
  refine V_cI Y (rV Y (c_X6_isThere l D kA _ _ _ _ _ _ _ _ _ _ _ hM (r_in_01 _ _ _)) mi_X6_isThere vi_X6_149 rfl hM.1 rfl rfl (Nat.le_of_ble_eq_true rfl) ⟨Nat.le_of_ble_eq_true rfl, Nat.le_of_ble_eq_true rfl⟩ (Nat.le_of_ble_eq_true rfl) (Nat.le_of_ble_eq_true rfl) dX6_outputAt_12) (fun q hq => Or.inl (blk_sub (by omega) (by omega) q hq)) (rfl : _ = 15) (fun v_12 H12_8 hq_12 o_12 => ?_)
  obtain ⟨rfl, hM⟩ := hq_12
  refine V_if_eq Y.1 (tgt := 27) dX6_outputAt_15 (by decide) (rfl : _ = 18) (fun c_15 => ?_) (fun c_15 => ?_)
  · rw [c_15] at hM
    have hM := Rs.z (z := 1) hM
    rw [hq] at c_15
    refine V_bipush Y.1 (v := 32) dX6_outputAt_27 (rfl : _ = 29) (by decide) ?_
    exact V_ret Y.1 dX6_outputAt_29 (by rfl) (Nat.le_of_ble_eq_true rfl) (Nat.le_of_ble_eq_true rfl) (g_e rfl hM (by unfold g_out; simp only [*, if_true, if_false, not_true, not_false_iff, reduceIte, ge_iff_le, gt_iff_lt] <;> rfl))
  · have c1 := (r_in_01 _ _ _).resolve_left c_15
    rw [c1] at hM
    have hM := Rs.z (z := 0) hM
    obtain ⟨i, hi, rfl⟩ := r_in_nat (n := q) (by omega) (by rw [← hq]; exact c_15)
    have ei : (nI i).toNatClampNeg = i := nI_clamp (by omega)
    rw [hq] at c_15
    refine V_aload_n Y.1 0 dX6_outputAt_18 (rfl : _ = 19) rfl rfl ?_
    refine V_get Y.1 fi_X6_22 hM.1 rfl dX6_outputAt_19 (rfl : _ = 22) ?_
    refine V_iload_n Y.1 1 dX6_outputAt_22 (rfl : _ = 23) rfl rfl ?_
    refine V_cald Y.1 (v := u i) hM.2.2.2.2.2.1 (by first | assumption | exact vp_in_nI (by omega) (by omega)) (by rw [nI_clamp (by omega)]) dX6_outputAt_23 (rfl : _ = 24) ?_
    refine V_goto Y.1 (tgt := 29) dX6_outputAt_24 (by decide) ?_
    exact V_ret Y.1 dX6_outputAt_29 (hu i hi) (Nat.le_of_ble_eq_true rfl) (Nat.le_of_ble_eq_true rfl) (g_e rfl hM (by unfold g_out; simp only [*, if_true, if_false, not_true, not_false_iff, reduceIte, ge_iff_le, gt_iff_lt] <;> rfl))

