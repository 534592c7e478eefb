set_option maxRecDepth 100000 in
set_option maxHeartbeats 4000000 in
theorem c_X0_init (l : Launch) (D : va_G) (kA : Nat → ClassId) (H0 : Heap) (a : Nat) (fs : List Value) (h0 : hp D H0 a (eO 4 fs)) (hf : fs = [.int 0, .int 0, .int 0, .int 0, .int 0, .int 0, .int 0, .int 0, .int 0, .int 0, .int 0, .int 0, .int 0, .int 0, .null, .null, .null]) (hsz : H0.size = a + 1) : Ct l D kA yX0_init cX0_init 1 none 1 24 2 6 H0 [.ref a] (blk a 3) (pV fun H => Cd D kA H a (fun _ => 0, fun _ => 0, fun _ => 0) none ∧ H.size = a + 3) := by
  refine Ct.of mi_X0_init (Nat.le_of_ble_eq_true rfl) (ls0 := [(0, _)]) rfl ?_
  intro Pp Ee Ss Mm Ar Bl Me Cc Y hs hnm
  subst hf
  have sz : H0.size = H0.size := rfl
  refine V_aload_n Y.1 0 dX0_init_0 (rfl : _ = 1) rfl rfl ?_
  refine V_objInit Y.1 ow_X0_3 dX0_init_1 (rfl : _ = 4) (Nat.le_of_ble_eq_true rfl) (Nat.le_of_ble_eq_true rfl) (Nat.le_of_ble_eq_true rfl) (Nat.le_of_ble_eq_true rfl) ?_
  refine V_aload_n Y.1 0 dX0_init_4 (rfl : _ = 5) rfl rfl ?_
  refine V_iconst Y.1 (v := 3) dX0_init_5 (rfl : _ = 6) (by decide) ?_
  refine V_newI Y.1 (N := 3) ac_int (by decide) (by decide) (Nat.le_of_ble_eq_true rfl) (Nat.le_of_ble_eq_true rfl) (Nat.le_of_ble_eq_true rfl) dX0_init_6 (rfl : _ = 8) (fun H6_4 q_6 eq_6 z_6 h_new o_6 => ?_)
  have e_q6 : q_6 = H0.size := eq_6.trans sz
  have sz : Array.size H6_4 = H0.size + 1 := by rw [z_6, e_q6]
  have h0 := h0.off o_6 id
  have hd := h_new
  obtain rfl : q_6 = a + 1 := by omega
  refine V_putF Y.1 fi_X0_9 fw_X0 rfl (by rw [hnm]; rfl) rfl rfl h0 (Or.inl ⟨by omega, by omega⟩) rfl rfl (Nat.le_of_ble_eq_true rfl) dX0_init_8 (rfl : _ = 11) (fun H8_10 h_new o_8 => ?_)
  have h0 : hp D _ _ (.inr (4, [_, _, _, _, _, _, _, _, _, _, _, _, _, _, _, _, _])) := h_new
  have hd := hd.sto o_8 (by omega)
  have sz : Array.size H8_10 = H0.size + 1 := o_8.1.trans sz
  clear h_new
  refine V_aload_n Y.1 0 dX0_init_11 (rfl : _ = 12) rfl rfl ?_
  refine V_iconst Y.1 (v := 3) dX0_init_12 (rfl : _ = 13) (by decide) ?_
  refine V_newI Y.1 (N := 3) ac_int (by decide) (by decide) (Nat.le_of_ble_eq_true rfl) (Nat.le_of_ble_eq_true rfl) (Nat.le_of_ble_eq_true rfl) dX0_init_13 (rfl : _ = 15) (fun H13_17 q_13 eq_13 z_13 h_new o_13 => ?_)
  have e_q13 : q_13 = H0.size + 1 := eq_13.trans sz
  have sz : Array.size H13_17 = H0.size + 1 + 1 := by rw [z_13, e_q13]
  have h0 := h0.off o_13 id
  have hd := hd.off o_13 id
  have hm := h_new
  have z9 := o_8.1
  obtain rfl : q_13 = a + 2 := by omega
  refine V_putF Y.1 fi_X0_15 fw_X0 rfl (by rw [hnm]; rfl) rfl rfl h0 (Or.inl ⟨by omega, by omega⟩) rfl rfl (Nat.le_of_ble_eq_true rfl) dX0_init_15 (rfl : _ = 18) (fun H15_25 h_new o_15 => ?_)
  have h0 : hp D _ _ (.inr (4, [_, _, _, _, _, _, _, _, _, _, _, _, _, _, _, _, _])) := h_new
  have hd := hd.sto o_15 (by omega)
  have hm := hm.sto o_15 (by omega)
  have sz : Array.size H15_25 = H0.size + 1 + 1 := o_15.1.trans sz
  clear h_new
  exact V_retV Y.1 dX0_init_18 (Nat.le_of_ble_eq_true rfl) (Nat.le_of_ble_eq_true rfl) ⟨⟨h0, hd, hm⟩, by rw [o_15.1, z_13]⟩

set_option maxRecDepth 100000 in
set_option maxHeartbeats 4000000 in
theorem c_X0_startAnew (l : Launch) (D : va_G) (kA : Nat → ClassId) (H0 : Heap) (a : Nat) (κ : KS) (en : Option Nat) (r : Int32) (h : Cd D kA H0 a κ en) (hr : r = 0 ∨ r = 1) : Ct l D kA yX0_startAnew cX0_startAnew 3 none 0 0 0 0 H0 [.ref a, .int r] (blk a 3) (pV fun H => Cd D kA H a (k_anew κ r) none ∧ H.size = H0.size) := by
  refine Ct.of mi_X0_startAnew (Nat.le_of_ble_eq_true rfl) (ls0 := [(0, _), (1, _)]) rfl ?_
  intro Pp Ee Ss Mm Ar Bl Me Cc Y hs hnm
  obtain ⟨h0, hd, hm⟩ := id h
  have sz : H0.size = H0.size := rfl
  refine V_aload_n Y.1 0 dX0_startAnew_0 (rfl : _ = 1) rfl rfl ?_
  refine V_iload_n Y.1 1 dX0_startAnew_1 (rfl : _ = 2) rfl rfl ?_
  refine V_put Y.1 fi_X0_18 fw_X0 rfl rfl h0 (Or.inl ⟨by omega, by omega⟩) (nb_z hr) (fb_z hr) (Nat.le_of_ble_eq_true rfl) dX0_startAnew_2 (rfl : _ = 5) (fun H2_2 h_new o_2 => ?_)
  have h0 : hp D _ _ (.inr (4, [_, _, _, _, _, _, _, _, _, _, _, _, _, _, _, _, _])) := h_new
  have hd := hd.sto o_2 (by omega)
  have hm := hm.sto o_2 (by omega)
  have sz : Array.size H2_2 = H0.size := o_2.1.trans sz
  clear h_new
  refine V_aload_n Y.1 0 dX0_startAnew_5 (rfl : _ = 6) rfl rfl ?_
  refine V_iconst Y.1 (v := 0) dX0_startAnew_6 (rfl : _ = 7) (by decide) ?_
  refine V_put Y.1 fi_X0_22 fw_X0 rfl rfl h0 (Or.inl ⟨by omega, by omega⟩) rfl rfl (Nat.le_of_ble_eq_true rfl) dX0_startAnew_7 (rfl : _ = 10) (fun H7_10 h_new o_7 => ?_)
  have h0 : hp D _ _ (.inr (4, [_, _, _, _, _, _, _, _, _, _, _, _, _, _, _, _, _])) := h_new
  have hd := hd.sto o_7 (by omega)
  have hm := hm.sto o_7 (by omega)
  have sz : Array.size H7_10 = H0.size := o_7.1.trans sz
  clear h_new
  refine V_aload_n Y.1 0 dX0_startAnew_10 (rfl : _ = 11) rfl rfl ?_
  refine V_iconst Y.1 (v := 0) dX0_startAnew_11 (rfl : _ = 12) (by decide) ?_
  refine V_put Y.1 fi_X0_26 fw_X0 rfl rfl h0 (Or.inl ⟨by omega, by omega⟩) rfl rfl (Nat.le_of_ble_eq_true rfl) dX0_startAnew_12 (rfl : _ = 15) (fun H12_18 h_new o_12 => ?_)
  have h0 : hp D _ _ (.inr (4, [_, _, _, _, _, _, _, _, _, _, _, _, _, _, _, _, _])) := h_new
  have hd := hd.sto o_12 (by omega)
  have hm := hm.sto o_12 (by omega)
  have sz : Array.size H12_18 = H0.size := o_12.1.trans sz
  clear h_new
  refine V_aload_n Y.1 0 dX0_startAnew_15 (rfl : _ = 16) rfl rfl ?_
  refine V_iconst Y.1 (v := 0) dX0_startAnew_16 (rfl : _ = 17) (by decide) ?_
  refine V_put Y.1 fi_X0_29 fw_X0 rfl rfl h0 (Or.inl ⟨by omega, by omega⟩) rfl rfl (Nat.le_of_ble_eq_true rfl) dX0_startAnew_17 (rfl : _ = 20) (fun H17_26 h_new o_17 => ?_)
  have h0 : hp D _ _ (.inr (4, [_, _, _, _, _, _, _, _, _, _, _, _, _, _, _, _, _])) := h_new
  have hd := hd.sto o_17 (by omega)
  have hm := hm.sto o_17 (by omega)
  have sz : Array.size H17_26 = H0.size := o_17.1.trans sz
  clear h_new
  refine V_aload_n Y.1 0 dX0_startAnew_20 (rfl : _ = 21) rfl rfl ?_
  refine V_iconst Y.1 (v := 0) dX0_startAnew_21 (rfl : _ = 22) (by decide) ?_
  refine V_put Y.1 fi_X0_32 fw_X0 rfl rfl h0 (Or.inl ⟨by omega, by omega⟩) rfl rfl (Nat.le_of_ble_eq_true rfl) dX0_startAnew_22 (rfl : _ = 25) (fun H22_34 h_new o_22 => ?_)
  have h0 : hp D _ _ (.inr (4, [_, _, _, _, _, _, _, _, _, _, _, _, _, _, _, _, _])) := h_new
  have hd := hd.sto o_22 (by omega)
  have hm := hm.sto o_22 (by omega)
  have sz : Array.size H22_34 = H0.size := o_22.1.trans sz
  clear h_new
  refine V_iconst Y.1 (v := 0) dX0_startAnew_25 (rfl : _ = 26) (by decide) ?_
  refine V_istore_n Y.1 (ls' := [(2, _), (0, _), (1, _)]) dX0_startAnew_26 (rfl : _ = 27) rfl (by decide) rfl ?_
  refine V_iload_n Y.1 0 dX0_startAnew_27 (rfl : _ = 28) rfl rfl ?_
  refine V_iconst Y.1 (v := 3) dX0_startAnew_28 (rfl : _ = 29) (by decide) ?_
  refine V_icmp_ge Y.1 (tgt := 45) dX0_startAnew_29 (by decide) (rfl : _ = 32) (fun c_n => absurd c_n (by decide)) (fun _ => ?_)
  refine V_aload_n Y.1 1 dX0_startAnew_32 (rfl : _ = 33) rfl rfl ?_
  refine V_get Y.1 fi_X0_9 h0 rfl dX0_startAnew_33 (rfl : _ = 36) ?_
  refine V_iload_n Y.1 0 dX0_startAnew_36 (rfl : _ = 37) rfl rfl ?_
  refine V_iconst Y.1 (v := -1) dX0_startAnew_37 (rfl : _ = 38) (by decide) ?_
  refine V_iast Y.1 hd (Or.inl ⟨by omega, by omega⟩) (by unfold vp_in; decide) dX0_startAnew_38 (rfl : _ = 39) (fun H38_49 h_new o_38 => ?_)
  have hd := h_new
  have h0 := h0.sto o_38 (by omega)
  have hm := hm.sto o_38 (by omega)
  have sz : Array.size H38_49 = H0.size := o_38.1.trans sz
  clear h_new
  refine V_iinc Y.1 (v := 1) (ls' := [(2, _), (0, _), (1, _)]) 0 dX0_startAnew_39 (rfl : _ = 42) rfl (by decide) (by decide) rfl ?_
  refine V_goto Y.1 (tgt := 27) dX0_startAnew_42 (by decide) ?_
  refine V_iload_n Y.1 0 dX0_startAnew_27 (rfl : _ = 28) rfl rfl ?_
  refine V_iconst Y.1 (v := 3) dX0_startAnew_28 (rfl : _ = 29) (by decide) ?_
  refine V_icmp_ge Y.1 (tgt := 45) dX0_startAnew_29 (by decide) (rfl : _ = 32) (fun c_n => absurd c_n (by decide)) (fun _ => ?_)
  refine V_aload_n Y.1 1 dX0_startAnew_32 (rfl : _ = 33) rfl rfl ?_
  refine V_get Y.1 fi_X0_9 h0 rfl dX0_startAnew_33 (rfl : _ = 36) ?_
  refine V_iload_n Y.1 0 dX0_startAnew_36 (rfl : _ = 37) rfl rfl ?_
  refine V_iconst Y.1 (v := -1) dX0_startAnew_37 (rfl : _ = 38) (by decide) ?_
  refine V_iast Y.1 hd (Or.inl ⟨by omega, by omega⟩) (by unfold vp_in; decide) dX0_startAnew_38 (rfl : _ = 39) (fun H38_64 h_new o_38 => ?_)
  have hd := h_new
  have h0 := h0.sto o_38 (by omega)
  have hm := hm.sto o_38 (by omega)
  have sz : Array.size H38_64 = H0.size := o_38.1.trans sz
  clear h_new
  refine V_iinc Y.1 (v := 2) (ls' := [(2, _), (0, _), (1, _)]) 0 dX0_startAnew_39 (rfl : _ = 42) rfl (by decide) (by decide) rfl ?_
  refine V_goto Y.1 (tgt := 27) dX0_startAnew_42 (by decide) ?_
  refine V_iload_n Y.1 0 dX0_startAnew_27 (rfl : _ = 28) rfl rfl ?_
  refine V_iconst Y.1 (v := 3) dX0_startAnew_28 (rfl : _ = 29) (by decide) ?_
  refine V_icmp_ge Y.1 (tgt := 45) dX0_startAnew_29 (by decide) (rfl : _ = 32) (fun c_n => absurd c_n (by decide)) (fun _ => ?_)
  refine V_aload_n Y.1 1 dX0_startAnew_32 (rfl : _ = 33) rfl rfl ?_
  refine V_get Y.1 fi_X0_9 h0 rfl dX0_startAnew_33 (rfl : _ = 36) ?_
  refine V_iload_n Y.1 0 dX0_startAnew_36 (rfl : _ = 37) rfl rfl ?_
  refine V_iconst Y.1 (v := -1) dX0_startAnew_37 (rfl : _ = 38) (by decide) ?_
  refine V_iast Y.1 hd (Or.inl ⟨by omega, by omega⟩) (by unfold vp_in; decide) dX0_startAnew_38 (rfl : _ = 39) (fun H38_79 h_new o_38 => ?_)
  have hd := h_new
  have h0 := h0.sto o_38 (by omega)
  have hm := hm.sto o_38 (by omega)
  have sz : Array.size H38_79 = H0.size := o_38.1.trans sz
  clear h_new
  refine V_iinc Y.1 (v := 3) (ls' := [(2, _), (0, _), (1, _)]) 0 dX0_startAnew_39 (rfl : _ = 42) rfl (by decide) (by decide) rfl ?_
  refine V_goto Y.1 (tgt := 27) dX0_startAnew_42 (by decide) ?_
  refine V_iload_n Y.1 0 dX0_startAnew_27 (rfl : _ = 28) rfl rfl ?_
  refine V_iconst Y.1 (v := 3) dX0_startAnew_28 (rfl : _ = 29) (by decide) ?_
  refine V_icmp_ge Y.1 (tgt := 45) dX0_startAnew_29 (by decide) (rfl : _ = 32) (fun _ => ?_) (fun c_n => absurd (by decide) c_n)
  refine V_aload_n Y.1 1 dX0_startAnew_45 (rfl : _ = 46) rfl rfl ?_
  refine V_null Y.1 dX0_startAnew_46 (rfl : _ = 47) ?_
  refine V_put Y.1 fi_X0_35 fw_X0 rfl rfl h0 (Or.inl ⟨by omega, by omega⟩) rfl rfl (Nat.le_of_ble_eq_true rfl) dX0_startAnew_47 (rfl : _ = 50) (fun H47_92 h_new o_47 => ?_)
  have h0 : hp D _ _ (.inr (4, [_, _, _, _, _, _, _, _, _, _, _, _, _, _, _, _, _])) := h_new
  have hd := hd.sto o_47 (by omega)
  have hm := hm.sto o_47 (by omega)
  have sz : Array.size H47_92 = H0.size := o_47.1.trans sz
  clear h_new
  exact V_retV Y.1 dX0_startAnew_50 (Nat.le_of_ble_eq_true rfl) (Nat.le_of_ble_eq_true rfl) ⟨⟨h0, hd, hm⟩, sz⟩

set_option maxRecDepth 100000 in
set_option maxHeartbeats 4000000 in
theorem c_X0_copyFrom (l : Launch) (D : va_G) (kA : Nat → ClassId) (H0 : Heap) (a : Nat) (κ : KS) (en : Option Nat) (a1 : Nat) (κ1 : KS) (e1 : Option Nat) (h : Cd D kA H0 a κ en) (g : Cd D kA H0 a1 κ1 e1) (hx : a + 3 ≤ a1 ∨ a1 + 3 ≤ a) (hb : ∀ j, (j = 0 ∨ j = 2 ∨ j = 7 ∨ j = 10) → (κ1.1 j = 0 ∨ κ1.1 j = 1)) : Ct l D kA yX0_copyFrom cX0_copyFrom 2 none 1 48 0 0 H0 [.ref a, .ref a1] (blk a 3) (pV fun H => Cd D kA H a κ1 e1 ∧ H.size = H0.size) := by
  refine Ct.of mi_X0_copyFrom (Nat.le_of_ble_eq_true rfl) (ls0 := [(0, _), (1, _)]) rfl ?_
  intro Pp Ee Ss Mm Ar Bl Me Cc Y hs hnm
  obtain ⟨h0, hd, hm⟩ := id h
  obtain ⟨g0, gd, gm⟩ := id g
  have sz : H0.size = H0.size := rfl
  refine V_aload_n Y.1 0 dX0_copyFrom_0 (rfl : _ = 1) rfl rfl ?_
  refine V_aload_n Y.1 1 dX0_copyFrom_1 (rfl : _ = 2) rfl rfl ?_
  refine V_get Y.1 fi_X0_18 g0 rfl dX0_copyFrom_2 (rfl : _ = 5) ?_
  refine V_put Y.1 fi_X0_18 fw_X0 rfl rfl h0 (Or.inl ⟨by omega, by omega⟩) (nb_z (hb 0 (by decide))) (fb_z (hb 0 (by decide))) (Nat.le_of_ble_eq_true rfl) dX0_copyFrom_5 (rfl : _ = 8) (fun H5_3 h_new o_5 => ?_)
  have h0 : hp D _ _ (.inr (4, [_, _, _, _, _, _, _, _, _, _, _, _, _, _, _, _, _])) := h_new
  have hd := hd.sto o_5 (by omega)
  have hm := hm.sto o_5 (by omega)
  have g0 := g0.sto o_5 (by omega)
  have gd := gd.sto o_5 (by omega)
  have gm := gm.sto o_5 (by omega)
  have sz : Array.size H5_3 = H0.size := o_5.1.trans sz
  clear h_new
  refine V_aload_n Y.1 0 dX0_copyFrom_8 (rfl : _ = 9) rfl rfl ?_
  refine V_aload_n Y.1 1 dX0_copyFrom_9 (rfl : _ = 10) rfl rfl ?_
  refine V_get Y.1 fi_X0_22 g0 rfl dX0_copyFrom_10 (rfl : _ = 13) ?_
  refine V_put Y.1 fi_X0_22 fw_X0 rfl rfl h0 (Or.inl ⟨by omega, by omega⟩) rfl rfl (Nat.le_of_ble_eq_true rfl) dX0_copyFrom_13 (rfl : _ = 16) (fun H13_15 h_new o_13 => ?_)
  have h0 : hp D _ _ (.inr (4, [_, _, _, _, _, _, _, _, _, _, _, _, _, _, _, _, _])) := h_new
  have hd := hd.sto o_13 (by omega)
  have hm := hm.sto o_13 (by omega)
  have g0 := g0.sto o_13 (by omega)
  have gd := gd.sto o_13 (by omega)
  have gm := gm.sto o_13 (by omega)
  have sz : Array.size H13_15 = H0.size := o_13.1.trans sz
  clear h_new
  refine V_aload_n Y.1 0 dX0_copyFrom_16 (rfl : _ = 17) rfl rfl ?_
  refine V_aload_n Y.1 1 dX0_copyFrom_17 (rfl : _ = 18) rfl rfl ?_
  refine V_get Y.1 fi_X0_26 g0 rfl dX0_copyFrom_18 (rfl : _ = 21) ?_
  refine V_put Y.1 fi_X0_26 fw_X0 rfl rfl h0 (Or.inl ⟨by omega, by omega⟩) (nb_z (hb 2 (by decide))) (fb_z (hb 2 (by decide))) (Nat.le_of_ble_eq_true rfl) dX0_copyFrom_21 (rfl : _ = 24) (fun H21_27 h_new o_21 => ?_)
  have h0 : hp D _ _ (.inr (4, [_, _, _, _, _, _, _, _, _, _, _, _, _, _, _, _, _])) := h_new
  have hd := hd.sto o_21 (by omega)
  have hm := hm.sto o_21 (by omega)
  have g0 := g0.sto o_21 (by omega)
  have gd := gd.sto o_21 (by omega)
  have gm := gm.sto o_21 (by omega)
  have sz : Array.size H21_27 = H0.size := o_21.1.trans sz
  clear h_new
  refine V_aload_n Y.1 0 dX0_copyFrom_24 (rfl : _ = 25) rfl rfl ?_
  refine V_aload_n Y.1 1 dX0_copyFrom_25 (rfl : _ = 26) rfl rfl ?_
  refine V_get Y.1 fi_X0_39 g0 rfl dX0_copyFrom_26 (rfl : _ = 29) ?_
  refine V_put Y.1 fi_X0_39 fw_X0 rfl rfl h0 (Or.inl ⟨by omega, by omega⟩) rfl rfl (Nat.le_of_ble_eq_true rfl) dX0_copyFrom_29 (rfl : _ = 32) (fun H29_39 h_new o_29 => ?_)
  have h0 : hp D _ _ (.inr (4, [_, _, _, _, _, _, _, _, _, _, _, _, _, _, _, _, _])) := h_new
  have hd := hd.sto o_29 (by omega)
  have hm := hm.sto o_29 (by omega)
  have g0 := g0.sto o_29 (by omega)
  have gd := gd.sto o_29 (by omega)
  have gm := gm.sto o_29 (by omega)
  have sz : Array.size H29_39 = H0.size := o_29.1.trans sz
  clear h_new
  refine V_aload_n Y.1 0 dX0_copyFrom_32 (rfl : _ = 33) rfl rfl ?_
  refine V_aload_n Y.1 1 dX0_copyFrom_33 (rfl : _ = 34) rfl rfl ?_
  refine V_get Y.1 fi_X0_42 g0 rfl dX0_copyFrom_34 (rfl : _ = 37) ?_
  refine V_put Y.1 fi_X0_42 fw_X0 rfl rfl h0 (Or.inl ⟨by omega, by omega⟩) rfl rfl (Nat.le_of_ble_eq_true rfl) dX0_copyFrom_37 (rfl : _ = 40) (fun H37_51 h_new o_37 => ?_)
  have h0 : hp D _ _ (.inr (4, [_, _, _, _, _, _, _, _, _, _, _, _, _, _, _, _, _])) := h_new
  have hd := hd.sto o_37 (by omega)
  have hm := hm.sto o_37 (by omega)
  have g0 := g0.sto o_37 (by omega)
  have gd := gd.sto o_37 (by omega)
  have gm := gm.sto o_37 (by omega)
  have sz : Array.size H37_51 = H0.size := o_37.1.trans sz
  clear h_new
  refine V_aload_n Y.1 0 dX0_copyFrom_40 (rfl : _ = 41) rfl rfl ?_
  refine V_aload_n Y.1 1 dX0_copyFrom_41 (rfl : _ = 42) rfl rfl ?_
  refine V_get Y.1 fi_X0_45 g0 rfl dX0_copyFrom_42 (rfl : _ = 45) ?_
  refine V_put Y.1 fi_X0_45 fw_X0 rfl rfl h0 (Or.inl ⟨by omega, by omega⟩) rfl rfl (Nat.le_of_ble_eq_true rfl) dX0_copyFrom_45 (rfl : _ = 48) (fun H45_63 h_new o_45 => ?_)
  have h0 : hp D _ _ (.inr (4, [_, _, _, _, _, _, _, _, _, _, _, _, _, _, _, _, _])) := h_new
  have hd := hd.sto o_45 (by omega)
  have hm := hm.sto o_45 (by omega)
  have g0 := g0.sto o_45 (by omega)
  have gd := gd.sto o_45 (by omega)
  have gm := gm.sto o_45 (by omega)
  have sz : Array.size H45_63 = H0.size := o_45.1.trans sz
  clear h_new
  refine V_aload_n Y.1 0 dX0_copyFrom_48 (rfl : _ = 49) rfl rfl ?_
  refine V_aload_n Y.1 1 dX0_copyFrom_49 (rfl : _ = 50) rfl rfl ?_
  refine V_get Y.1 fi_X0_48 g0 rfl dX0_copyFrom_50 (rfl : _ = 53) ?_
  refine V_put Y.1 fi_X0_48 fw_X0 rfl rfl h0 (Or.inl ⟨by omega, by omega⟩) rfl rfl (Nat.le_of_ble_eq_true rfl) dX0_copyFrom_53 (rfl : _ = 56) (fun H53_75 h_new o_53 => ?_)
  have h0 : hp D _ _ (.inr (4, [_, _, _, _, _, _, _, _, _, _, _, _, _, _, _, _, _])) := h_new
  have hd := hd.sto o_53 (by omega)
  have hm := hm.sto o_53 (by omega)
  have g0 := g0.sto o_53 (by omega)
  have gd := gd.sto o_53 (by omega)
  have gm := gm.sto o_53 (by omega)
  have sz : Array.size H53_75 = H0.size := o_53.1.trans sz
  clear h_new
  refine V_aload_n Y.1 0 dX0_copyFrom_56 (rfl : _ = 57) rfl rfl ?_
  refine V_aload_n Y.1 1 dX0_copyFrom_57 (rfl : _ = 58) rfl rfl ?_
  refine V_get Y.1 fi_X0_29 g0 rfl dX0_copyFrom_58 (rfl : _ = 61) ?_
  refine V_put Y.1 fi_X0_29 fw_X0 rfl rfl h0 (Or.inl ⟨by omega, by omega⟩) (nb_z (hb 7 (by decide))) (fb_z (hb 7 (by decide))) (Nat.le_of_ble_eq_true rfl) dX0_copyFrom_61 (rfl : _ = 64) (fun H61_87 h_new o_61 => ?_)
  have h0 : hp D _ _ (.inr (4, [_, _, _, _, _, _, _, _, _, _, _, _, _, _, _, _, _])) := h_new
  have hd := hd.sto o_61 (by omega)
  have hm := hm.sto o_61 (by omega)
  have g0 := g0.sto o_61 (by omega)
  have gd := gd.sto o_61 (by omega)
  have gm := gm.sto o_61 (by omega)
  have sz : Array.size H61_87 = H0.size := o_61.1.trans sz
  clear h_new
  refine V_aload_n Y.1 0 dX0_copyFrom_64 (rfl : _ = 65) rfl rfl ?_
  refine V_aload_n Y.1 1 dX0_copyFrom_65 (rfl : _ = 66) rfl rfl ?_
  refine V_get Y.1 fi_X0_51 g0 rfl dX0_copyFrom_66 (rfl : _ = 69) ?_
  refine V_put Y.1 fi_X0_51 fw_X0 rfl rfl h0 (Or.inl ⟨by omega, by omega⟩) rfl rfl (Nat.le_of_ble_eq_true rfl) dX0_copyFrom_69 (rfl : _ = 72) (fun H69_99 h_new o_69 => ?_)
  have h0 : hp D _ _ (.inr (4, [_, _, _, _, _, _, _, _, _, _, _, _, _, _, _, _, _])) := h_new
  have hd := hd.sto o_69 (by omega)
  have hm := hm.sto o_69 (by omega)
  have g0 := g0.sto o_69 (by omega)
  have gd := gd.sto o_69 (by omega)
  have gm := gm.sto o_69 (by omega)
  have sz : Array.size H69_99 = H0.size := o_69.1.trans sz
  clear h_new
  refine V_aload_n Y.1 0 dX0_copyFrom_72 (rfl : _ = 73) rfl rfl ?_
  refine V_aload_n Y.1 1 dX0_copyFrom_73 (rfl : _ = 74) rfl rfl ?_
  refine V_get Y.1 fi_X0_54 g0 rfl dX0_copyFrom_74 (rfl : _ = 77) ?_
  refine V_put Y.1 fi_X0_54 fw_X0 rfl rfl h0 (Or.inl ⟨by omega, by omega⟩) rfl rfl (Nat.le_of_ble_eq_true rfl) dX0_copyFrom_77 (rfl : _ = 80) (fun H77_111 h_new o_77 => ?_)
  have h0 : hp D _ _ (.inr (4, [_, _, _, _, _, _, _, _, _, _, _, _, _, _, _, _, _])) := h_new
  have hd := hd.sto o_77 (by omega)
  have hm := hm.sto o_77 (by omega)
  have g0 := g0.sto o_77 (by omega)
  have gd := gd.sto o_77 (by omega)
  have gm := gm.sto o_77 (by omega)
  have sz : Array.size H77_111 = H0.size := o_77.1.trans sz
  clear h_new
  refine V_aload_n Y.1 0 dX0_copyFrom_80 (rfl : _ = 81) rfl rfl ?_
  refine V_aload_n Y.1 1 dX0_copyFrom_81 (rfl : _ = 82) rfl rfl ?_
  refine V_get Y.1 fi_X0_32 g0 rfl dX0_copyFrom_82 (rfl : _ = 85) ?_
  refine V_put Y.1 fi_X0_32 fw_X0 rfl rfl h0 (Or.inl ⟨by omega, by omega⟩) (nb_z (hb 10 (by decide))) (fb_z (hb 10 (by decide))) (Nat.le_of_ble_eq_true rfl) dX0_copyFrom_85 (rfl : _ = 88) (fun H85_123 h_new o_85 => ?_)
  have h0 : hp D _ _ (.inr (4, [_, _, _, _, _, _, _, _, _, _, _, _, _, _, _, _, _])) := h_new
  have hd := hd.sto o_85 (by omega)
  have hm := hm.sto o_85 (by omega)
  have g0 := g0.sto o_85 (by omega)
  have gd := gd.sto o_85 (by omega)
  have gm := gm.sto o_85 (by omega)
  have sz : Array.size H85_123 = H0.size := o_85.1.trans sz
  clear h_new
  refine V_aload_n Y.1 0 dX0_copyFrom_88 (rfl : _ = 89) rfl rfl ?_
  refine V_aload_n Y.1 1 dX0_copyFrom_89 (rfl : _ = 90) rfl rfl ?_
  refine V_get Y.1 fi_X0_57 g0 rfl dX0_copyFrom_90 (rfl : _ = 93) ?_
  refine V_put Y.1 fi_X0_57 fw_X0 rfl rfl h0 (Or.inl ⟨by omega, by omega⟩) rfl rfl (Nat.le_of_ble_eq_true rfl) dX0_copyFrom_93 (rfl : _ = 96) (fun H93_135 h_new o_93 => ?_)
  have h0 : hp D _ _ (.inr (4, [_, _, _, _, _, _, _, _, _, _, _, _, _, _, _, _, _])) := h_new
  have hd := hd.sto o_93 (by omega)
  have hm := hm.sto o_93 (by omega)
  have g0 := g0.sto o_93 (by omega)
  have gd := gd.sto o_93 (by omega)
  have gm := gm.sto o_93 (by omega)
  have sz : Array.size H93_135 = H0.size := o_93.1.trans sz
  clear h_new
  refine V_aload_n Y.1 0 dX0_copyFrom_96 (rfl : _ = 97) rfl rfl ?_
  refine V_aload_n Y.1 1 dX0_copyFrom_97 (rfl : _ = 98) rfl rfl ?_
  refine V_get Y.1 fi_X0_60 g0 rfl dX0_copyFrom_98 (rfl : _ = 101) ?_
  refine V_put Y.1 fi_X0_60 fw_X0 rfl rfl h0 (Or.inl ⟨by omega, by omega⟩) rfl rfl (Nat.le_of_ble_eq_true rfl) dX0_copyFrom_101 (rfl : _ = 104) (fun H101_147 h_new o_101 => ?_)
  have h0 : hp D _ _ (.inr (4, [_, _, _, _, _, _, _, _, _, _, _, _, _, _, _, _, _])) := h_new
  have hd := hd.sto o_101 (by omega)
  have hm := hm.sto o_101 (by omega)
  have g0 := g0.sto o_101 (by omega)
  have gd := gd.sto o_101 (by omega)
  have gm := gm.sto o_101 (by omega)
  have sz : Array.size H101_147 = H0.size := o_101.1.trans sz
  clear h_new
  refine V_aload_n Y.1 0 dX0_copyFrom_104 (rfl : _ = 105) rfl rfl ?_
  refine V_aload_n Y.1 1 dX0_copyFrom_105 (rfl : _ = 106) rfl rfl ?_
  refine V_get Y.1 fi_X0_63 g0 rfl dX0_copyFrom_106 (rfl : _ = 109) ?_
  refine V_put Y.1 fi_X0_63 fw_X0 rfl rfl h0 (Or.inl ⟨by omega, by omega⟩) rfl rfl (Nat.le_of_ble_eq_true rfl) dX0_copyFrom_109 (rfl : _ = 112) (fun H109_159 h_new o_109 => ?_)
  have h0 : hp D _ _ (.inr (4, [_, _, _, _, _, _, _, _, _, _, _, _, _, _, _, _, _])) := h_new
  have hd := hd.sto o_109 (by omega)
  have hm := hm.sto o_109 (by omega)
  have g0 := g0.sto o_109 (by omega)
  have gd := gd.sto o_109 (by omega)
  have gm := gm.sto o_109 (by omega)
  have sz : Array.size H109_159 = H0.size := o_109.1.trans sz
  clear h_new
  refine V_aload_n Y.1 1 dX0_copyFrom_112 (rfl : _ = 113) rfl rfl ?_
  refine V_get Y.1 fi_X0_9 g0 rfl dX0_copyFrom_113 (rfl : _ = 116) ?_
  refine V_iconst Y.1 (v := 0) dX0_copyFrom_116 (rfl : _ = 117) (by decide) ?_
  refine V_aload_n Y.1 0 dX0_copyFrom_117 (rfl : _ = 118) rfl rfl ?_
  refine V_get Y.1 fi_X0_9 h0 rfl dX0_copyFrom_118 (rfl : _ = 121) ?_
  refine V_iconst Y.1 (v := 0) dX0_copyFrom_121 (rfl : _ = 122) (by decide) ?_
  refine V_iconst Y.1 (v := 3) dX0_copyFrom_122 (rfl : _ = 123) (by decide) ?_
  refine V_copy Y.1 aw_X0_66 (sp := 0) (dp := 0) (N := 3) gd hd rfl rfl (Or.inl ⟨by omega, by omega⟩) rfl rfl rfl (by omega) (by omega) (by omega) (by omega) (fun _ _ => rfl) (Nat.le_of_ble_eq_true rfl) (Nat.le_of_ble_eq_true rfl) dX0_copyFrom_123 (rfl : _ = 126) (fun H123_175 h_new o_123 => ?_)
  have hd := h_new
  have h0 := h0.sto o_123 (by omega)
  have hm := hm.sto o_123 (by omega)
  have g0 := g0.sto o_123 (by omega)
  have gd := gd.sto o_123 (by omega)
  have gm := gm.sto o_123 (by omega)
  have sz : Array.size H123_175 = H0.size := o_123.1.trans sz
  clear h_new
  refine V_aload_n Y.1 1 dX0_copyFrom_126 (rfl : _ = 127) rfl rfl ?_
  refine V_get Y.1 fi_X0_15 g0 rfl dX0_copyFrom_127 (rfl : _ = 130) ?_
  refine V_iconst Y.1 (v := 0) dX0_copyFrom_130 (rfl : _ = 131) (by decide) ?_
  refine V_aload_n Y.1 0 dX0_copyFrom_131 (rfl : _ = 132) rfl rfl ?_
  refine V_get Y.1 fi_X0_15 h0 rfl dX0_copyFrom_132 (rfl : _ = 135) ?_
  refine V_iconst Y.1 (v := 0) dX0_copyFrom_135 (rfl : _ = 136) (by decide) ?_
  refine V_iconst Y.1 (v := 3) dX0_copyFrom_136 (rfl : _ = 137) (by decide) ?_
  refine V_copy Y.1 aw_X0_66 (sp := 0) (dp := 0) (N := 3) gm hm rfl rfl (Or.inl ⟨by omega, by omega⟩) rfl rfl rfl (by omega) (by omega) (by omega) (by omega) (fun _ _ => rfl) (Nat.le_of_ble_eq_true rfl) (Nat.le_of_ble_eq_true rfl) dX0_copyFrom_137 (rfl : _ = 140) (fun H137_191 h_new o_137 => ?_)
  have hm := h_new
  have h0 := h0.sto o_137 (by omega)
  have hd := hd.sto o_137 (by omega)
  have g0 := g0.sto o_137 (by omega)
  have gd := gd.sto o_137 (by omega)
  have gm := gm.sto o_137 (by omega)
  have sz : Array.size H137_191 = H0.size := o_137.1.trans sz
  clear h_new
  refine V_aload_n Y.1 0 dX0_copyFrom_140 (rfl : _ = 141) rfl rfl ?_
  refine V_aload_n Y.1 1 dX0_copyFrom_141 (rfl : _ = 142) rfl rfl ?_
  refine V_get Y.1 fi_X0_35 g0 rfl dX0_copyFrom_142 (rfl : _ = 145) ?_
  refine V_put Y.1 fi_X0_35 fw_X0 rfl rfl h0 (Or.inl ⟨by omega, by omega⟩) (nq_z _) (fq_z _) (Nat.le_of_ble_eq_true rfl) dX0_copyFrom_145 (rfl : _ = 148) (fun H145_203 h_new o_145 => ?_)
  have h0 : hp D _ _ (.inr (4, [_, _, _, _, _, _, _, _, _, _, _, _, _, _, _, _, _])) := h_new
  have hd := hd.sto o_145 (by omega)
  have hm := hm.sto o_145 (by omega)
  have g0 := g0.sto o_145 (by omega)
  have gd := gd.sto o_145 (by omega)
  have gm := gm.sto o_145 (by omega)
  have sz : Array.size H145_203 = H0.size := o_145.1.trans sz
  clear h_new
  exact V_retV Y.1 dX0_copyFrom_148 (Nat.le_of_ble_eq_true rfl) (Nat.le_of_ble_eq_true rfl) ⟨⟨h0, hd.cpy, hm.cpy⟩, by rw [o_145.1, o_137.1, o_123.1, o_109.1, o_101.1, o_93.1, o_85.1, o_77.1, o_69.1, o_61.1, o_53.1, o_45.1, o_37.1, o_29.1, o_21.1, o_13.1, o_5.1]⟩

set_option maxRecDepth 100000 in
set_option maxHeartbeats 4000000 in
theorem c_X0_dailyCap (l : Launch) (D : va_G) (kA : Nat → ClassId) (H0 : Heap) (a : Nat) (κ : KS) (en : Option Nat) (h : Cd D kA H0 a κ en) : Ct l D kA yX0_dailyCap cX0_dailyCap 1 (some .int) 0 0 0 0 H0 [.ref a] (nof) (pI fun v H => v = k_cap κ ∧ H = H0) := by
  refine Ct.of mi_X0_dailyCap (Nat.le_of_ble_eq_true rfl) (ls0 := [(0, _)]) rfl ?_
  intro Pp Ee Ss Mm Ar Bl Me Cc Y hs hnm
  obtain ⟨h0, hd, hm⟩ := id h
  have sz : H0.size = H0.size := rfl
  refine V_aload_n Y.1 0 dX0_dailyCap_0 (rfl : _ = 1) rfl rfl ?_
  refine V_get Y.1 fi_X0_18 h0 rfl dX0_dailyCap_1 (rfl : _ = 4) ?_
  refine V_if_eq Y.1 (tgt := 13) dX0_dailyCap_4 (by decide) (rfl : _ = 7) (fun c_4 => ?_) (fun c_4 => ?_)
  · refine V_sipush Y.1 (v := 700) dX0_dailyCap_13 (rfl : _ = 16) (by decide) ?_
    exact V_ret Y.1 dX0_dailyCap_16 rfl (Nat.le_of_ble_eq_true rfl) (Nat.le_of_ble_eq_true rfl) ⟨by simp [k_cap, *], rfl⟩
  · refine V_sipush Y.1 (v := 350) dX0_dailyCap_7 (rfl : _ = 10) (by decide) ?_
    refine V_goto Y.1 (tgt := 16) dX0_dailyCap_10 (by decide) ?_
    exact V_ret Y.1 dX0_dailyCap_16 rfl (Nat.le_of_ble_eq_true rfl) (Nat.le_of_ble_eq_true rfl) ⟨by simp [k_cap, *], rfl⟩

set_option maxRecDepth 100000 in
set_option maxHeartbeats 4000000 in
theorem c_X0_ownPrice (l : Launch) (D : va_G) (kA : Nat → ClassId) (H0 : Heap) (a : Nat) (κ : KS) (en : Option Nat) (x : Int32) (h : Cd D kA H0 a κ en) : Ct l D kA yX0_ownPrice cX0_ownPrice 2 (some .int) 0 0 0 0 H0 [.ref a, .int x] (nof) (pI fun v H => v = k_price κ x ∧ H = H0) := by
  refine Ct.of mi_X0_ownPrice (Nat.le_of_ble_eq_true rfl) (ls0 := [(0, _), (1, _)]) rfl ?_
  intro Pp Ee Ss Mm Ar Bl Me Cc Y hs hnm
  obtain ⟨h0, hd, hm⟩ := id h
  have sz : H0.size = H0.size := rfl
  refine V_aload_n Y.1 0 dX0_ownPrice_0 (rfl : _ = 1) rfl rfl ?_
  refine V_get Y.1 fi_X0_18 h0 rfl dX0_ownPrice_1 (rfl : _ = 4) ?_
  refine V_if_eq Y.1 (tgt := 13) dX0_ownPrice_4 (by decide) (rfl : _ = 7) (fun c_4 => ?_) (fun c_4 => ?_)
  · refine V_iload_n Y.1 1 dX0_ownPrice_13 (rfl : _ = 14) rfl rfl ?_
    exact V_ret Y.1 dX0_ownPrice_14 rfl (Nat.le_of_ble_eq_true rfl) (Nat.le_of_ble_eq_true rfl) ⟨by simp [k_price, *], rfl⟩
  · refine V_iload_n Y.1 1 dX0_ownPrice_7 (rfl : _ = 8) rfl rfl ?_
    refine V_iconst Y.1 (v := 2) dX0_ownPrice_8 (rfl : _ = 9) (by decide) ?_
    refine V_idiv Y.1 dX0_ownPrice_9 (rfl : _ = 10) (by decide) ?_
    refine V_goto Y.1 (tgt := 14) dX0_ownPrice_10 (by decide) ?_
    exact V_ret Y.1 dX0_ownPrice_14 rfl (Nat.le_of_ble_eq_true rfl) (Nat.le_of_ble_eq_true rfl) ⟨by simp [k_price, *], rfl⟩

set_option maxRecDepth 100000 in
set_option maxHeartbeats 4000000 in
theorem c_X0_sumOf (l : Launch) (D : va_G) (kA : Nat → ClassId) (H0 : Heap) (a : Nat) (κ : KS) (en : Option Nat) (d : Nat) (hdd : d < 2 ^ 31) (h : Cd D kA H0 a κ en) : Ct l D kA yX0_sumOf cX0_sumOf 3 (some .int) 1 22 0 0 H0 [.ref a, .int (nI d)] (nof) (pI fun v H => v = k_sumOf κ d ∧ H = H0) := by
  refine Ct.of mi_X0_sumOf (Nat.le_of_ble_eq_true rfl) (ls0 := [(0, _), (1, _)]) rfl ?_
  intro Pp Ee Ss Mm Ar Bl Me Cc Y hs hnm
  obtain ⟨h0, hd, hm⟩ := id h
  have sz : H0.size = H0.size := rfl
  refine V_iload_n Y.1 1 dX0_sumOf_0 (rfl : _ = 1) rfl rfl ?_
  refine V_iconst Y.1 (v := 3) dX0_sumOf_1 (rfl : _ = 2) (by decide) ?_
  refine V_cP Y (rS Y (c_J9_floorMod_7cf53 l D kA _ d hdd) mi_J9_floorMod_7cf53 si_X0_72 rfl rfl (Nat.le_of_ble_eq_true rfl) ⟨Nat.le_of_ble_eq_true rfl, Nat.le_of_ble_eq_true rfl⟩ (Nat.le_of_ble_eq_true rfl) (Nat.le_of_ble_eq_true rfl) dX0_sumOf_2) (rfl : _ = 5) ?_
  refine V_istore_n Y.1 (ls' := [(2, _), (0, _), (1, _)]) dX0_sumOf_5 (rfl : _ = 6) rfl (by decide) rfl ?_
  refine V_aload_n Y.1 1 dX0_sumOf_6 (rfl : _ = 7) rfl rfl ?_
  refine V_get Y.1 fi_X0_9 h0 rfl dX0_sumOf_7 (rfl : _ = 10) ?_
  refine V_iload_n Y.1 0 dX0_sumOf_10 (rfl : _ = 11) rfl rfl ?_
  refine V_iald Y.1 (v := κ.2.1 (d % 3)) hd (by first | assumption | exact vp_in_nI (by omega) (by omega)) (by rw [nI_clamp (by omega)]) dX0_sumOf_11 (rfl : _ = 12) ?_
  refine V_iload_n Y.1 2 dX0_sumOf_12 (rfl : _ = 13) rfl rfl ?_
  refine V_icmp_ne Y.1 (tgt := 25) dX0_sumOf_13 (by decide) (rfl : _ = 16) (fun c_13 => ?_) (fun c_13 => ?_)
  · refine V_iconst Y.1 (v := 0) dX0_sumOf_25 (rfl : _ = 26) (by decide) ?_
    exact V_ret Y.1 dX0_sumOf_26 rfl (Nat.le_of_ble_eq_true rfl) (Nat.le_of_ble_eq_true rfl) ⟨by simp [k_sumOf, *], rfl⟩
  · refine V_aload_n Y.1 1 dX0_sumOf_16 (rfl : _ = 17) rfl rfl ?_
    refine V_get Y.1 fi_X0_15 h0 rfl dX0_sumOf_17 (rfl : _ = 20) ?_
    refine V_iload_n Y.1 0 dX0_sumOf_20 (rfl : _ = 21) rfl rfl ?_
    refine V_iald Y.1 (v := κ.2.2 (d % 3)) hm (by first | assumption | exact vp_in_nI (by omega) (by omega)) (by rw [nI_clamp (by omega)]) dX0_sumOf_21 (rfl : _ = 22) ?_
    refine V_goto Y.1 (tgt := 26) dX0_sumOf_22 (by decide) ?_
    exact V_ret Y.1 dX0_sumOf_26 rfl (Nat.le_of_ble_eq_true rfl) (Nat.le_of_ble_eq_true rfl) ⟨by simp [k_sumOf, *], rfl⟩

set_option maxRecDepth 100000 in
set_option maxHeartbeats 4000000 in
theorem c_X0_sumOfRecords (l : Launch) (D : va_G) (kA : Nat → ClassId) (H0 : Heap) (a : Nat) (κ : KS) (en : Option Nat) (ES : Nat → Prop) (L : List (Int32 × Int32)) (d : Int32) (h : Cd D kA H0 a κ en) (hc : Chn D H0 ES en L) : Ct l D kA yX0_sumOfRecords cX0_sumOfRecords 4 (some .int) 0 0 0 0 H0 [.ref a, .int d] (nof) (pI fun v H => v = k_recs d L 0 ∧ H = H0) := by
  refine Ct.of mi_X0_sumOfRecords (Nat.le_of_ble_eq_true rfl) (ls0 := [(0, _), (1, _)]) rfl ?_
  intro Pp Ee Ss Mm Ar Bl Me Cc Y hs hnm
  obtain ⟨h0, hd, hm⟩ := id h
  have sz : H0.size = H0.size := rfl
  refine V_iconst Y.1 (v := 0) dX0_sumOfRecords_0 (rfl : _ = 1) (by decide) ?_
  refine V_istore_n Y.1 (ls' := [(2, _), (0, _), (1, _)]) dX0_sumOfRecords_1 (rfl : _ = 2) rfl (by decide) rfl ?_
  refine V_aload_n Y.1 1 dX0_sumOfRecords_2 (rfl : _ = 3) rfl rfl ?_
  refine V_get Y.1 fi_X0_35 h0 rfl dX0_sumOfRecords_3 (rfl : _ = 6) ?_
  refine V_astore_nQ Y.1 (ls' := [(3, _), (2, _), (0, _), (1, _)]) dX0_sumOfRecords_6 (rfl : _ = 7) rfl (by decide) rfl ?_
  have lp : ∀ (L1 : List (Int32 × Int32)) (e1 : Option Nat) (acc : Int32), Chn D H0 ES e1 L1 → k_recs d L1 acc = k_recs d L 0 → V Pp l Ee (rmO 0 0 0 0) Ss Mm Ar Bl Me Cc 4 (AA H0 (nof)) (QC Bl Ar Ss 0 0 H0 (nof) (pI fun v H => v = k_recs d L 0 ∧ H = H0)) H0 0 0 7 [(3, va_rf e1), (2, .int acc), (0, .ref a), (1, .int d)] [] := by
    intro L1
    induction L1 with
    | nil =>
      intro e1 acc h1 h2
      obtain rfl : e1 = none := h1
      refine V_aload_nN Y.1 0 dX0_sumOfRecords_7 (rfl : _ = 8) rfl rfl ?_
      refine V_ifnullN Y.1 (tgt := 34) dX0_sumOfRecords_8 (by decide) ?_
      refine V_iload_n Y.1 1 dX0_sumOfRecords_34 (rfl : _ = 35) rfl rfl ?_
      exact V_ret Y.1 dX0_sumOfRecords_35 rfl (Nat.le_of_ble_eq_true rfl) (Nat.le_of_ble_eq_true rfl) ⟨h2, rfl⟩
    | cons x L1 ih =>
      intro e1 acc h1 h2
      obtain ⟨x1, x2⟩ := x
      obtain ⟨q, r, rfl, hq, he, ht⟩ := h1
      refine V_aload_n Y.1 0 dX0_sumOfRecords_7 (rfl : _ = 8) rfl rfl ?_
      refine V_ifnullR Y.1 dX0_sumOfRecords_8 (rfl : _ = 11) ?_
      refine V_aload_n Y.1 0 dX0_sumOfRecords_11 (rfl : _ = 12) rfl rfl ?_
      refine V_get Y.1 fi_X0_78 he rfl dX0_sumOfRecords_12 (rfl : _ = 15) ?_
      refine V_iload_n Y.1 3 dX0_sumOfRecords_15 (rfl : _ = 16) rfl rfl ?_
      refine V_icmp_ne Y.1 (tgt := 26) dX0_sumOfRecords_16 (by decide) (rfl : _ = 19) (fun c_16 => ?_) (fun c_16 => ?_)
      · refine V_aload_n Y.1 0 dX0_sumOfRecords_26 (rfl : _ = 27) rfl rfl ?_
        refine V_get Y.1 fi_X0_84 he rfl dX0_sumOfRecords_27 (rfl : _ = 30) ?_
        refine V_astore_nQ Y.1 (ls' := [(3, _), (2, _), (0, _), (1, _)]) dX0_sumOfRecords_30 (rfl : _ = 31) rfl (by decide) rfl ?_
        refine V_goto Y.1 (tgt := 7) dX0_sumOfRecords_31 (by decide) ?_
        exact V_forget (ls' := [(3, _), (2, _), (0, _), (1, _)]) [0, 1, 2, 3] rfl (ih r _ ht (by rw [← h2, k_recs, if_neg c_16]))
      · refine V_iload_n Y.1 1 dX0_sumOfRecords_19 (rfl : _ = 20) rfl rfl ?_
        refine V_aload_n Y.1 0 dX0_sumOfRecords_20 (rfl : _ = 21) rfl rfl ?_
        refine V_get Y.1 fi_X0_83 he rfl dX0_sumOfRecords_21 (rfl : _ = 24) ?_
        refine V_iadd Y.1 dX0_sumOfRecords_24 (rfl : _ = 25) ?_
        refine V_istore_n Y.1 (ls' := [(2, _), (3, _), (0, _), (1, _)]) dX0_sumOfRecords_25 (rfl : _ = 26) rfl (by decide) rfl ?_
        refine V_aload_n Y.1 1 dX0_sumOfRecords_26 (rfl : _ = 27) rfl rfl ?_
        refine V_get Y.1 fi_X0_84 he rfl dX0_sumOfRecords_27 (rfl : _ = 30) ?_
        refine V_astore_nQ Y.1 (ls' := [(3, _), (2, _), (0, _), (1, _)]) dX0_sumOfRecords_30 (rfl : _ = 31) rfl (by decide) rfl ?_
        refine V_goto Y.1 (tgt := 7) dX0_sumOfRecords_31 (by decide) ?_
        exact V_forget (ls' := [(3, _), (2, _), (0, _), (1, _)]) [0, 1, 2, 3] rfl (ih r _ ht (by rw [← h2, k_recs, if_pos c_16]))
  exact lp L en 0 hc rfl

set_option maxRecDepth 100000 in
set_option maxHeartbeats 4000000 in
theorem c_X0_leftOn (l : Launch) (D : va_G) (kA : Nat → ClassId) (H0 : Heap) (a : Nat) (κ : KS) (en : Option Nat) (d : Nat) (hdd : d < 2 ^ 31) (h : Cd D kA H0 a κ en) : Ct l D kA yX0_leftOn cX0_leftOn 2 (some .int) 2 44 0 0 H0 [.ref a, .int (nI d)] (nof) (pI fun v H => v = k_left κ d ∧ H = H0) := by
  refine Ct.of mi_X0_leftOn (Nat.le_of_ble_eq_true rfl) (ls0 := [(0, _), (1, _)]) rfl ?_
  intro Pp Ee Ss Mm Ar Bl Me Cc Y hs hnm
  obtain ⟨h0, hd, hm⟩ := id h
  have sz : H0.size = H0.size := rfl
  refine V_aload_n Y.1 0 dX0_leftOn_0 (rfl : _ = 1) rfl rfl ?_
  refine V_cP Y (rV Y (c_X0_dailyCap l D kA _ a κ en h) mi_X0_dailyCap vi_X0_87 rfl h0 rfl rfl (Nat.le_of_ble_eq_true rfl) ⟨Nat.le_of_ble_eq_true rfl, Nat.le_of_ble_eq_true rfl⟩ (Nat.le_of_ble_eq_true rfl) (Nat.le_of_ble_eq_true rfl) dX0_leftOn_1) (rfl : _ = 4) ?_
  refine V_aload_n Y.1 0 dX0_leftOn_4 (rfl : _ = 5) rfl rfl ?_
  refine V_iload_n Y.1 1 dX0_leftOn_5 (rfl : _ = 6) rfl rfl ?_
  refine V_cP Y (rV Y (c_X0_sumOf l D kA _ a κ en d hdd h) mi_X0_sumOf vi_X0_91 rfl h0 rfl rfl (Nat.le_of_ble_eq_true rfl) ⟨Nat.le_of_ble_eq_true rfl, Nat.le_of_ble_eq_true rfl⟩ (Nat.le_of_ble_eq_true rfl) (Nat.le_of_ble_eq_true rfl) dX0_leftOn_6) (rfl : _ = 9) ?_
  refine V_isub Y.1 dX0_leftOn_9 (rfl : _ = 10) ?_
  exact V_ret Y.1 dX0_leftOn_10 rfl (Nat.le_of_ble_eq_true rfl) (Nat.le_of_ble_eq_true rfl) ⟨rfl, rfl⟩

set_option maxRecDepth 100000 in
set_option maxHeartbeats 4000000 in
theorem c_X0_tripEnd (l : Launch) (D : va_G) (kA : Nat → ClassId) (H0 : Heap) (a : Nat) (κ : KS) (en : Option Nat) (h : Cd D kA H0 a κ en) : Ct l D kA yX0_tripEnd cX0_tripEnd 1 (some .int) 0 0 0 0 H0 [.ref a] (nof) (pI fun v H => v = κ.1 4 + 180 ∧ H = H0) := by
  refine Ct.of mi_X0_tripEnd (Nat.le_of_ble_eq_true rfl) (ls0 := [(0, _)]) rfl ?_
  intro Pp Ee Ss Mm Ar Bl Me Cc Y hs hnm
  obtain ⟨h0, hd, hm⟩ := id h
  have sz : H0.size = H0.size := rfl
  refine V_aload_n Y.1 0 dX0_tripEnd_0 (rfl : _ = 1) rfl rfl ?_
  refine V_get Y.1 fi_X0_42 h0 rfl dX0_tripEnd_1 (rfl : _ = 4) ?_
  refine V_sipush Y.1 (v := 180) dX0_tripEnd_4 (rfl : _ = 7) (by decide) ?_
  refine V_iadd Y.1 dX0_tripEnd_7 (rfl : _ = 8) ?_
  exact V_ret Y.1 dX0_tripEnd_8 rfl (Nat.le_of_ble_eq_true rfl) (Nat.le_of_ble_eq_true rfl) ⟨rfl, rfl⟩

set_option maxRecDepth 100000 in
set_option maxHeartbeats 4000000 in
theorem c_X0_continuesAt (l : Launch) (D : va_G) (kA : Nat → ClassId) (H0 : Heap) (a : Nat) (κ : KS) (en : Option Nat) (st mn : Int32) (h : Cd D kA H0 a κ en) : Ct l D kA yX0_continuesAt cX0_continuesAt 3 (some .boolean) 0 0 0 0 H0 [.ref a, .int st, .int mn] (nof) (pI fun v H => v = k_cont κ st mn ∧ H = H0) := by
  refine Ct.of mi_X0_continuesAt (Nat.le_of_ble_eq_true rfl) (ls0 := [(0, _), (1, _), (2, _)]) rfl ?_
  intro Pp Ee Ss Mm Ar Bl Me Cc Y hs hnm
  obtain ⟨h0, hd, hm⟩ := id h
  have sz : H0.size = H0.size := rfl
  refine V_aload_n Y.1 0 dX0_continuesAt_0 (rfl : _ = 1) rfl rfl ?_
  refine V_get Y.1 fi_X0_26 h0 rfl dX0_continuesAt_1 (rfl : _ = 4) ?_
  refine V_if_ne Y.1 (tgt := 37) dX0_continuesAt_4 (by decide) (rfl : _ = 7) (fun c_4 => ?_) (fun c_4 => ?_)
  · refine V_iconst Y.1 (v := 0) dX0_continuesAt_37 (rfl : _ = 38) (by decide) ?_
    exact V_ret Y.1 dX0_continuesAt_38 rfl (Nat.le_of_ble_eq_true rfl) (Nat.le_of_ble_eq_true rfl) ⟨by simp [k_cont, *], rfl⟩
  · refine V_aload_n Y.1 0 dX0_continuesAt_7 (rfl : _ = 8) rfl rfl ?_
    refine V_get Y.1 fi_X0_29 h0 rfl dX0_continuesAt_8 (rfl : _ = 11) ?_
    refine V_if_eq Y.1 (tgt := 37) dX0_continuesAt_11 (by decide) (rfl : _ = 14) (fun c_11 => ?_) (fun c_11 => ?_)
    · refine V_iconst Y.1 (v := 0) dX0_continuesAt_37 (rfl : _ = 38) (by decide) ?_
      exact V_ret Y.1 dX0_continuesAt_38 rfl (Nat.le_of_ble_eq_true rfl) (Nat.le_of_ble_eq_true rfl) ⟨by simp [k_cont, *], rfl⟩
    · refine V_aload_n Y.1 0 dX0_continuesAt_14 (rfl : _ = 15) rfl rfl ?_
      refine V_get Y.1 fi_X0_51 h0 rfl dX0_continuesAt_15 (rfl : _ = 18) ?_
      refine V_iload_n Y.1 1 dX0_continuesAt_18 (rfl : _ = 19) rfl rfl ?_
      refine V_icmp_ne Y.1 (tgt := 37) dX0_continuesAt_19 (by decide) (rfl : _ = 22) (fun c_19 => ?_) (fun c_19 => ?_)
      · refine V_iconst Y.1 (v := 0) dX0_continuesAt_37 (rfl : _ = 38) (by decide) ?_
        exact V_ret Y.1 dX0_continuesAt_38 rfl (Nat.le_of_ble_eq_true rfl) (Nat.le_of_ble_eq_true rfl) ⟨by simp [k_cont, *], rfl⟩
      · refine V_iload_n Y.1 2 dX0_continuesAt_22 (rfl : _ = 23) rfl rfl ?_
        refine V_aload_n Y.1 0 dX0_continuesAt_23 (rfl : _ = 24) rfl rfl ?_
        refine V_get Y.1 fi_X0_54 h0 rfl dX0_continuesAt_24 (rfl : _ = 27) ?_
        refine V_isub Y.1 dX0_continuesAt_27 (rfl : _ = 28) ?_
        refine V_bipush Y.1 (v := 15) dX0_continuesAt_28 (rfl : _ = 30) (by decide) ?_
        refine V_icmp_gt Y.1 (tgt := 37) dX0_continuesAt_30 (by decide) (rfl : _ = 33) (fun c_30 => ?_) (fun c_30 => ?_)
        · refine V_iconst Y.1 (v := 0) dX0_continuesAt_37 (rfl : _ = 38) (by decide) ?_
          exact V_ret Y.1 dX0_continuesAt_38 rfl (Nat.le_of_ble_eq_true rfl) (Nat.le_of_ble_eq_true rfl) ⟨by simp [k_cont, *], rfl⟩
        · refine V_iconst Y.1 (v := 1) dX0_continuesAt_33 (rfl : _ = 34) (by decide) ?_
          refine V_goto Y.1 (tgt := 38) dX0_continuesAt_34 (by decide) ?_
          exact V_ret Y.1 dX0_continuesAt_38 rfl (Nat.le_of_ble_eq_true rfl) (Nat.le_of_ble_eq_true rfl) ⟨by simp [k_cont, *], rfl⟩

set_option maxRecDepth 100000 in
set_option maxHeartbeats 4000000 in
theorem c_X0_tripCharge (l : Launch) (D : va_G) (kA : Nat → ClassId) (H0 : Heap) (a : Nat) (κ : KS) (en : Option Nat) (la : Nat) (z tp : Nat → Int32) (b p : Int32) (j w : Nat) (d : Nat) (hdd : d < 2 ^ 31) (h : Cd D kA H0 a κ en) (hl : Ln D kA H0 la z tp b p) (hj : κ.1 5 = nI j) (hj2 : j < 12) (hw : w < 12) : Ct l D kA yX0_tripCharge cX0_tripCharge 5 (some .int) 3 71 0 0 H0 [.ref a, .ref la, .int (nI w), .int (nI d)] (nof) (pI fun v H => v = k_trip κ z b p j w d ∧ H = H0) := by
  refine Ct.of mi_X0_tripCharge (Nat.le_of_ble_eq_true rfl) (ls0 := [(0, _), (1, _), (2, _), (3, _)]) rfl ?_
  intro Pp Ee Ss Mm Ar Bl Me Cc Y hs hnm
  obtain ⟨h0, hd, hm⟩ := id h
  have sz : H0.size = H0.size := rfl
  refine V_aload_n Y.1 0 dX0_tripCharge_0 (rfl : _ = 1) rfl rfl ?_
  refine V_aload_n Y.1 1 dX0_tripCharge_1 (rfl : _ = 2) rfl rfl ?_
  refine V_aload_n Y.1 0 dX0_tripCharge_2 (rfl : _ = 3) rfl rfl ?_
  refine V_get Y.1 fi_X0_45 h0 rfl dX0_tripCharge_3 (rfl : _ = 6) ?_
  refine V_nm (v := nI j) hj ?_
  refine V_iload_n Y.1 2 dX0_tripCharge_6 (rfl : _ = 7) rfl rfl ?_
  refine V_cP Y (rV Y (c_X2_fullFare l D kA _ la z tp b p j w hj2 hw hl) mi_X2_fullFare vi_X0_95 rfl hl.1 rfl rfl (Nat.le_of_ble_eq_true rfl) ⟨Nat.le_of_ble_eq_true rfl, Nat.le_of_ble_eq_true rfl⟩ (Nat.le_of_ble_eq_true rfl) (Nat.le_of_ble_eq_true rfl) dX0_tripCharge_7) (rfl : _ = 10) ?_
  refine V_cP Y (rV Y (c_X0_ownPrice l D kA _ a κ en _ h) mi_X0_ownPrice vi_X0_100 rfl h0 rfl rfl (Nat.le_of_ble_eq_true rfl) ⟨Nat.le_of_ble_eq_true rfl, Nat.le_of_ble_eq_true rfl⟩ (Nat.le_of_ble_eq_true rfl) (Nat.le_of_ble_eq_true rfl) dX0_tripCharge_10) (rfl : _ = 13) ?_
  refine V_aload_n Y.1 0 dX0_tripCharge_13 (rfl : _ = 14) rfl rfl ?_
  refine V_get Y.1 fi_X0_48 h0 rfl dX0_tripCharge_14 (rfl : _ = 17) ?_
  refine V_isub Y.1 dX0_tripCharge_17 (rfl : _ = 18) ?_
  refine V_istore Y.1 (ls' := [(4, _), (0, _), (1, _), (2, _), (3, _)]) dX0_tripCharge_18 (rfl : _ = 20) (by decide) rfl ?_
  refine V_iload Y.1 0 dX0_tripCharge_20 (rfl : _ = 22) rfl ?_
  refine V_iconst Y.1 (v := 0) dX0_tripCharge_22 (rfl : _ = 23) (by decide) ?_
  refine V_mmax Y.1 mw_X0_103 (Nat.le_of_ble_eq_true rfl) (Nat.le_of_ble_eq_true rfl) (Nat.le_of_ble_eq_true rfl) (Nat.le_of_ble_eq_true rfl) dX0_tripCharge_23 (rfl : _ = 26) ?_
  refine V_aload_n Y.1 1 dX0_tripCharge_26 (rfl : _ = 27) rfl rfl ?_
  refine V_iload_n Y.1 4 dX0_tripCharge_27 (rfl : _ = 28) rfl rfl ?_
  refine V_cP Y (rV Y (c_X0_leftOn l D kA _ a κ en d hdd h) mi_X0_leftOn vi_X0_106 rfl h0 rfl rfl (Nat.le_of_ble_eq_true rfl) ⟨Nat.le_of_ble_eq_true rfl, Nat.le_of_ble_eq_true rfl⟩ (Nat.le_of_ble_eq_true rfl) (Nat.le_of_ble_eq_true rfl) dX0_tripCharge_28) (rfl : _ = 31) ?_
  refine V_mmin Y.1 mw_X0_109 (Nat.le_of_ble_eq_true rfl) (Nat.le_of_ble_eq_true rfl) (Nat.le_of_ble_eq_true rfl) (Nat.le_of_ble_eq_true rfl) dX0_tripCharge_31 (rfl : _ = 34) ?_
  exact V_ret Y.1 dX0_tripCharge_34 rfl (Nat.le_of_ble_eq_true rfl) (Nat.le_of_ble_eq_true rfl) ⟨rfl, rfl⟩

set_option maxRecDepth 100000 in
set_option maxHeartbeats 4000000 in
theorem c_X0_enter (l : Launch) (D : va_G) (kA : Nat → ClassId) (H0 : Heap) (a : Nat) (κ : KS) (en : Option Nat) (x : Int32) (d : Nat) (hdd : d < 2 ^ 31) (h : Cd D kA H0 a κ en) : Ct l D kA yX0_enter cX0_enter 4 none 2 47 1 3 H0 [.ref a, .int (nI d), .int x] (blk a 3) (pV fun H => H.size = H0.size + 1 ∧ Cd D kA H a (k_enter κ d x) (some H0.size) ∧ hp D H H0.size (eO 5 [.int (nI d), .int x, va_rf en])) := by
  refine Ct.of mi_X0_enter (Nat.le_of_ble_eq_true rfl) (ls0 := [(0, _), (1, _), (2, _)]) rfl ?_
  intro Pp Ee Ss Mm Ar Bl Me Cc Y hs hnm
  obtain ⟨h0, hd, hm⟩ := id h
  have sz : H0.size = H0.size := rfl
  refine V_iload_n Y.1 1 dX0_enter_0 (rfl : _ = 1) rfl rfl ?_
  refine V_iconst Y.1 (v := 3) dX0_enter_1 (rfl : _ = 2) (by decide) ?_
  refine V_cP Y (rS Y (c_J9_floorMod_7cf53 l D kA _ d hdd) mi_J9_floorMod_7cf53 si_X0_72 rfl rfl (Nat.le_of_ble_eq_true rfl) ⟨Nat.le_of_ble_eq_true rfl, Nat.le_of_ble_eq_true rfl⟩ (Nat.le_of_ble_eq_true rfl) (Nat.le_of_ble_eq_true rfl) dX0_enter_2) (rfl : _ = 5) ?_
  refine V_istore_n Y.1 (ls' := [(3, _), (0, _), (1, _), (2, _)]) dX0_enter_5 (rfl : _ = 6) rfl (by decide) rfl ?_
  refine V_aload_n Y.1 1 dX0_enter_6 (rfl : _ = 7) rfl rfl ?_
  refine V_get Y.1 fi_X0_9 h0 rfl dX0_enter_7 (rfl : _ = 10) ?_
  refine V_iload_n Y.1 0 dX0_enter_10 (rfl : _ = 11) rfl rfl ?_
  refine V_iald Y.1 (v := κ.2.1 (d % 3)) hd (by first | assumption | exact vp_in_nI (by omega) (by omega)) (by rw [nI_clamp (by omega)]) dX0_enter_11 (rfl : _ = 12) ?_
  refine V_iload_n Y.1 2 dX0_enter_12 (rfl : _ = 13) rfl rfl ?_
  refine V_icmp_eq Y.1 (tgt := 30) dX0_enter_13 (by decide) (rfl : _ = 16) (fun c_13 => ?_) (fun c_13 => ?_)
  · refine V_aload_n Y.1 1 dX0_enter_30 (rfl : _ = 31) rfl rfl ?_
    refine V_get Y.1 fi_X0_15 h0 rfl dX0_enter_31 (rfl : _ = 34) ?_
    refine V_iload_n Y.1 0 dX0_enter_34 (rfl : _ = 35) rfl rfl ?_
    refine V_dup2 Y.1 dX0_enter_35 (rfl : _ = 36) rfl rfl ?_
    refine V_iald Y.1 (v := κ.2.2 (d % 3)) hm (by first | assumption | exact vp_in_nI (by omega) (by omega)) (by rw [nI_clamp (by omega)]) dX0_enter_36 (rfl : _ = 37) ?_
    refine V_iload_n Y.1 3 dX0_enter_37 (rfl : _ = 38) rfl rfl ?_
    refine V_iadd Y.1 dX0_enter_38 (rfl : _ = 39) ?_
    refine V_iast Y.1 hm (Or.inl ⟨by omega, by omega⟩) (by first | assumption | exact vp_in_nI (by omega) (by omega)) dX0_enter_39 (rfl : _ = 40) (fun H39_17 h_new o_39 => ?_)
    have hm := h_new
    have h0 := h0.sto o_39 (by omega)
    have hd := hd.sto o_39 (by omega)
    have sz : Array.size H39_17 = H0.size := o_39.1.trans sz
    clear h_new
    rw [nI_clamp (by omega)] at hm
    refine V_aload_n Y.1 1 dX0_enter_40 (rfl : _ = 41) rfl rfl ?_
    refine V_dup Y.1 dX0_enter_41 (rfl : _ = 42) rfl ?_
    refine V_get Y.1 fi_X0_22 h0 rfl dX0_enter_42 (rfl : _ = 45) ?_
    refine V_iload_n Y.1 3 dX0_enter_45 (rfl : _ = 46) rfl rfl ?_
    refine V_isub Y.1 dX0_enter_46 (rfl : _ = 47) ?_
    refine V_put Y.1 fi_X0_22 fw_X0 rfl rfl h0 (Or.inl ⟨by omega, by omega⟩) rfl rfl (Nat.le_of_ble_eq_true rfl) dX0_enter_47 (rfl : _ = 50) (fun H47_29 h_new o_47 => ?_)
    have h0 : hp D _ _ (.inr (4, [_, _, _, _, _, _, _, _, _, _, _, _, _, _, _, _, _])) := h_new
    have hd := hd.sto o_47 (by omega)
    have hm := hm.sto o_47 (by omega)
    have sz : Array.size H47_29 = H0.size := o_47.1.trans sz
    clear h_new
    refine V_aload_n Y.1 1 dX0_enter_50 (rfl : _ = 51) rfl rfl ?_
    refine V_new Y.1 (ci := 5) (fs := [.int 0, .int 0, .null]) rfl in_X1 tyX1_ok cl_X0_79 inst_X1 ini_X1 (by decide) (Nat.le_of_ble_eq_true rfl) (Nat.le_of_ble_eq_true rfl) dX0_enter_51 (rfl : _ = 54) (fun H51_36 q_51 eq_51 z_51 h_new o_51 => ?_)
    have e_q51 : q_51 = H0.size := eq_51.trans sz
    have sz : Array.size H51_36 = H0.size + 1 := by rw [z_51, e_q51]
    have h0 := h0.off o_51 id
    have hd := hd.off o_51 id
    have hm := hm.off o_51 id
    have he := h_new
    refine V_dup Y.1 dX0_enter_54 (rfl : _ = 55) rfl ?_
    refine V_iload_n Y.1 2 dX0_enter_55 (rfl : _ = 56) rfl rfl ?_
    refine V_iload_n Y.1 3 dX0_enter_56 (rfl : _ = 57) rfl rfl ?_
    refine V_aload_n Y.1 1 dX0_enter_57 (rfl : _ = 58) rfl rfl ?_
    refine V_get Y.1 fi_X0_35 h0 rfl dX0_enter_58 (rfl : _ = 61) ?_
    refine V_cV Y (rI Y (c_X1_init l D kA _ q_51 (nI d) x en _ he rfl) mi_X1_init ii_X0_112 rfl rfl (Nat.le_of_ble_eq_true rfl) ⟨Nat.le_of_ble_eq_true rfl, Nat.le_of_ble_eq_true rfl⟩ (Nat.le_of_ble_eq_true rfl) (Nat.le_of_ble_eq_true rfl) dX0_enter_61) (fun q hq => Or.inr (by have := hq.1; omega)) (rfl : _ = 64) (fun H61_48 hq_61 o_61 => ?_)
    obtain ⟨he, z_61⟩ := hq_61
    have hne : ∀ q, blk a 3 q → ¬ blk q_51 1 q := fun q h1 h2 => by have := h1.2; have := h2.1; have := h.2.2.lt; omega
    have h0 := h0.off o_61 (hne _ ⟨by omega, by omega⟩)
    have hd := hd.off o_61 (hne _ ⟨by omega, by omega⟩)
    have hm := hm.off o_61 (hne _ ⟨by omega, by omega⟩)
    have sz : Array.size H61_48 = H0.size + 1 := z_61.trans sz
    refine V_put Y.1 fi_X0_35 fw_X0 rfl rfl h0 (Or.inl ⟨by omega, by omega⟩) rfl rfl (Nat.le_of_ble_eq_true rfl) dX0_enter_64 (rfl : _ = 67) (fun H64_55 h_new o_64 => ?_)
    have h0 : hp D _ _ (.inr (4, [_, _, _, _, _, _, _, _, _, _, _, _, _, _, _, _, _])) := h_new
    have hd := hd.sto o_64 (by have := h.1.lt; omega)
    have hm := hm.sto o_64 (by have := h.1.lt; omega)
    have he := he.sto o_64 (by have := h.1.lt; omega)
    have sz : Array.size H64_55 = H0.size + 1 := o_64.1.trans sz
    clear h_new
    rw [e_q51] at h0 he
    exact V_retV Y.1 dX0_enter_67 (Nat.le_of_ble_eq_true rfl) (Nat.le_of_ble_eq_true rfl) ⟨sz, ⟨h0, by rw [show (k_enter κ d x).2.1 = _ from if_pos c_13]; exact hd, by rw [show (k_enter κ d x).2.2 = _ from if_pos c_13]; exact hm⟩, he⟩
  · refine V_aload_n Y.1 1 dX0_enter_16 (rfl : _ = 17) rfl rfl ?_
    refine V_get Y.1 fi_X0_9 h0 rfl dX0_enter_17 (rfl : _ = 20) ?_
    refine V_iload_n Y.1 0 dX0_enter_20 (rfl : _ = 21) rfl rfl ?_
    refine V_iload_n Y.1 2 dX0_enter_21 (rfl : _ = 22) rfl rfl ?_
    refine V_iast Y.1 hd (Or.inl ⟨by omega, by omega⟩) (by first | assumption | exact vp_in_nI (by omega) (by omega)) dX0_enter_22 (rfl : _ = 23) (fun H22_67 h_new o_22 => ?_)
    have hd := h_new
    have h0 := h0.sto o_22 (by omega)
    have hm := hm.sto o_22 (by omega)
    have sz : Array.size H22_67 = H0.size := o_22.1.trans sz
    clear h_new
    rw [nI_clamp (by omega)] at hd
    refine V_aload_n Y.1 1 dX0_enter_23 (rfl : _ = 24) rfl rfl ?_
    refine V_get Y.1 fi_X0_15 h0 rfl dX0_enter_24 (rfl : _ = 27) ?_
    refine V_iload_n Y.1 0 dX0_enter_27 (rfl : _ = 28) rfl rfl ?_
    refine V_iconst Y.1 (v := 0) dX0_enter_28 (rfl : _ = 29) (by decide) ?_
    refine V_iast Y.1 hm (Or.inl ⟨by omega, by omega⟩) (by first | assumption | exact vp_in_nI (by omega) (by omega)) dX0_enter_29 (rfl : _ = 30) (fun H29_78 h_new o_29 => ?_)
    have hm := h_new
    have h0 := h0.sto o_29 (by omega)
    have hd := hd.sto o_29 (by omega)
    have sz : Array.size H29_78 = H0.size := o_29.1.trans sz
    clear h_new
    rw [nI_clamp (by omega)] at hm
    refine V_aload_n Y.1 1 dX0_enter_30 (rfl : _ = 31) rfl rfl ?_
    refine V_get Y.1 fi_X0_15 h0 rfl dX0_enter_31 (rfl : _ = 34) ?_
    refine V_iload_n Y.1 0 dX0_enter_34 (rfl : _ = 35) rfl rfl ?_
    refine V_dup2 Y.1 dX0_enter_35 (rfl : _ = 36) rfl rfl ?_
    refine V_iald Y.1 (v := 0) hm (by first | assumption | exact vp_in_nI (by omega) (by omega)) (by rw [nI_clamp (by omega), upd_at]) dX0_enter_36 (rfl : _ = 37) ?_
    refine V_iload_n Y.1 3 dX0_enter_37 (rfl : _ = 38) rfl rfl ?_
    refine V_iadd Y.1 dX0_enter_38 (rfl : _ = 39) ?_
    refine V_iast Y.1 hm (Or.inl ⟨by omega, by omega⟩) (by first | assumption | exact vp_in_nI (by omega) (by omega)) dX0_enter_39 (rfl : _ = 40) (fun H39_92 h_new o_39 => ?_)
    have hm := h_new
    have h0 := h0.sto o_39 (by omega)
    have hd := hd.sto o_39 (by omega)
    have sz : Array.size H39_92 = H0.size := o_39.1.trans sz
    clear h_new
    rw [nI_clamp (by omega)] at hm
    rw [upd2] at hm
    refine V_aload_n Y.1 1 dX0_enter_40 (rfl : _ = 41) rfl rfl ?_
    refine V_dup Y.1 dX0_enter_41 (rfl : _ = 42) rfl ?_
    refine V_get Y.1 fi_X0_22 h0 rfl dX0_enter_42 (rfl : _ = 45) ?_
    refine V_iload_n Y.1 3 dX0_enter_45 (rfl : _ = 46) rfl rfl ?_
    refine V_isub Y.1 dX0_enter_46 (rfl : _ = 47) ?_
    refine V_put Y.1 fi_X0_22 fw_X0 rfl rfl h0 (Or.inl ⟨by omega, by omega⟩) rfl rfl (Nat.le_of_ble_eq_true rfl) dX0_enter_47 (rfl : _ = 50) (fun H47_105 h_new o_47 => ?_)
    have h0 : hp D _ _ (.inr (4, [_, _, _, _, _, _, _, _, _, _, _, _, _, _, _, _, _])) := h_new
    have hd := hd.sto o_47 (by omega)
    have hm := hm.sto o_47 (by omega)
    have sz : Array.size H47_105 = H0.size := o_47.1.trans sz
    clear h_new
    refine V_aload_n Y.1 1 dX0_enter_50 (rfl : _ = 51) rfl rfl ?_
    refine V_new Y.1 (ci := 5) (fs := [.int 0, .int 0, .null]) rfl in_X1 tyX1_ok cl_X0_79 inst_X1 ini_X1 (by decide) (Nat.le_of_ble_eq_true rfl) (Nat.le_of_ble_eq_true rfl) dX0_enter_51 (rfl : _ = 54) (fun H51_112 q_51 eq_51 z_51 h_new o_51 => ?_)
    have e_q51 : q_51 = H0.size := eq_51.trans sz
    have sz : Array.size H51_112 = H0.size + 1 := by rw [z_51, e_q51]
    have h0 := h0.off o_51 id
    have hd := hd.off o_51 id
    have hm := hm.off o_51 id
    have he := h_new
    refine V_dup Y.1 dX0_enter_54 (rfl : _ = 55) rfl ?_
    refine V_iload_n Y.1 2 dX0_enter_55 (rfl : _ = 56) rfl rfl ?_
    refine V_iload_n Y.1 3 dX0_enter_56 (rfl : _ = 57) rfl rfl ?_
    refine V_aload_n Y.1 1 dX0_enter_57 (rfl : _ = 58) rfl rfl ?_
    refine V_get Y.1 fi_X0_35 h0 rfl dX0_enter_58 (rfl : _ = 61) ?_
    refine V_cV Y (rI Y (c_X1_init l D kA _ q_51 (nI d) x en _ he rfl) mi_X1_init ii_X0_112 rfl rfl (Nat.le_of_ble_eq_true rfl) ⟨Nat.le_of_ble_eq_true rfl, Nat.le_of_ble_eq_true rfl⟩ (Nat.le_of_ble_eq_true rfl) (Nat.le_of_ble_eq_true rfl) dX0_enter_61) (fun q hq => Or.inr (by have := hq.1; omega)) (rfl : _ = 64) (fun H61_124 hq_61 o_61 => ?_)
    obtain ⟨he, z_61⟩ := hq_61
    have hne : ∀ q, blk a 3 q → ¬ blk q_51 1 q := fun q h1 h2 => by have := h1.2; have := h2.1; have := h.2.2.lt; omega
    have h0 := h0.off o_61 (hne _ ⟨by omega, by omega⟩)
    have hd := hd.off o_61 (hne _ ⟨by omega, by omega⟩)
    have hm := hm.off o_61 (hne _ ⟨by omega, by omega⟩)
    have sz : Array.size H61_124 = H0.size + 1 := z_61.trans sz
    refine V_put Y.1 fi_X0_35 fw_X0 rfl rfl h0 (Or.inl ⟨by omega, by omega⟩) rfl rfl (Nat.le_of_ble_eq_true rfl) dX0_enter_64 (rfl : _ = 67) (fun H64_131 h_new o_64 => ?_)
    have h0 : hp D _ _ (.inr (4, [_, _, _, _, _, _, _, _, _, _, _, _, _, _, _, _, _])) := h_new
    have hd := hd.sto o_64 (by have := h.1.lt; omega)
    have hm := hm.sto o_64 (by have := h.1.lt; omega)
    have he := he.sto o_64 (by have := h.1.lt; omega)
    have sz : Array.size H64_131 = H0.size + 1 := o_64.1.trans sz
    clear h_new
    rw [e_q51] at h0 he
    exact V_retV Y.1 dX0_enter_67 (Nat.le_of_ble_eq_true rfl) (Nat.le_of_ble_eq_true rfl) ⟨sz, ⟨h0, by rw [show (k_enter κ d x).2.1 = _ from if_neg c_13]; exact hd, by rw [show (k_enter κ d x).2.2 = _ from if_neg c_13]; exact hm⟩, he⟩

set_option maxRecDepth 100000 in
set_option maxHeartbeats 4000000 in
theorem c_X0_beginTrip (l : Launch) (D : va_G) (kA : Nat → ClassId) (H0 : Heap) (a : Nat) (κ : KS) (en : Option Nat) (st mn : Int32) (h : Cd D kA H0 a κ en) : Ct l D kA yX0_beginTrip cX0_beginTrip 4 (some .boolean) 1 22 0 0 H0 [.ref a, .int st, .int mn] (blk a 3) (pI fun v H => v = k_cont κ st mn ∧ Cd D kA H a (k_begin κ st mn) en ∧ H.size = H0.size) := by
  refine Ct.of mi_X0_beginTrip (Nat.le_of_ble_eq_true rfl) (ls0 := [(0, _), (1, _), (2, _)]) rfl ?_
  intro Pp Ee Ss Mm Ar Bl Me Cc Y hs hnm
  obtain ⟨h0, hd, hm⟩ := id h
  have sz : H0.size = H0.size := rfl
  refine V_aload_n Y.1 0 dX0_beginTrip_0 (rfl : _ = 1) rfl rfl ?_
  refine V_iload_n Y.1 1 dX0_beginTrip_1 (rfl : _ = 2) rfl rfl ?_
  refine V_iload_n Y.1 2 dX0_beginTrip_2 (rfl : _ = 3) rfl rfl ?_
  refine V_cP Y (rV Y (c_X0_continuesAt l D kA _ a κ en st mn h) mi_X0_continuesAt vi_X0_115 rfl h0 rfl rfl (Nat.le_of_ble_eq_true rfl) ⟨Nat.le_of_ble_eq_true rfl, Nat.le_of_ble_eq_true rfl⟩ (Nat.le_of_ble_eq_true rfl) (Nat.le_of_ble_eq_true rfl) dX0_beginTrip_3) (rfl : _ = 6) ?_
  refine V_istore_n Y.1 (ls' := [(3, _), (0, _), (1, _), (2, _)]) dX0_beginTrip_6 (rfl : _ = 7) rfl (by decide) rfl ?_
  refine V_iload_n Y.1 0 dX0_beginTrip_7 (rfl : _ = 8) rfl rfl ?_
  refine V_if_ne Y.1 (tgt := 21) dX0_beginTrip_8 (by decide) (rfl : _ = 11) (fun c_8 => ?_) (fun c_8 => ?_)
  · refine V_aload_n Y.1 1 dX0_beginTrip_21 (rfl : _ = 22) rfl rfl ?_
    refine V_iconst Y.1 (v := 1) dX0_beginTrip_22 (rfl : _ = 23) (by decide) ?_
    refine V_put Y.1 fi_X0_26 fw_X0 rfl rfl h0 (Or.inl ⟨by omega, by omega⟩) rfl rfl (Nat.le_of_ble_eq_true rfl) dX0_beginTrip_23 (rfl : _ = 26) (fun H23_9 h_new o_23 => ?_)
    have h0 : hp D _ _ (.inr (4, [_, _, _, _, _, _, _, _, _, _, _, _, _, _, _, _, _])) := h_new
    have hd := hd.sto o_23 (by omega)
    have hm := hm.sto o_23 (by omega)
    have sz : Array.size H23_9 = H0.size := o_23.1.trans sz
    clear h_new
    refine V_aload_n Y.1 1 dX0_beginTrip_26 (rfl : _ = 27) rfl rfl ?_
    refine V_iload_n Y.1 2 dX0_beginTrip_27 (rfl : _ = 28) rfl rfl ?_
    refine V_put Y.1 fi_X0_39 fw_X0 rfl rfl h0 (Or.inl ⟨by omega, by omega⟩) rfl rfl (Nat.le_of_ble_eq_true rfl) dX0_beginTrip_28 (rfl : _ = 31) (fun H28_17 h_new o_28 => ?_)
    have h0 : hp D _ _ (.inr (4, [_, _, _, _, _, _, _, _, _, _, _, _, _, _, _, _, _])) := h_new
    have hd := hd.sto o_28 (by omega)
    have hm := hm.sto o_28 (by omega)
    have sz : Array.size H28_17 = H0.size := o_28.1.trans sz
    clear h_new
    refine V_aload_n Y.1 1 dX0_beginTrip_31 (rfl : _ = 32) rfl rfl ?_
    refine V_iload_n Y.1 3 dX0_beginTrip_32 (rfl : _ = 33) rfl rfl ?_
    refine V_put Y.1 fi_X0_42 fw_X0 rfl rfl h0 (Or.inl ⟨by omega, by omega⟩) rfl rfl (Nat.le_of_ble_eq_true rfl) dX0_beginTrip_33 (rfl : _ = 36) (fun H33_25 h_new o_33 => ?_)
    have h0 : hp D _ _ (.inr (4, [_, _, _, _, _, _, _, _, _, _, _, _, _, _, _, _, _])) := h_new
    have hd := hd.sto o_33 (by omega)
    have hm := hm.sto o_33 (by omega)
    have sz : Array.size H33_25 = H0.size := o_33.1.trans sz
    clear h_new
    refine V_iload_n Y.1 0 dX0_beginTrip_36 (rfl : _ = 37) rfl rfl ?_
    exact V_ret Y.1 dX0_beginTrip_37 (nb_z (by unfold k_cont; split <;> simp)) (Nat.le_of_ble_eq_true rfl) (Nat.le_of_ble_eq_true rfl) ⟨rfl, by rw [k_begin, if_neg c_8]; exact ⟨h0, hd, hm⟩, sz⟩
  · refine V_aload_n Y.1 1 dX0_beginTrip_11 (rfl : _ = 12) rfl rfl ?_
    refine V_iload_n Y.1 2 dX0_beginTrip_12 (rfl : _ = 13) rfl rfl ?_
    refine V_put Y.1 fi_X0_45 fw_X0 rfl rfl h0 (Or.inl ⟨by omega, by omega⟩) rfl rfl (Nat.le_of_ble_eq_true rfl) dX0_beginTrip_13 (rfl : _ = 16) (fun H13_35 h_new o_13 => ?_)
    have h0 : hp D _ _ (.inr (4, [_, _, _, _, _, _, _, _, _, _, _, _, _, _, _, _, _])) := h_new
    have hd := hd.sto o_13 (by omega)
    have hm := hm.sto o_13 (by omega)
    have sz : Array.size H13_35 = H0.size := o_13.1.trans sz
    clear h_new
    refine V_aload_n Y.1 1 dX0_beginTrip_16 (rfl : _ = 17) rfl rfl ?_
    refine V_iconst Y.1 (v := 0) dX0_beginTrip_17 (rfl : _ = 18) (by decide) ?_
    refine V_put Y.1 fi_X0_48 fw_X0 rfl rfl h0 (Or.inl ⟨by omega, by omega⟩) rfl rfl (Nat.le_of_ble_eq_true rfl) dX0_beginTrip_18 (rfl : _ = 21) (fun H18_43 h_new o_18 => ?_)
    have h0 : hp D _ _ (.inr (4, [_, _, _, _, _, _, _, _, _, _, _, _, _, _, _, _, _])) := h_new
    have hd := hd.sto o_18 (by omega)
    have hm := hm.sto o_18 (by omega)
    have sz : Array.size H18_43 = H0.size := o_18.1.trans sz
    clear h_new
    refine V_aload_n Y.1 1 dX0_beginTrip_21 (rfl : _ = 22) rfl rfl ?_
    refine V_iconst Y.1 (v := 1) dX0_beginTrip_22 (rfl : _ = 23) (by decide) ?_
    refine V_put Y.1 fi_X0_26 fw_X0 rfl rfl h0 (Or.inl ⟨by omega, by omega⟩) rfl rfl (Nat.le_of_ble_eq_true rfl) dX0_beginTrip_23 (rfl : _ = 26) (fun H23_51 h_new o_23 => ?_)
    have h0 : hp D _ _ (.inr (4, [_, _, _, _, _, _, _, _, _, _, _, _, _, _, _, _, _])) := h_new
    have hd := hd.sto o_23 (by omega)
    have hm := hm.sto o_23 (by omega)
    have sz : Array.size H23_51 = H0.size := o_23.1.trans sz
    clear h_new
    refine V_aload_n Y.1 1 dX0_beginTrip_26 (rfl : _ = 27) rfl rfl ?_
    refine V_iload_n Y.1 2 dX0_beginTrip_27 (rfl : _ = 28) rfl rfl ?_
    refine V_put Y.1 fi_X0_39 fw_X0 rfl rfl h0 (Or.inl ⟨by omega, by omega⟩) rfl rfl (Nat.le_of_ble_eq_true rfl) dX0_beginTrip_28 (rfl : _ = 31) (fun H28_59 h_new o_28 => ?_)
    have h0 : hp D _ _ (.inr (4, [_, _, _, _, _, _, _, _, _, _, _, _, _, _, _, _, _])) := h_new
    have hd := hd.sto o_28 (by omega)
    have hm := hm.sto o_28 (by omega)
    have sz : Array.size H28_59 = H0.size := o_28.1.trans sz
    clear h_new
    refine V_aload_n Y.1 1 dX0_beginTrip_31 (rfl : _ = 32) rfl rfl ?_
    refine V_iload_n Y.1 3 dX0_beginTrip_32 (rfl : _ = 33) rfl rfl ?_
    refine V_put Y.1 fi_X0_42 fw_X0 rfl rfl h0 (Or.inl ⟨by omega, by omega⟩) rfl rfl (Nat.le_of_ble_eq_true rfl) dX0_beginTrip_33 (rfl : _ = 36) (fun H33_67 h_new o_33 => ?_)
    have h0 : hp D _ _ (.inr (4, [_, _, _, _, _, _, _, _, _, _, _, _, _, _, _, _, _])) := h_new
    have hd := hd.sto o_33 (by omega)
    have hm := hm.sto o_33 (by omega)
    have sz : Array.size H33_67 = H0.size := o_33.1.trans sz
    clear h_new
    refine V_iload_n Y.1 0 dX0_beginTrip_36 (rfl : _ = 37) rfl rfl ?_
    exact V_ret Y.1 dX0_beginTrip_37 (nb_z (by unfold k_cont; split <;> simp)) (Nat.le_of_ble_eq_true rfl) (Nat.le_of_ble_eq_true rfl) ⟨rfl, by rw [k_begin, if_pos c_8]; exact ⟨h0, hd, hm⟩, sz⟩

set_option maxRecDepth 100000 in
set_option maxHeartbeats 4000000 in
theorem c_X0_completeTrip (l : Launch) (D : va_G) (kA : Nat → ClassId) (H0 : Heap) (a : Nat) (κ : KS) (en : Option Nat) (st mn x : Int32) (h : Cd D kA H0 a κ en) : Ct l D kA yX0_completeTrip cX0_completeTrip 4 none 0 0 0 0 H0 [.ref a, .int st, .int mn, .int x] (blk a 3) (pV fun H => Cd D kA H a (k_complete κ st mn x) en ∧ H.size = H0.size) := by
  refine Ct.of mi_X0_completeTrip (Nat.le_of_ble_eq_true rfl) (ls0 := [(0, _), (1, _), (2, _), (3, _)]) rfl ?_
  intro Pp Ee Ss Mm Ar Bl Me Cc Y hs hnm
  obtain ⟨h0, hd, hm⟩ := id h
  have sz : H0.size = H0.size := rfl
  refine V_aload_n Y.1 0 dX0_completeTrip_0 (rfl : _ = 1) rfl rfl ?_
  refine V_dup Y.1 dX0_completeTrip_1 (rfl : _ = 2) rfl ?_
  refine V_get Y.1 fi_X0_48 h0 rfl dX0_completeTrip_2 (rfl : _ = 5) ?_
  refine V_iload_n Y.1 3 dX0_completeTrip_5 (rfl : _ = 6) rfl rfl ?_
  refine V_iadd Y.1 dX0_completeTrip_6 (rfl : _ = 7) ?_
  refine V_put Y.1 fi_X0_48 fw_X0 rfl rfl h0 (Or.inl ⟨by omega, by omega⟩) rfl rfl (Nat.le_of_ble_eq_true rfl) dX0_completeTrip_7 (rfl : _ = 10) (fun H7_5 h_new o_7 => ?_)
  have h0 : hp D _ _ (.inr (4, [_, _, _, _, _, _, _, _, _, _, _, _, _, _, _, _, _])) := h_new
  have hd := hd.sto o_7 (by omega)
  have hm := hm.sto o_7 (by omega)
  have sz : Array.size H7_5 = H0.size := o_7.1.trans sz
  clear h_new
  refine V_aload_n Y.1 0 dX0_completeTrip_10 (rfl : _ = 11) rfl rfl ?_
  refine V_iconst Y.1 (v := 0) dX0_completeTrip_11 (rfl : _ = 12) (by decide) ?_
  refine V_put Y.1 fi_X0_26 fw_X0 rfl rfl h0 (Or.inl ⟨by omega, by omega⟩) rfl rfl (Nat.le_of_ble_eq_true rfl) dX0_completeTrip_12 (rfl : _ = 15) (fun H12_13 h_new o_12 => ?_)
  have h0 : hp D _ _ (.inr (4, [_, _, _, _, _, _, _, _, _, _, _, _, _, _, _, _, _])) := h_new
  have hd := hd.sto o_12 (by omega)
  have hm := hm.sto o_12 (by omega)
  have sz : Array.size H12_13 = H0.size := o_12.1.trans sz
  clear h_new
  refine V_aload_n Y.1 0 dX0_completeTrip_15 (rfl : _ = 16) rfl rfl ?_
  refine V_iconst Y.1 (v := 1) dX0_completeTrip_16 (rfl : _ = 17) (by decide) ?_
  refine V_put Y.1 fi_X0_29 fw_X0 rfl rfl h0 (Or.inl ⟨by omega, by omega⟩) rfl rfl (Nat.le_of_ble_eq_true rfl) dX0_completeTrip_17 (rfl : _ = 20) (fun H17_21 h_new o_17 => ?_)
  have h0 : hp D _ _ (.inr (4, [_, _, _, _, _, _, _, _, _, _, _, _, _, _, _, _, _])) := h_new
  have hd := hd.sto o_17 (by omega)
  have hm := hm.sto o_17 (by omega)
  have sz : Array.size H17_21 = H0.size := o_17.1.trans sz
  clear h_new
  refine V_aload_n Y.1 0 dX0_completeTrip_20 (rfl : _ = 21) rfl rfl ?_
  refine V_iload_n Y.1 1 dX0_completeTrip_21 (rfl : _ = 22) rfl rfl ?_
  refine V_put Y.1 fi_X0_51 fw_X0 rfl rfl h0 (Or.inl ⟨by omega, by omega⟩) rfl rfl (Nat.le_of_ble_eq_true rfl) dX0_completeTrip_22 (rfl : _ = 25) (fun H22_29 h_new o_22 => ?_)
  have h0 : hp D _ _ (.inr (4, [_, _, _, _, _, _, _, _, _, _, _, _, _, _, _, _, _])) := h_new
  have hd := hd.sto o_22 (by omega)
  have hm := hm.sto o_22 (by omega)
  have sz : Array.size H22_29 = H0.size := o_22.1.trans sz
  clear h_new
  refine V_aload_n Y.1 0 dX0_completeTrip_25 (rfl : _ = 26) rfl rfl ?_
  refine V_iload_n Y.1 2 dX0_completeTrip_26 (rfl : _ = 27) rfl rfl ?_
  refine V_put Y.1 fi_X0_54 fw_X0 rfl rfl h0 (Or.inl ⟨by omega, by omega⟩) rfl rfl (Nat.le_of_ble_eq_true rfl) dX0_completeTrip_27 (rfl : _ = 30) (fun H27_37 h_new o_27 => ?_)
  have h0 : hp D _ _ (.inr (4, [_, _, _, _, _, _, _, _, _, _, _, _, _, _, _, _, _])) := h_new
  have hd := hd.sto o_27 (by omega)
  have hm := hm.sto o_27 (by omega)
  have sz : Array.size H27_37 = H0.size := o_27.1.trans sz
  clear h_new
  exact V_retV Y.1 dX0_completeTrip_30 (Nat.le_of_ble_eq_true rfl) (Nat.le_of_ble_eq_true rfl) ⟨⟨h0, hd, hm⟩, sz⟩

set_option maxRecDepth 100000 in
set_option maxHeartbeats 4000000 in
theorem c_X0_breakTrip (l : Launch) (D : va_G) (kA : Nat → ClassId) (H0 : Heap) (a : Nat) (κ : KS) (en : Option Nat) (d x : Int32) (h : Cd D kA H0 a κ en) : Ct l D kA yX0_breakTrip cX0_breakTrip 3 none 0 0 0 0 H0 [.ref a, .int d, .int x] (blk a 3) (pV fun H => Cd D kA H a (k_break κ d x) en ∧ H.size = H0.size) := by
  refine Ct.of mi_X0_breakTrip (Nat.le_of_ble_eq_true rfl) (ls0 := [(0, _), (1, _), (2, _)]) rfl ?_
  intro Pp Ee Ss Mm Ar Bl Me Cc Y hs hnm
  obtain ⟨h0, hd, hm⟩ := id h
  have sz : H0.size = H0.size := rfl
  refine V_aload_n Y.1 0 dX0_breakTrip_0 (rfl : _ = 1) rfl rfl ?_
  refine V_iconst Y.1 (v := 0) dX0_breakTrip_1 (rfl : _ = 2) (by decide) ?_
  refine V_put Y.1 fi_X0_26 fw_X0 rfl rfl h0 (Or.inl ⟨by omega, by omega⟩) rfl rfl (Nat.le_of_ble_eq_true rfl) dX0_breakTrip_2 (rfl : _ = 5) (fun H2_2 h_new o_2 => ?_)
  have h0 : hp D _ _ (.inr (4, [_, _, _, _, _, _, _, _, _, _, _, _, _, _, _, _, _])) := h_new
  have hd := hd.sto o_2 (by omega)
  have hm := hm.sto o_2 (by omega)
  have sz : Array.size H2_2 = H0.size := o_2.1.trans sz
  clear h_new
  refine V_aload_n Y.1 0 dX0_breakTrip_5 (rfl : _ = 6) rfl rfl ?_
  refine V_iconst Y.1 (v := 0) dX0_breakTrip_6 (rfl : _ = 7) (by decide) ?_
  refine V_put Y.1 fi_X0_29 fw_X0 rfl rfl h0 (Or.inl ⟨by omega, by omega⟩) rfl rfl (Nat.le_of_ble_eq_true rfl) dX0_breakTrip_7 (rfl : _ = 10) (fun H7_10 h_new o_7 => ?_)
  have h0 : hp D _ _ (.inr (4, [_, _, _, _, _, _, _, _, _, _, _, _, _, _, _, _, _])) := h_new
  have hd := hd.sto o_7 (by omega)
  have hm := hm.sto o_7 (by omega)
  have sz : Array.size H7_10 = H0.size := o_7.1.trans sz
  clear h_new
  refine V_aload_n Y.1 0 dX0_breakTrip_10 (rfl : _ = 11) rfl rfl ?_
  refine V_iconst Y.1 (v := 1) dX0_breakTrip_11 (rfl : _ = 12) (by decide) ?_
  refine V_put Y.1 fi_X0_32 fw_X0 rfl rfl h0 (Or.inl ⟨by omega, by omega⟩) rfl rfl (Nat.le_of_ble_eq_true rfl) dX0_breakTrip_12 (rfl : _ = 15) (fun H12_18 h_new o_12 => ?_)
  have h0 : hp D _ _ (.inr (4, [_, _, _, _, _, _, _, _, _, _, _, _, _, _, _, _, _])) := h_new
  have hd := hd.sto o_12 (by omega)
  have hm := hm.sto o_12 (by omega)
  have sz : Array.size H12_18 = H0.size := o_12.1.trans sz
  clear h_new
  refine V_aload_n Y.1 0 dX0_breakTrip_15 (rfl : _ = 16) rfl rfl ?_
  refine V_aload_n Y.1 0 dX0_breakTrip_16 (rfl : _ = 17) rfl rfl ?_
  refine V_get Y.1 fi_X0_39 h0 rfl dX0_breakTrip_17 (rfl : _ = 20) ?_
  refine V_put Y.1 fi_X0_57 fw_X0 rfl rfl h0 (Or.inl ⟨by omega, by omega⟩) rfl rfl (Nat.le_of_ble_eq_true rfl) dX0_breakTrip_20 (rfl : _ = 23) (fun H20_27 h_new o_20 => ?_)
  have h0 : hp D _ _ (.inr (4, [_, _, _, _, _, _, _, _, _, _, _, _, _, _, _, _, _])) := h_new
  have hd := hd.sto o_20 (by omega)
  have hm := hm.sto o_20 (by omega)
  have sz : Array.size H20_27 = H0.size := o_20.1.trans sz
  clear h_new
  refine V_aload_n Y.1 0 dX0_breakTrip_23 (rfl : _ = 24) rfl rfl ?_
  refine V_iload_n Y.1 1 dX0_breakTrip_24 (rfl : _ = 25) rfl rfl ?_
  refine V_put Y.1 fi_X0_60 fw_X0 rfl rfl h0 (Or.inl ⟨by omega, by omega⟩) rfl rfl (Nat.le_of_ble_eq_true rfl) dX0_breakTrip_25 (rfl : _ = 28) (fun H25_35 h_new o_25 => ?_)
  have h0 : hp D _ _ (.inr (4, [_, _, _, _, _, _, _, _, _, _, _, _, _, _, _, _, _])) := h_new
  have hd := hd.sto o_25 (by omega)
  have hm := hm.sto o_25 (by omega)
  have sz : Array.size H25_35 = H0.size := o_25.1.trans sz
  clear h_new
  refine V_aload_n Y.1 0 dX0_breakTrip_28 (rfl : _ = 29) rfl rfl ?_
  refine V_iload_n Y.1 2 dX0_breakTrip_29 (rfl : _ = 30) rfl rfl ?_
  refine V_put Y.1 fi_X0_63 fw_X0 rfl rfl h0 (Or.inl ⟨by omega, by omega⟩) rfl rfl (Nat.le_of_ble_eq_true rfl) dX0_breakTrip_30 (rfl : _ = 33) (fun H30_43 h_new o_30 => ?_)
  have h0 : hp D _ _ (.inr (4, [_, _, _, _, _, _, _, _, _, _, _, _, _, _, _, _, _])) := h_new
  have hd := hd.sto o_30 (by omega)
  have hm := hm.sto o_30 (by omega)
  have sz : Array.size H30_43 = H0.size := o_30.1.trans sz
  clear h_new
  exact V_retV Y.1 dX0_breakTrip_33 (Nat.le_of_ble_eq_true rfl) (Nat.le_of_ble_eq_true rfl) ⟨⟨h0, hd, hm⟩, sz⟩
