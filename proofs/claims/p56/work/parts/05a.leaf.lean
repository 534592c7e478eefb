set_option maxRecDepth 100000 in
set_option maxHeartbeats 4000000 in
theorem c_J9_floorMod_7cf53 (l : Launch) (D : va_G) (kA : Nat → ClassId) (H0 : Heap) (a : Nat) (ha : a < 2 ^ 31) : Ct l D kA yJ9_floorMod_7cf53 cJ9_floorMod_7cf53 3 (some .int) 0 0 0 0 H0 [.int (nI a), .int 3] (nof) (pI fun v H => v = nI (a % 3) ∧ H = H0) := by
  refine Ct.of mi_J9_floorMod_7cf53 (Nat.le_of_ble_eq_true rfl) (ls0 := [(0, _), (1, _)]) rfl ?_
  intro Pp Ee Ss Mm Ar Bl Me Cc Y hs hnm
  have hr : nI a - nI a / 3 * 3 = nI (a % 3) := pk_rem (d := 3) ha (by decide) (by decide)
  have sz : H0.size = H0.size := rfl
  refine V_iload_n Y.1 0 dJ9_floorMod_7cf53_0 (rfl : _ = 1) rfl rfl ?_
  refine V_iload_n Y.1 1 dJ9_floorMod_7cf53_1 (rfl : _ = 2) rfl rfl ?_
  refine V_irem Y.1 dJ9_floorMod_7cf53_2 (rfl : _ = 3) (by decide) ?_
  refine V_nm (v := nI (a % 3)) hr ?_
  refine V_istore_n Y.1 (ls' := [(2, _), (0, _), (1, _)]) dJ9_floorMod_7cf53_3 (rfl : _ = 4) rfl (by decide) rfl ?_
  refine V_iload_n Y.1 1 dJ9_floorMod_7cf53_4 (rfl : _ = 5) rfl rfl ?_
  refine V_iload_n Y.1 2 dJ9_floorMod_7cf53_5 (rfl : _ = 6) rfl rfl ?_
  refine V_ixor Y.1 dJ9_floorMod_7cf53_6 (rfl : _ = 7) ?_
  refine V_if_ge Y.1 (tgt := 18) dJ9_floorMod_7cf53_7 (by decide) (rfl : _ = 10) (fun c_7 => ?_) (fun c_7 => ?_)
  · refine V_iload_n Y.1 0 dJ9_floorMod_7cf53_18 (rfl : _ = 19) rfl rfl ?_
    exact V_ret Y.1 dJ9_floorMod_7cf53_19 rfl (Nat.le_of_ble_eq_true rfl) (Nat.le_of_ble_eq_true rfl) ⟨rfl, rfl⟩
  · refine V_iload_n Y.1 0 dJ9_floorMod_7cf53_10 (rfl : _ = 11) rfl rfl ?_
    refine V_if_eq Y.1 (tgt := 18) dJ9_floorMod_7cf53_11 (by decide) (rfl : _ = 14) (fun c_11 => ?_) (fun c_11 => ?_)
    · refine V_iload_n Y.1 0 dJ9_floorMod_7cf53_18 (rfl : _ = 19) rfl rfl ?_
      exact V_ret Y.1 dJ9_floorMod_7cf53_19 rfl (Nat.le_of_ble_eq_true rfl) (Nat.le_of_ble_eq_true rfl) ⟨rfl, rfl⟩
    · refine V_iload_n Y.1 0 dJ9_floorMod_7cf53_14 (rfl : _ = 15) rfl rfl ?_
      refine V_iload_n Y.1 2 dJ9_floorMod_7cf53_15 (rfl : _ = 16) rfl rfl ?_
      exact absurd (show (0 : Int32) ≤ nI a ^^^ 3 from by
        have h1 : nI a ^^^ 3 = nI (a ^^^ 3) := by
          apply Int32.toBitVec_inj.mp
          show BitVec.ofNat 32 a ^^^ BitVec.ofNat 32 3 = BitVec.ofNat 32 (a ^^^ 3)
          apply BitVec.eq_of_toNat_eq
          simp only [BitVec.toNat_xor, BitVec.toNat_ofNat]
          rw [Nat.mod_eq_of_lt (by omega), Nat.mod_eq_of_lt (by omega), Nat.mod_eq_of_lt]
          exact Nat.lt_of_lt_of_le (Nat.xor_lt_two_pow (n := 31) ha (by omega)) (by omega)
        rw [h1]
        exact nI_pos' (Nat.xor_lt_two_pow (n := 31) ha (by omega))) c_7

set_option maxRecDepth 100000 in
set_option maxHeartbeats 4000000 in
theorem c_J6_bitCount_0f7a4 (l : Launch) (D : va_G) (kA : Nat → ClassId) (H0 : Heap) (x : Int32)  : Ct l D kA yJ6_bitCount_0f7a4 cJ6_bitCount_0f7a4 1 (some .int) 0 0 0 0 H0 [.int x] (nof) (pI fun v H => v = j_bc x ∧ H = H0) := by
  refine Ct.of mi_J6_bitCount_0f7a4 (Nat.le_of_ble_eq_true rfl) (ls0 := [(0, _)]) rfl ?_
  intro Pp Ee Ss Mm Ar Bl Me Cc Y hs hnm
  have sz : H0.size = H0.size := rfl
  refine V_iload_n Y.1 0 dJ6_bitCount_0f7a4_0 (rfl : _ = 1) rfl rfl ?_
  refine V_iload_n Y.1 0 dJ6_bitCount_0f7a4_1 (rfl : _ = 2) rfl rfl ?_
  refine V_iconst Y.1 (v := 1) dJ6_bitCount_0f7a4_2 (rfl : _ = 3) (by decide) ?_
  refine V_iushr Y.1 dJ6_bitCount_0f7a4_3 (rfl : _ = 4) rfl ?_
  refine V_ldcw Y.1 cn_J6_265 dJ6_bitCount_0f7a4_4 (rfl : _ = 7) ?_
  refine V_iand Y.1 dJ6_bitCount_0f7a4_7 (rfl : _ = 8) ?_
  refine V_isub Y.1 dJ6_bitCount_0f7a4_8 (rfl : _ = 9) ?_
  refine V_top (fun z1 e_z1 => ?_)
  refine V_istore_n Y.1 (ls' := [(0, _)]) dJ6_bitCount_0f7a4_9 (rfl : _ = 10) rfl (by decide) rfl ?_
  refine V_iload_n Y.1 0 dJ6_bitCount_0f7a4_10 (rfl : _ = 11) rfl rfl ?_
  refine V_ldcw Y.1 cn_J6_266 dJ6_bitCount_0f7a4_11 (rfl : _ = 14) ?_
  refine V_iand Y.1 dJ6_bitCount_0f7a4_14 (rfl : _ = 15) ?_
  refine V_iload_n Y.1 0 dJ6_bitCount_0f7a4_15 (rfl : _ = 16) rfl rfl ?_
  refine V_iconst Y.1 (v := 2) dJ6_bitCount_0f7a4_16 (rfl : _ = 17) (by decide) ?_
  refine V_iushr Y.1 dJ6_bitCount_0f7a4_17 (rfl : _ = 18) rfl ?_
  refine V_ldcw Y.1 cn_J6_266 dJ6_bitCount_0f7a4_18 (rfl : _ = 21) ?_
  refine V_iand Y.1 dJ6_bitCount_0f7a4_21 (rfl : _ = 22) ?_
  refine V_iadd Y.1 dJ6_bitCount_0f7a4_22 (rfl : _ = 23) ?_
  refine V_top (fun z2 e_z2 => ?_)
  refine V_istore_n Y.1 (ls' := [(0, _)]) dJ6_bitCount_0f7a4_23 (rfl : _ = 24) rfl (by decide) rfl ?_
  refine V_iload_n Y.1 0 dJ6_bitCount_0f7a4_24 (rfl : _ = 25) rfl rfl ?_
  refine V_iload_n Y.1 0 dJ6_bitCount_0f7a4_25 (rfl : _ = 26) rfl rfl ?_
  refine V_iconst Y.1 (v := 4) dJ6_bitCount_0f7a4_26 (rfl : _ = 27) (by decide) ?_
  refine V_iushr Y.1 dJ6_bitCount_0f7a4_27 (rfl : _ = 28) rfl ?_
  refine V_iadd Y.1 dJ6_bitCount_0f7a4_28 (rfl : _ = 29) ?_
  refine V_ldcw Y.1 cn_J6_267 dJ6_bitCount_0f7a4_29 (rfl : _ = 32) ?_
  refine V_iand Y.1 dJ6_bitCount_0f7a4_32 (rfl : _ = 33) ?_
  refine V_top (fun z3 e_z3 => ?_)
  refine V_istore_n Y.1 (ls' := [(0, _)]) dJ6_bitCount_0f7a4_33 (rfl : _ = 34) rfl (by decide) rfl ?_
  refine V_iload_n Y.1 0 dJ6_bitCount_0f7a4_34 (rfl : _ = 35) rfl rfl ?_
  refine V_iload_n Y.1 0 dJ6_bitCount_0f7a4_35 (rfl : _ = 36) rfl rfl ?_
  refine V_bipush Y.1 (v := 8) dJ6_bitCount_0f7a4_36 (rfl : _ = 38) (by decide) ?_
  refine V_iushr Y.1 dJ6_bitCount_0f7a4_38 (rfl : _ = 39) rfl ?_
  refine V_iadd Y.1 dJ6_bitCount_0f7a4_39 (rfl : _ = 40) ?_
  refine V_top (fun z4 e_z4 => ?_)
  refine V_istore_n Y.1 (ls' := [(0, _)]) dJ6_bitCount_0f7a4_40 (rfl : _ = 41) rfl (by decide) rfl ?_
  refine V_iload_n Y.1 0 dJ6_bitCount_0f7a4_41 (rfl : _ = 42) rfl rfl ?_
  refine V_iload_n Y.1 0 dJ6_bitCount_0f7a4_42 (rfl : _ = 43) rfl rfl ?_
  refine V_bipush Y.1 (v := 16) dJ6_bitCount_0f7a4_43 (rfl : _ = 45) (by decide) ?_
  refine V_iushr Y.1 dJ6_bitCount_0f7a4_45 (rfl : _ = 46) rfl ?_
  refine V_iadd Y.1 dJ6_bitCount_0f7a4_46 (rfl : _ = 47) ?_
  refine V_top (fun z5 e_z5 => ?_)
  refine V_istore_n Y.1 (ls' := [(0, _)]) dJ6_bitCount_0f7a4_47 (rfl : _ = 48) rfl (by decide) rfl ?_
  refine V_iload_n Y.1 0 dJ6_bitCount_0f7a4_48 (rfl : _ = 49) rfl rfl ?_
  refine V_bipush Y.1 (v := 63) dJ6_bitCount_0f7a4_49 (rfl : _ = 51) (by decide) ?_
  refine V_iand Y.1 dJ6_bitCount_0f7a4_51 (rfl : _ = 52) ?_
  exact V_ret Y.1 dJ6_bitCount_0f7a4_52 rfl (Nat.le_of_ble_eq_true rfl) (Nat.le_of_ble_eq_true rfl) ⟨by subst e_z5; subst e_z4; subst e_z3; subst e_z2; subst e_z1; rfl, rfl⟩

set_option maxRecDepth 100000 in
set_option maxHeartbeats 4000000 in
theorem c_X1_init (l : Launch) (D : va_G) (kA : Nat → ClassId) (H0 : Heap) (q : Nat) (d x : Int32) (r : Option Nat) (fs : List Value) (h : hp D H0 q (eO 5 fs)) (hf : fs.length = 3) : Ct l D kA yX1_init cX1_init 4 none 1 24 0 0 H0 [.ref q, .int d, .int x, va_rf r] (blk q 1) (pV fun H => hp D H q (eO 5 [.int d, .int x, va_rf r]) ∧ H.size = H0.size) := by
  cases r
  · refine Ct.of mi_X1_init (Nat.le_of_ble_eq_true rfl) (ls0 := [(0, _), (1, _), (2, _), (3, _)]) rfl ?_
    intro Pp Ee Ss Mm Ar Bl Me Cc Y hs hnm
    obtain ⟨f0, f1, f2, rfl⟩ : ∃ f0 f1 f2, fs = [f0, f1, f2] := by
      match fs, hf with
      | [f0, f1, f2], _ => exact ⟨f0, f1, f2, rfl⟩
    refine V_aload_n Y.1 0 dX1_init_0 (rfl : _ = 1) rfl rfl ?_
    refine V_objInit Y.1 ow_X1_1 dX1_init_1 (rfl : _ = 4) (Nat.le_of_ble_eq_true rfl) (Nat.le_of_ble_eq_true rfl) (Nat.le_of_ble_eq_true rfl) (Nat.le_of_ble_eq_true rfl) ?_
    refine V_aload_n Y.1 0 dX1_init_4 (rfl : _ = 5) rfl rfl ?_
    refine V_iload_n Y.1 1 dX1_init_5 (rfl : _ = 6) rfl rfl ?_
    refine V_putF Y.1 fi_X1_7 fw_X1 rfl (by rw [hnm]; rfl) rfl rfl h (Or.inl ⟨by omega, by omega⟩) rfl rfl (Nat.le_of_ble_eq_true rfl) dX1_init_6 (rfl : _ = 9) (fun H6_4 h_new o_6 => ?_)
    have h : hp D _ _ (.inr (5, [_, _, _])) := h_new
    clear h_new
    refine V_aload_n Y.1 0 dX1_init_9 (rfl : _ = 10) rfl rfl ?_
    refine V_iload_n Y.1 2 dX1_init_10 (rfl : _ = 11) rfl rfl ?_
    refine V_putF Y.1 fi_X1_13 fw_X1 rfl (by rw [hnm]; rfl) rfl rfl h (Or.inl ⟨by omega, by omega⟩) rfl rfl (Nat.le_of_ble_eq_true rfl) dX1_init_11 (rfl : _ = 14) (fun H11_9 h_new o_11 => ?_)
    have h : hp D _ _ (.inr (5, [_, _, _])) := h_new
    clear h_new
    refine V_aload_n Y.1 0 dX1_init_14 (rfl : _ = 15) rfl rfl ?_
    refine V_aload_nN Y.1 3 dX1_init_15 (rfl : _ = 16) rfl rfl ?_
    refine V_putF Y.1 fi_X1_16 fw_X1 rfl (by rw [hnm]; rfl) rfl rfl h (Or.inl ⟨by omega, by omega⟩) rfl rfl (Nat.le_of_ble_eq_true rfl) dX1_init_16 (rfl : _ = 19) (fun H16_14 h_new o_16 => ?_)
    have h : hp D _ _ (.inr (5, [_, _, _])) := h_new
    clear h_new
    exact V_retV Y.1 dX1_init_19 (Nat.le_of_ble_eq_true rfl) (Nat.le_of_ble_eq_true rfl) ⟨h, by rw [o_16.1, o_11.1, o_6.1]⟩
  · refine Ct.of mi_X1_init (Nat.le_of_ble_eq_true rfl) (ls0 := [(0, _), (1, _), (2, _), (3, _)]) rfl ?_
    intro Pp Ee Ss Mm Ar Bl Me Cc Y hs hnm
    obtain ⟨f0, f1, f2, rfl⟩ : ∃ f0 f1 f2, fs = [f0, f1, f2] := by
      match fs, hf with
      | [f0, f1, f2], _ => exact ⟨f0, f1, f2, rfl⟩
    refine V_aload_n Y.1 0 dX1_init_0 (rfl : _ = 1) rfl rfl ?_
    refine V_objInit Y.1 ow_X1_1 dX1_init_1 (rfl : _ = 4) (Nat.le_of_ble_eq_true rfl) (Nat.le_of_ble_eq_true rfl) (Nat.le_of_ble_eq_true rfl) (Nat.le_of_ble_eq_true rfl) ?_
    refine V_aload_n Y.1 0 dX1_init_4 (rfl : _ = 5) rfl rfl ?_
    refine V_iload_n Y.1 1 dX1_init_5 (rfl : _ = 6) rfl rfl ?_
    refine V_putF Y.1 fi_X1_7 fw_X1 rfl (by rw [hnm]; rfl) rfl rfl h (Or.inl ⟨by omega, by omega⟩) rfl rfl (Nat.le_of_ble_eq_true rfl) dX1_init_6 (rfl : _ = 9) (fun H6_4 h_new o_6 => ?_)
    have h : hp D _ _ (.inr (5, [_, _, _])) := h_new
    clear h_new
    refine V_aload_n Y.1 0 dX1_init_9 (rfl : _ = 10) rfl rfl ?_
    refine V_iload_n Y.1 2 dX1_init_10 (rfl : _ = 11) rfl rfl ?_
    refine V_putF Y.1 fi_X1_13 fw_X1 rfl (by rw [hnm]; rfl) rfl rfl h (Or.inl ⟨by omega, by omega⟩) rfl rfl (Nat.le_of_ble_eq_true rfl) dX1_init_11 (rfl : _ = 14) (fun H11_9 h_new o_11 => ?_)
    have h : hp D _ _ (.inr (5, [_, _, _])) := h_new
    clear h_new
    refine V_aload_n Y.1 0 dX1_init_14 (rfl : _ = 15) rfl rfl ?_
    refine V_aload_n Y.1 3 dX1_init_15 (rfl : _ = 16) rfl rfl ?_
    refine V_putF Y.1 fi_X1_16 fw_X1 rfl (by rw [hnm]; rfl) rfl rfl h (Or.inl ⟨by omega, by omega⟩) rfl rfl (Nat.le_of_ble_eq_true rfl) dX1_init_16 (rfl : _ = 19) (fun H16_14 h_new o_16 => ?_)
    have h : hp D _ _ (.inr (5, [_, _, _])) := h_new
    clear h_new
    exact V_retV Y.1 dX1_init_19 (Nat.le_of_ble_eq_true rfl) (Nat.le_of_ble_eq_true rfl) ⟨h, by rw [o_16.1, o_11.1, o_6.1]⟩
