set_option maxRecDepth 100000 in
set_option maxHeartbeats 4000000 in
theorem c_X6_ends_f (l : Launch) (D : va_G) (kA : Nat → ClassId) (H0 : Heap) (o : Nat) (F s b v p u t c : Nat → Int32) (x : Int32) (hM : Rs D kA H0 o F s b v p u t c) (hf : F 6 > 0) : Ct l D kA yX6_ends cX6_ends 2 (some .int) 1 48 0 0 H0 [.ref o, .int x] (blk o 8) (pI fun v9 H => v9 = 0 ∧ Rs D kA H o F (b) b v p u t c) := by
  refine Ct.of mi_X6_ends (Nat.le_of_ble_eq_true rfl) (ls0 := [(0, _), (1, _)]) rfl ?_
  intro Pp Ee Ss Mm Ar Bl Me Cc Y hs hnm
  refine V_aload_n Y.1 0 dX6_ends_0 (rfl : _ = 1) rfl rfl ?_
  refine V_get Y.1 fi_X6_39 hM.1 rfl dX6_ends_1 (rfl : _ = 4) ?_
  refine V_if_le Y.1 (tgt := 25) dX6_ends_4 (by decide) (rfl : _ = 7) (fun c_n => absurd c_n (by simpa using hf)) (fun _ => ?_)
  refine V_aload_n Y.1 0 dX6_ends_7 (rfl : _ = 8) rfl rfl ?_
  refine V_get Y.1 fi_X6_13 hM.1 rfl dX6_ends_8 (rfl : _ = 11) ?_
  refine V_iconst Y.1 (v := 0) dX6_ends_11 (rfl : _ = 12) (by decide) ?_
  refine V_aload_n Y.1 0 dX6_ends_12 (rfl : _ = 13) rfl rfl ?_
  refine V_get Y.1 fi_X6_9 hM.1 rfl dX6_ends_13 (rfl : _ = 16) ?_
  refine V_iconst Y.1 (v := 0) dX6_ends_16 (rfl : _ = 17) (by decide) ?_
  refine V_sipush Y.1 (v := 169) dX6_ends_17 (rfl : _ = 20) (by decide) ?_
  refine V_copy Y.1 aw_X6_42 (sp := 0) (dp := 0) (N := 169) hM.2.2.1 hM.2.1 rfl rfl (Or.inl ⟨by omega, by omega⟩) rfl rfl rfl (by omega) (by omega) (by omega) (by omega) (fun _ _ => rfl) (Nat.le_of_ble_eq_true rfl) (Nat.le_of_ble_eq_true rfl) dX6_ends_20 (rfl : _ = 23) (fun H20_10 h_new o_20 => ?_)
  have h_new := h_new.cpy
  have hM := hM.a1 o_20 h_new
  clear h_new
  refine V_iconst Y.1 (v := 0) dX6_ends_23 (rfl : _ = 24) (by decide) ?_
  exact V_ret Y.1 dX6_ends_24 rfl (Nat.le_of_ble_eq_true rfl) (Nat.le_of_ble_eq_true rfl) ⟨rfl, hM⟩

set_option maxRecDepth 100000 in
set_option maxHeartbeats 4000000 in
theorem c_X6_ends_k (l : Launch) (D : va_G) (kA : Nat → ClassId) (H0 : Heap) (o : Nat) (F s b v p u t c : Nat → Int32) (x : Int32) (k : Nat) (hM : Rs D kA H0 o F s b v p u t c) (hf : F 6 = 0) (hk : F 5 = nI k) (hk8 : k < 8) : Ct l D kA yX6_ends cX6_ends 2 (some .int) 1 48 0 0 H0 [.ref o, .int x] (blk o 8) (pI fun v9 H => v9 = x ∧ Rs D kA H o (upd F 5 (nI (k + 1))) s b v (va_cpy b p 0 (169 * k) 169) u t c) := by
  refine Ct.of mi_X6_ends (Nat.le_of_ble_eq_true rfl) (ls0 := [(0, _), (1, _)]) rfl ?_
  intro Pp Ee Ss Mm Ar Bl Me Cc Y hs hnm
  refine V_aload_n Y.1 0 dX6_ends_0 (rfl : _ = 1) rfl rfl ?_
  refine V_get Y.1 fi_X6_39 hM.1 rfl dX6_ends_1 (rfl : _ = 4) ?_
  refine V_if_le Y.1 (tgt := 25) dX6_ends_4 (by decide) (rfl : _ = 7) (fun _ => ?_) (fun c_n => absurd (by rw [hf]; decide) c_n)
  refine V_aload_n Y.1 0 dX6_ends_25 (rfl : _ = 26) rfl rfl ?_
  refine V_get Y.1 fi_X6_48 hM.1 rfl dX6_ends_26 (rfl : _ = 29) ?_
  refine V_bipush Y.1 (v := 8) dX6_ends_29 (rfl : _ = 31) (by decide) ?_
  refine V_icmp_ne Y.1 (tgt := 62) dX6_ends_31 (by decide) (rfl : _ = 34) (fun _ => ?_) (fun c_n => absurd c_n (by rw [hk]; intro q; have := (nI_eq (a := k) (b := 8) (by omega) (by decide)).mp q; omega))
  refine V_aload_n Y.1 0 dX6_ends_62 (rfl : _ = 63) rfl rfl ?_
  refine V_get Y.1 fi_X6_13 hM.1 rfl dX6_ends_63 (rfl : _ = 66) ?_
  refine V_iconst Y.1 (v := 0) dX6_ends_66 (rfl : _ = 67) (by decide) ?_
  refine V_aload_n Y.1 0 dX6_ends_67 (rfl : _ = 68) rfl rfl ?_
  refine V_get Y.1 fi_X6_19 hM.1 rfl dX6_ends_68 (rfl : _ = 71) ?_
  refine V_sipush Y.1 (v := 169) dX6_ends_71 (rfl : _ = 74) (by decide) ?_
  refine V_aload_n Y.1 0 dX6_ends_74 (rfl : _ = 75) rfl rfl ?_
  refine V_get Y.1 fi_X6_48 hM.1 rfl dX6_ends_75 (rfl : _ = 78) ?_
  refine V_imul Y.1 dX6_ends_78 (rfl : _ = 79) ?_
  refine V_nm (v := nI (169 * k)) (by rw [hk]; exact pk_mul 169 k) ?_
  refine V_sipush Y.1 (v := 169) dX6_ends_79 (rfl : _ = 82) (by decide) ?_
  refine V_copy Y.1 aw_X6_42 (sp := 0) (dp := 169 * k) (N := 169) hM.2.2.1 hM.2.2.2.2.1 rfl rfl (Or.inl ⟨by omega, by omega⟩) rfl rfl rfl (by omega) (by omega) (by omega) (by omega) (fun _ _ => rfl) (Nat.le_of_ble_eq_true rfl) (Nat.le_of_ble_eq_true rfl) dX6_ends_82 (rfl : _ = 85) (fun H82_18 h_new o_82 => ?_)
  have hM := hM.a4 o_82 h_new
  clear h_new
  refine V_aload_n Y.1 0 dX6_ends_85 (rfl : _ = 86) rfl rfl ?_
  refine V_dup Y.1 dX6_ends_86 (rfl : _ = 87) rfl ?_
  refine V_get Y.1 fi_X6_48 hM.1 rfl dX6_ends_87 (rfl : _ = 90) ?_
  refine V_iconst Y.1 (v := 1) dX6_ends_90 (rfl : _ = 91) (by decide) ?_
  refine V_iadd Y.1 dX6_ends_91 (rfl : _ = 92) ?_
  refine V_nm (v := nI (k + 1)) (by rw [hk]; exact nI_1 k) ?_
  refine V_put Y.1 fi_X6_48 fw_X6 rfl rfl hM.1 (Or.inl ⟨by omega, by omega⟩) rfl rfl (Nat.le_of_ble_eq_true rfl) dX6_ends_92 (rfl : _ = 95) (fun H92_27 h_new o_92 => ?_)
  have hM := hM.f5 o_92 h_new
  clear h_new
  refine V_iload_n Y.1 1 dX6_ends_95 (rfl : _ = 96) rfl rfl ?_
  exact V_ret Y.1 dX6_ends_96 rfl (Nat.le_of_ble_eq_true rfl) (Nat.le_of_ble_eq_true rfl) ⟨rfl, hM⟩

set_option maxRecDepth 100000 in
set_option maxHeartbeats 4000000 in
theorem c_X6_ends_8 (l : Launch) (D : va_G) (kA : Nat → ClassId) (H0 : Heap) (o : Nat) (F s b v p u t c : Nat → Int32) (x : Int32) (hM : Rs D kA H0 o F s b v p u t c) (hf : F 6 = 0) (hk : F 5 = 8) : Ct l D kA yX6_ends cX6_ends 2 (some .int) 1 48 0 0 H0 [.ref o, .int x] (blk o 8) (pI fun v9 H => v9 = x ∧ Rs D kA H o (upd F 5 8) s b v (va_cpy b (va_cpy p p 169 0 1183) 0 (169 * 7) 169) u t c) := by
  refine Ct.of mi_X6_ends (Nat.le_of_ble_eq_true rfl) (ls0 := [(0, _), (1, _)]) rfl ?_
  intro Pp Ee Ss Mm Ar Bl Me Cc Y hs hnm
  refine V_aload_n Y.1 0 dX6_ends_0 (rfl : _ = 1) rfl rfl ?_
  refine V_get Y.1 fi_X6_39 hM.1 rfl dX6_ends_1 (rfl : _ = 4) ?_
  refine V_if_le Y.1 (tgt := 25) dX6_ends_4 (by decide) (rfl : _ = 7) (fun _ => ?_) (fun c_n => absurd (by rw [hf]; decide) c_n)
  refine V_aload_n Y.1 0 dX6_ends_25 (rfl : _ = 26) rfl rfl ?_
  refine V_get Y.1 fi_X6_48 hM.1 rfl dX6_ends_26 (rfl : _ = 29) ?_
  refine V_bipush Y.1 (v := 8) dX6_ends_29 (rfl : _ = 31) (by decide) ?_
  refine V_icmp_ne Y.1 (tgt := 62) dX6_ends_31 (by decide) (rfl : _ = 34) (fun c_n => absurd (by rw [hk]) c_n) (fun _ => ?_)
  refine V_aload_n Y.1 0 dX6_ends_34 (rfl : _ = 35) rfl rfl ?_
  refine V_get Y.1 fi_X6_19 hM.1 rfl dX6_ends_35 (rfl : _ = 38) ?_
  refine V_sipush Y.1 (v := 169) dX6_ends_38 (rfl : _ = 41) (by decide) ?_
  refine V_aload_n Y.1 0 dX6_ends_41 (rfl : _ = 42) rfl rfl ?_
  refine V_get Y.1 fi_X6_19 hM.1 rfl dX6_ends_42 (rfl : _ = 45) ?_
  refine V_iconst Y.1 (v := 0) dX6_ends_45 (rfl : _ = 46) (by decide) ?_
  refine V_sipush Y.1 (v := 1183) dX6_ends_46 (rfl : _ = 49) (by decide) ?_
  refine V_copy Y.1 aw_X6_42 (sp := 169) (dp := 0) (N := 1183) hM.2.2.2.2.1 hM.2.2.2.2.1 rfl rfl (Or.inl ⟨by omega, by omega⟩) rfl rfl rfl (by omega) (by omega) (by omega) (by omega) (fun _ _ => rfl) (Nat.le_of_ble_eq_true rfl) (Nat.le_of_ble_eq_true rfl) dX6_ends_49 (rfl : _ = 52) (fun H49_14 h_new o_49 => ?_)
  have hM := hM.a4 o_49 h_new
  clear h_new
  refine V_aload_n Y.1 0 dX6_ends_52 (rfl : _ = 53) rfl rfl ?_
  refine V_dup Y.1 dX6_ends_53 (rfl : _ = 54) rfl ?_
  refine V_get Y.1 fi_X6_48 hM.1 rfl dX6_ends_54 (rfl : _ = 57) ?_
  refine V_iconst Y.1 (v := 1) dX6_ends_57 (rfl : _ = 58) (by decide) ?_
  refine V_isub Y.1 dX6_ends_58 (rfl : _ = 59) ?_
  refine V_nm (v := 7) (by rw [hk]; decide) ?_
  refine V_put Y.1 fi_X6_48 fw_X6 rfl rfl hM.1 (Or.inl ⟨by omega, by omega⟩) rfl rfl (Nat.le_of_ble_eq_true rfl) dX6_ends_59 (rfl : _ = 62) (fun H59_23 h_new o_59 => ?_)
  have hM := hM.f5 o_59 h_new
  clear h_new
  refine V_aload_n Y.1 0 dX6_ends_62 (rfl : _ = 63) rfl rfl ?_
  refine V_get Y.1 fi_X6_13 hM.1 rfl dX6_ends_63 (rfl : _ = 66) ?_
  refine V_iconst Y.1 (v := 0) dX6_ends_66 (rfl : _ = 67) (by decide) ?_
  refine V_aload_n Y.1 0 dX6_ends_67 (rfl : _ = 68) rfl rfl ?_
  refine V_get Y.1 fi_X6_19 hM.1 rfl dX6_ends_68 (rfl : _ = 71) ?_
  refine V_sipush Y.1 (v := 169) dX6_ends_71 (rfl : _ = 74) (by decide) ?_
  refine V_aload_n Y.1 0 dX6_ends_74 (rfl : _ = 75) rfl rfl ?_
  refine V_get Y.1 fi_X6_48 hM.1 rfl dX6_ends_75 (rfl : _ = 78) ?_
  refine V_imul Y.1 dX6_ends_78 (rfl : _ = 79) ?_
  refine V_nm (v := nI (169 * 7)) (by rw [pk_us]; decide) ?_
  refine V_sipush Y.1 (v := 169) dX6_ends_79 (rfl : _ = 82) (by decide) ?_
  refine V_copy Y.1 aw_X6_42 (sp := 0) (dp := 169 * 7) (N := 169) hM.2.2.1 hM.2.2.2.2.1 rfl rfl (Or.inl ⟨by omega, by omega⟩) rfl rfl rfl (by omega) (by omega) (by omega) (by omega) (fun _ _ => rfl) (Nat.le_of_ble_eq_true rfl) (Nat.le_of_ble_eq_true rfl) dX6_ends_82 (rfl : _ = 85) (fun H82_37 h_new o_82 => ?_)
  have hM := hM.a4 o_82 h_new
  clear h_new
  refine V_aload_n Y.1 0 dX6_ends_85 (rfl : _ = 86) rfl rfl ?_
  refine V_dup Y.1 dX6_ends_86 (rfl : _ = 87) rfl ?_
  refine V_get Y.1 fi_X6_48 hM.1 rfl dX6_ends_87 (rfl : _ = 90) ?_
  refine V_iconst Y.1 (v := 1) dX6_ends_90 (rfl : _ = 91) (by decide) ?_
  refine V_iadd Y.1 dX6_ends_91 (rfl : _ = 92) ?_
  refine V_nm (v := 8) (by rw [pk_us]; decide) ?_
  refine V_put Y.1 fi_X6_48 fw_X6 rfl rfl hM.1 (Or.inl ⟨by omega, by omega⟩) rfl rfl (Nat.le_of_ble_eq_true rfl) dX6_ends_92 (rfl : _ = 95) (fun H92_46 h_new o_92 => ?_)
  have hM := hM.f5 o_92 h_new
  clear h_new
  refine V_iload_n Y.1 1 dX6_ends_95 (rfl : _ = 96) rfl rfl ?_
  exact V_ret Y.1 dX6_ends_96 rfl (Nat.le_of_ble_eq_true rfl) (Nat.le_of_ble_eq_true rfl) ⟨rfl, by rw [upd2] at hM; exact hM⟩

set_option maxRecDepth 100000 in
set_option maxHeartbeats 4000000 in
theorem c_X6_doLoad (l : Launch) (D : va_G) (kA : Nat → ClassId) (H0 : Heap) (o : Nat) (F s b v p u t c : Nat → Int32) (n t0 : Nat) (x y : Int32) (hM : Rs D kA H0 o F s b v p u t c) (hI : RI s n t0) (h6 : F 6 = 0) : Ct l D kA yX6_doLoad cX6_doLoad 4 (some .int) 2 43 0 0 H0 [.ref o, .int x, .int y] (blk o 8) (pI fun v9 H => v9 = (q_load s x y).2.1 ∧ Rs D kA H o (upd F 6 (nI (q_load s x y).1)) ((q_load s x y).2.2) b v p u t c) := by
  refine Ct.of mi_X6_doLoad (Nat.le_of_ble_eq_true rfl) (ls0 := [(0, _), (1, _), (2, _)]) rfl ?_
  intro Pp Ee Ss Mm Ar Bl Me Cc Y hs hnm
  refine V_aload_n Y.1 0 dX6_doLoad_0 (rfl : _ = 1) rfl rfl ?_
  refine V_iload_n Y.1 1 dX6_doLoad_1 (rfl : _ = 2) rfl rfl ?_
  refine V_cP Y (rV Y (c_X6_isCard l D kA _ _ _ _ _ _ _ _ _ _ _ hM) mi_X6_isCard vi_X6_113 rfl hM.1 rfl rfl (Nat.le_of_ble_eq_true rfl) ⟨Nat.le_of_ble_eq_true rfl, Nat.le_of_ble_eq_true rfl⟩ (Nat.le_of_ble_eq_true rfl) (Nat.le_of_ble_eq_true rfl) dX6_doLoad_2) (rfl : _ = 5) ?_
  refine V_if_ne Y.1 (tgt := 14) dX6_doLoad_5 (by decide) (rfl : _ = 8) (fun c_5 => ?_) (fun c_5 => ?_)
  · obtain ⟨i, hi0, rfl⟩ := r_in_ca hI.1 hI.2.1 c_5
    have hi : i < 8 := by have := hI.2.1; omega
    have ei : (nI i).toNatClampNeg = i := nI_clamp (by omega)
    refine V_iload_n Y.1 2 dX6_doLoad_14 (rfl : _ = 15) rfl rfl ?_
    refine V_iconst Y.1 (v := 1) dX6_doLoad_15 (rfl : _ = 16) (by decide) ?_
    refine V_sipush Y.1 (v := 9999) dX6_doLoad_16 (rfl : _ = 19) (by decide) ?_
    refine V_cP Y (rS Y (c_X6_in l D kA _ _ _ _) mi_X6_in si_X6_51 rfl rfl (Nat.le_of_ble_eq_true rfl) ⟨Nat.le_of_ble_eq_true rfl, Nat.le_of_ble_eq_true rfl⟩ (Nat.le_of_ble_eq_true rfl) (Nat.le_of_ble_eq_true rfl) dX6_doLoad_19) (rfl : _ = 22) ?_
    refine V_if_ne Y.1 (tgt := 31) dX6_doLoad_22 (by decide) (rfl : _ = 25) (fun c_22 => ?_) (fun c_22 => ?_)
    · refine V_aload_n Y.1 0 dX6_doLoad_31 (rfl : _ = 32) rfl rfl ?_
      refine V_iload_n Y.1 1 dX6_doLoad_32 (rfl : _ = 33) rfl rfl ?_
      refine V_iconst Y.1 (v := 1) dX6_doLoad_33 (rfl : _ = 34) (by decide) ?_
      refine V_cP Y (rV Y (c_X6_of l D kA _ _ _ _ _ _ _ _ _ _ i hi 1 (by decide) hM) mi_X6_of vi_X6_67 rfl hM.1 rfl rfl (Nat.le_of_ble_eq_true rfl) ⟨Nat.le_of_ble_eq_true rfl, Nat.le_of_ble_eq_true rfl⟩ (Nat.le_of_ble_eq_true rfl) (Nat.le_of_ble_eq_true rfl) dX6_doLoad_34) (rfl : _ = 37) ?_
      refine V_iload_n Y.1 2 dX6_doLoad_37 (rfl : _ = 38) rfl rfl ?_
      refine V_iadd Y.1 dX6_doLoad_38 (rfl : _ = 39) ?_
      refine V_istore_n Y.1 (ls' := [(3, _), (0, _), (1, _), (2, _)]) dX6_doLoad_39 (rfl : _ = 40) rfl (by decide) rfl ?_
      refine V_iload_n Y.1 0 dX6_doLoad_40 (rfl : _ = 41) rfl rfl ?_
      refine V_sipush Y.1 (v := 20000) dX6_doLoad_41 (rfl : _ = 44) (by decide) ?_
      refine V_icmp_le Y.1 (tgt := 53) dX6_doLoad_44 (by decide) (rfl : _ = 47) (fun c_44 => ?_) (fun c_44 => ?_)
      · refine V_aload_n Y.1 1 dX6_doLoad_53 (rfl : _ = 54) rfl rfl ?_
        refine V_iload_n Y.1 2 dX6_doLoad_54 (rfl : _ = 55) rfl rfl ?_
        refine V_iconst Y.1 (v := 1) dX6_doLoad_55 (rfl : _ = 56) (by decide) ?_
        refine V_iload_n Y.1 0 dX6_doLoad_56 (rfl : _ = 57) rfl rfl ?_
        refine V_cV Y (rV Y (c_X6_sets l D kA _ _ _ _ _ _ _ _ _ _ i hi 1 (by decide) _ hM) mi_X6_sets vi_X6_73 rfl hM.1 rfl rfl (Nat.le_of_ble_eq_true rfl) ⟨Nat.le_of_ble_eq_true rfl, Nat.le_of_ble_eq_true rfl⟩ (Nat.le_of_ble_eq_true rfl) (Nat.le_of_ble_eq_true rfl) dX6_doLoad_57) (fun q hq => Or.inl (blk_sub (by omega) (by omega) q hq)) (rfl : _ = 60) (fun H57_26 hq_57 o_57 => ?_)
        have hM := hq_57
        refine V_aload_n Y.1 1 dX6_doLoad_60 (rfl : _ = 61) rfl rfl ?_
        refine V_get Y.1 fi_X6_9 hM.1 rfl dX6_doLoad_61 (rfl : _ = 64) ?_
        refine V_iconst Y.1 (v := 4) dX6_doLoad_64 (rfl : _ = 65) (by decide) ?_
        refine V_dup2 Y.1 dX6_doLoad_65 (rfl : _ = 66) rfl rfl ?_
        refine V_iald Y.1 hM.2.1 (by unfold vp_in; decide) rfl dX6_doLoad_66 (rfl : _ = 67) ?_
        refine V_iload_n Y.1 3 dX6_doLoad_67 (rfl : _ = 68) rfl rfl ?_
        refine V_iadd Y.1 dX6_doLoad_68 (rfl : _ = 69) ?_
        refine V_iast Y.1 hM.2.1 (Or.inl ⟨by omega, by omega⟩) (by unfold vp_in; decide) dX6_doLoad_69 (rfl : _ = 70) (fun H69_35 h_new o_69 => ?_)
        have h_new : hp D _ _ (eI kA 169 (upd _ 4 _)) := h_new
        have hM := hM.a1 o_69 h_new
        clear h_new
        refine V_iload_n Y.1 0 dX6_doLoad_70 (rfl : _ = 71) rfl rfl ?_
        exact V_ret Y.1 dX6_doLoad_71 rfl (Nat.le_of_ble_eq_true rfl) (Nat.le_of_ble_eq_true rfl) (q_e (z := 0) rfl (by rw [show nI 0 = 0 from rfl, upd_same h6]; exact hM) (by unfold q_load; simp only [*, if_true, if_false, not_true, not_false_iff, true_and, reduceIte, ge_iff_le, gt_iff_lt] <;> rfl))
      · refine V_aload_n Y.1 1 dX6_doLoad_47 (rfl : _ = 48) rfl rfl ?_
        refine V_iconst Y.1 (v := 3) dX6_doLoad_48 (rfl : _ = 49) (by decide) ?_
        refine V_cI Y (rV Y (c_X6_fails l D kA _ _ _ _ _ _ _ _ _ _ 3 hM) mi_X6_fails vi_X6_100 rfl hM.1 rfl rfl (Nat.le_of_ble_eq_true rfl) ⟨Nat.le_of_ble_eq_true rfl, Nat.le_of_ble_eq_true rfl⟩ (Nat.le_of_ble_eq_true rfl) (Nat.le_of_ble_eq_true rfl) dX6_doLoad_49) (fun q hq => Or.inl (blk_sub (by omega) (by omega) q hq)) (rfl : _ = 52) (fun v_49 H49_43 hq_49 o_49 => ?_)
        obtain ⟨e49, hM⟩ := hq_49
        exact V_ret Y.1 dX6_doLoad_52 rfl (Nat.le_of_ble_eq_true rfl) (Nat.le_of_ble_eq_true rfl) (q_e (z := 3) e49 hM (by unfold q_load; simp only [*, if_true, if_false, not_true, not_false_iff, true_and, reduceIte, ge_iff_le, gt_iff_lt] <;> rfl))
    · refine V_aload_n Y.1 0 dX6_doLoad_25 (rfl : _ = 26) rfl rfl ?_
      refine V_iconst Y.1 (v := 2) dX6_doLoad_26 (rfl : _ = 27) (by decide) ?_
      refine V_cI Y (rV Y (c_X6_fails l D kA _ _ _ _ _ _ _ _ _ _ 2 hM) mi_X6_fails vi_X6_100 rfl hM.1 rfl rfl (Nat.le_of_ble_eq_true rfl) ⟨Nat.le_of_ble_eq_true rfl, Nat.le_of_ble_eq_true rfl⟩ (Nat.le_of_ble_eq_true rfl) (Nat.le_of_ble_eq_true rfl) dX6_doLoad_27) (fun q hq => Or.inl (blk_sub (by omega) (by omega) q hq)) (rfl : _ = 30) (fun v_27 H27_48 hq_27 o_27 => ?_)
      obtain ⟨e27, hM⟩ := hq_27
      exact V_ret Y.1 dX6_doLoad_30 rfl (Nat.le_of_ble_eq_true rfl) (Nat.le_of_ble_eq_true rfl) (q_e (z := 2) e27 hM (by unfold q_load; simp only [*, if_true, if_false, not_true, not_false_iff, true_and, reduceIte, ge_iff_le, gt_iff_lt] <;> rfl))
  · refine V_aload_n Y.1 0 dX6_doLoad_8 (rfl : _ = 9) rfl rfl ?_
    refine V_iconst Y.1 (v := 1) dX6_doLoad_9 (rfl : _ = 10) (by decide) ?_
    refine V_cI Y (rV Y (c_X6_fails l D kA _ _ _ _ _ _ _ _ _ _ 1 hM) mi_X6_fails vi_X6_100 rfl hM.1 rfl rfl (Nat.le_of_ble_eq_true rfl) ⟨Nat.le_of_ble_eq_true rfl, Nat.le_of_ble_eq_true rfl⟩ (Nat.le_of_ble_eq_true rfl) (Nat.le_of_ble_eq_true rfl) dX6_doLoad_10) (fun q hq => Or.inl (blk_sub (by omega) (by omega) q hq)) (rfl : _ = 13) (fun v_10 H10_53 hq_10 o_10 => ?_)
    obtain ⟨e10, hM⟩ := hq_10
    exact V_ret Y.1 dX6_doLoad_13 rfl (Nat.le_of_ble_eq_true rfl) (Nat.le_of_ble_eq_true rfl) (q_e (z := 1) e10 hM (by unfold q_load; simp only [*, if_true, if_false, not_true, not_false_iff, true_and, reduceIte, ge_iff_le, gt_iff_lt] <;> rfl))

set_option maxRecDepth 100000 in
set_option maxHeartbeats 4000000 in
theorem c_X6_doSetZone (l : Launch) (D : va_G) (kA : Nat → ClassId) (H0 : Heap) (o : Nat) (F s b v p u t c : Nat → Int32) (x y : Int32) (hM : Rs D kA H0 o F s b v p u t c) (h6 : F 6 = 0) : Ct l D kA yX6_doSetZone cX6_doSetZone 4 (some .int) 2 42 0 0 H0 [.ref o, .int x, .int y] (blk o 8) (pI fun v9 H => v9 = (q_zone s x y).2.1 ∧ Rs D kA H o (upd F 6 (nI (q_zone s x y).1)) ((q_zone s x y).2.2) b v p u t c) := by
  refine Ct.of mi_X6_doSetZone (Nat.le_of_ble_eq_true rfl) (ls0 := [(0, _), (1, _), (2, _)]) rfl ?_
  intro Pp Ee Ss Mm Ar Bl Me Cc Y hs hnm
  refine V_iload_n Y.1 1 dX6_doSetZone_0 (rfl : _ = 1) rfl rfl ?_
  refine V_cP Y (rS Y (c_X6_isStation l D kA _ _) mi_X6_isStation si_X6_120 rfl rfl (Nat.le_of_ble_eq_true rfl) ⟨Nat.le_of_ble_eq_true rfl, Nat.le_of_ble_eq_true rfl⟩ (Nat.le_of_ble_eq_true rfl) (Nat.le_of_ble_eq_true rfl) dX6_doSetZone_1) (rfl : _ = 4) ?_
  refine V_if_ne Y.1 (tgt := 13) dX6_doSetZone_4 (by decide) (rfl : _ = 7) (fun c_4 => ?_) (fun c_4 => ?_)
  · obtain ⟨w, hw, rfl⟩ := r_in_st c_4
    have ew : (nI w).toNatClampNeg = w := nI_clamp (by omega)
    refine V_iload_n Y.1 2 dX6_doSetZone_13 (rfl : _ = 14) rfl rfl ?_
    refine V_iconst Y.1 (v := 1) dX6_doSetZone_14 (rfl : _ = 15) (by decide) ?_
    refine V_bipush Y.1 (v := 6) dX6_doSetZone_15 (rfl : _ = 17) (by decide) ?_
    refine V_cP Y (rS Y (c_X6_in l D kA _ _ _ _) mi_X6_in si_X6_51 rfl rfl (Nat.le_of_ble_eq_true rfl) ⟨Nat.le_of_ble_eq_true rfl, Nat.le_of_ble_eq_true rfl⟩ (Nat.le_of_ble_eq_true rfl) (Nat.le_of_ble_eq_true rfl) dX6_doSetZone_17) (rfl : _ = 20) ?_
    refine V_if_ne Y.1 (tgt := 29) dX6_doSetZone_20 (by decide) (rfl : _ = 23) (fun c_20 => ?_) (fun c_20 => ?_)
    · refine V_aload_n Y.1 0 dX6_doSetZone_29 (rfl : _ = 30) rfl rfl ?_
      refine V_get Y.1 fi_X6_9 hM.1 rfl dX6_doSetZone_30 (rfl : _ = 33) ?_
      refine V_bipush Y.1 (v := 9) dX6_doSetZone_33 (rfl : _ = 35) (by decide) ?_
      refine V_iload_n Y.1 1 dX6_doSetZone_35 (rfl : _ = 36) rfl rfl ?_
      refine V_iadd Y.1 dX6_doSetZone_36 (rfl : _ = 37) ?_
      refine V_nm (v := nI (9 + w)) (nI_add _ _) ?_
      refine V_iald Y.1 (v := s (9 + w)) hM.2.1 (by first | assumption | exact vp_in_nI (by omega) (by omega)) (by rw [nI_clamp (by omega)]) dX6_doSetZone_37 (rfl : _ = 38) ?_
      refine V_istore_n Y.1 (ls' := [(3, _), (0, _), (1, _), (2, _)]) dX6_doSetZone_38 (rfl : _ = 39) rfl (by decide) rfl ?_
      refine V_aload_n Y.1 1 dX6_doSetZone_39 (rfl : _ = 40) rfl rfl ?_
      refine V_get Y.1 fi_X6_9 hM.1 rfl dX6_doSetZone_40 (rfl : _ = 43) ?_
      refine V_bipush Y.1 (v := 9) dX6_doSetZone_43 (rfl : _ = 45) (by decide) ?_
      refine V_iload_n Y.1 2 dX6_doSetZone_45 (rfl : _ = 46) rfl rfl ?_
      refine V_iadd Y.1 dX6_doSetZone_46 (rfl : _ = 47) ?_
      refine V_nm (v := nI (9 + w)) (nI_add _ _) ?_
      refine V_iload_n Y.1 3 dX6_doSetZone_47 (rfl : _ = 48) rfl rfl ?_
      refine V_iast Y.1 hM.2.1 (Or.inl ⟨by omega, by omega⟩) (by first | assumption | exact vp_in_nI (by omega) (by omega)) dX6_doSetZone_48 (rfl : _ = 49) (fun H48_25 h_new o_48 => ?_)
      rw [nI_clamp (by omega)] at h_new
      have hM := hM.a1 o_48 h_new
      clear h_new
      refine V_iload_n Y.1 0 dX6_doSetZone_49 (rfl : _ = 50) rfl rfl ?_
      exact V_ret Y.1 dX6_doSetZone_50 rfl (Nat.le_of_ble_eq_true rfl) (Nat.le_of_ble_eq_true rfl) (q_e (z := 0) rfl (by rw [show nI 0 = 0 from rfl, upd_same h6]; exact hM) (by unfold q_zone; simp only [*, if_true, if_false, not_true, not_false_iff, true_and, reduceIte, ge_iff_le, gt_iff_lt] <;> rfl))
    · refine V_aload_n Y.1 0 dX6_doSetZone_23 (rfl : _ = 24) rfl rfl ?_
      refine V_iconst Y.1 (v := 2) dX6_doSetZone_24 (rfl : _ = 25) (by decide) ?_
      refine V_cI Y (rV Y (c_X6_fails l D kA _ _ _ _ _ _ _ _ _ _ 2 hM) mi_X6_fails vi_X6_100 rfl hM.1 rfl rfl (Nat.le_of_ble_eq_true rfl) ⟨Nat.le_of_ble_eq_true rfl, Nat.le_of_ble_eq_true rfl⟩ (Nat.le_of_ble_eq_true rfl) (Nat.le_of_ble_eq_true rfl) dX6_doSetZone_25) (fun q hq => Or.inl (blk_sub (by omega) (by omega) q hq)) (rfl : _ = 28) (fun v_25 H25_33 hq_25 o_25 => ?_)
      obtain ⟨e25, hM⟩ := hq_25
      exact V_ret Y.1 dX6_doSetZone_28 rfl (Nat.le_of_ble_eq_true rfl) (Nat.le_of_ble_eq_true rfl) (q_e (z := 2) e25 hM (by unfold q_zone; simp only [*, if_true, if_false, not_true, not_false_iff, true_and, reduceIte, ge_iff_le, gt_iff_lt] <;> rfl))
  · refine V_aload_n Y.1 0 dX6_doSetZone_7 (rfl : _ = 8) rfl rfl ?_
    refine V_iconst Y.1 (v := 1) dX6_doSetZone_8 (rfl : _ = 9) (by decide) ?_
    refine V_cI Y (rV Y (c_X6_fails l D kA _ _ _ _ _ _ _ _ _ _ 1 hM) mi_X6_fails vi_X6_100 rfl hM.1 rfl rfl (Nat.le_of_ble_eq_true rfl) ⟨Nat.le_of_ble_eq_true rfl, Nat.le_of_ble_eq_true rfl⟩ (Nat.le_of_ble_eq_true rfl) (Nat.le_of_ble_eq_true rfl) dX6_doSetZone_9) (fun q hq => Or.inl (blk_sub (by omega) (by omega) q hq)) (rfl : _ = 12) (fun v_9 H9_38 hq_9 o_9 => ?_)
    obtain ⟨e9, hM⟩ := hq_9
    exact V_ret Y.1 dX6_doSetZone_12 rfl (Nat.le_of_ble_eq_true rfl) (Nat.le_of_ble_eq_true rfl) (q_e (z := 1) e9 hM (by unfold q_zone; simp only [*, if_true, if_false, not_true, not_false_iff, true_and, reduceIte, ge_iff_le, gt_iff_lt] <;> rfl))

set_option maxRecDepth 100000 in
set_option maxHeartbeats 4000000 in
theorem c_X6_doIssueCard (l : Launch) (D : va_G) (kA : Nat → ClassId) (H0 : Heap) (o : Nat) (F s b v p u t c : Nat → Int32) (n t0 : Nat) (r : Int32) (hM : Rs D kA H0 o F s b v p u t c) (hI : RI s n t0) (h6 : F 6 = 0) : Ct l D kA yX6_doIssueCard cX6_doIssueCard 4 (some .int) 1 23 0 0 H0 [.ref o, .int r] (blk o 8) (pI fun v9 H => v9 = (q_issue s r).2.1 ∧ Rs D kA H o (upd F 6 (nI (q_issue s r).1)) ((q_issue s r).2.2) b v p u t c) := by
  refine Ct.of mi_X6_doIssueCard (Nat.le_of_ble_eq_true rfl) (ls0 := [(0, _), (1, _)]) rfl ?_
  intro Pp Ee Ss Mm Ar Bl Me Cc Y hs hnm
  refine V_aload_n Y.1 0 dX6_doIssueCard_0 (rfl : _ = 1) rfl rfl ?_
  refine V_get Y.1 fi_X6_9 hM.1 rfl dX6_doIssueCard_1 (rfl : _ = 4) ?_
  refine V_iconst Y.1 (v := 0) dX6_doIssueCard_4 (rfl : _ = 5) (by decide) ?_
  refine V_iald Y.1 (v := nI n) hM.2.1 (by unfold vp_in; decide) hI.1 dX6_doIssueCard_5 (rfl : _ = 6) ?_
  refine V_istore_n Y.1 (ls' := [(2, _), (0, _), (1, _)]) dX6_doIssueCard_6 (rfl : _ = 7) rfl (by decide) rfl ?_
  refine V_iload_n Y.1 0 dX6_doIssueCard_7 (rfl : _ = 8) rfl rfl ?_
  refine V_bipush Y.1 (v := 8) dX6_doIssueCard_8 (rfl : _ = 10) (by decide) ?_
  refine V_icmp_ne Y.1 (tgt := 19) dX6_doIssueCard_10 (by decide) (rfl : _ = 13) (fun c_10 => ?_) (fun c_10 => ?_)
  · have h0 := hI.1
    have en : (nI n).toNatClampNeg = n := nI_clamp (by have := hI.2.1; omega)
    have hn : n < 8 := by
      have := hI.2.1
      by_cases q : n = 8
      · subst q; exact absurd rfl c_10
      · omega
    refine V_iconst Y.1 (v := 0) dX6_doIssueCard_19 (rfl : _ = 20) (by decide) ?_
    refine V_istore_n Y.1 (ls' := [(3, _), (2, _), (0, _), (1, _)]) dX6_doIssueCard_20 (rfl : _ = 21) rfl (by decide) rfl ?_
    refine V_iload_n Y.1 0 dX6_doIssueCard_21 (rfl : _ = 22) rfl rfl ?_
    refine V_bipush Y.1 (v := 17) dX6_doIssueCard_22 (rfl : _ = 24) (by decide) ?_
    refine V_icmp_ge Y.1 (tgt := 40) dX6_doIssueCard_24 (by decide) (rfl : _ = 27) (fun c_n => absurd c_n (by decide)) (fun _ => ?_)
    refine V_aload_n Y.1 2 dX6_doIssueCard_27 (rfl : _ = 28) rfl rfl ?_
    refine V_iload_n Y.1 1 dX6_doIssueCard_28 (rfl : _ = 29) rfl rfl ?_
    refine V_iload_n Y.1 0 dX6_doIssueCard_29 (rfl : _ = 30) rfl rfl ?_
    refine V_iconst Y.1 (v := 0) dX6_doIssueCard_30 (rfl : _ = 31) (by decide) ?_
    refine V_cV Y (rV Y (c_X6_sets l D kA _ _ _ _ _ _ _ _ _ _ n hn 0 (by decide) 0 hM) mi_X6_sets vi_X6_73 rfl hM.1 rfl rfl (Nat.le_of_ble_eq_true rfl) ⟨Nat.le_of_ble_eq_true rfl, Nat.le_of_ble_eq_true rfl⟩ (Nat.le_of_ble_eq_true rfl) (Nat.le_of_ble_eq_true rfl) dX6_doIssueCard_31) (fun q hq => Or.inl (blk_sub (by omega) (by omega) q hq)) (rfl : _ = 34) (fun H31_24 hq_31 o_31 => ?_)
    have hM := hq_31
    refine V_iinc Y.1 (v := 1) (ls' := [(3, _), (2, _), (0, _), (1, _)]) 0 dX6_doIssueCard_34 (rfl : _ = 37) rfl (by decide) (by decide) rfl ?_
    refine V_goto Y.1 (tgt := 21) dX6_doIssueCard_37 (by decide) ?_
    refine V_iload_n Y.1 0 dX6_doIssueCard_21 (rfl : _ = 22) rfl rfl ?_
    refine V_bipush Y.1 (v := 17) dX6_doIssueCard_22 (rfl : _ = 24) (by decide) ?_
    refine V_icmp_ge Y.1 (tgt := 40) dX6_doIssueCard_24 (by decide) (rfl : _ = 27) (fun c_n => absurd c_n (by decide)) (fun _ => ?_)
    refine V_aload_n Y.1 2 dX6_doIssueCard_27 (rfl : _ = 28) rfl rfl ?_
    refine V_iload_n Y.1 1 dX6_doIssueCard_28 (rfl : _ = 29) rfl rfl ?_
    refine V_iload_n Y.1 0 dX6_doIssueCard_29 (rfl : _ = 30) rfl rfl ?_
    refine V_iconst Y.1 (v := 0) dX6_doIssueCard_30 (rfl : _ = 31) (by decide) ?_
    refine V_cV Y (rV Y (c_X6_sets l D kA _ _ _ _ _ _ _ _ _ _ n hn 1 (by decide) 0 hM) mi_X6_sets vi_X6_73 rfl hM.1 rfl rfl (Nat.le_of_ble_eq_true rfl) ⟨Nat.le_of_ble_eq_true rfl, Nat.le_of_ble_eq_true rfl⟩ (Nat.le_of_ble_eq_true rfl) (Nat.le_of_ble_eq_true rfl) dX6_doIssueCard_31) (fun q hq => Or.inl (blk_sub (by omega) (by omega) q hq)) (rfl : _ = 34) (fun H31_35 hq_31 o_31 => ?_)
    have hM := hq_31
    refine V_iinc Y.1 (v := 2) (ls' := [(3, _), (2, _), (0, _), (1, _)]) 0 dX6_doIssueCard_34 (rfl : _ = 37) rfl (by decide) (by decide) rfl ?_
    refine V_goto Y.1 (tgt := 21) dX6_doIssueCard_37 (by decide) ?_
    refine V_iload_n Y.1 0 dX6_doIssueCard_21 (rfl : _ = 22) rfl rfl ?_
    refine V_bipush Y.1 (v := 17) dX6_doIssueCard_22 (rfl : _ = 24) (by decide) ?_
    refine V_icmp_ge Y.1 (tgt := 40) dX6_doIssueCard_24 (by decide) (rfl : _ = 27) (fun c_n => absurd c_n (by decide)) (fun _ => ?_)
    refine V_aload_n Y.1 2 dX6_doIssueCard_27 (rfl : _ = 28) rfl rfl ?_
    refine V_iload_n Y.1 1 dX6_doIssueCard_28 (rfl : _ = 29) rfl rfl ?_
    refine V_iload_n Y.1 0 dX6_doIssueCard_29 (rfl : _ = 30) rfl rfl ?_
    refine V_iconst Y.1 (v := 0) dX6_doIssueCard_30 (rfl : _ = 31) (by decide) ?_
    refine V_cV Y (rV Y (c_X6_sets l D kA _ _ _ _ _ _ _ _ _ _ n hn 2 (by decide) 0 hM) mi_X6_sets vi_X6_73 rfl hM.1 rfl rfl (Nat.le_of_ble_eq_true rfl) ⟨Nat.le_of_ble_eq_true rfl, Nat.le_of_ble_eq_true rfl⟩ (Nat.le_of_ble_eq_true rfl) (Nat.le_of_ble_eq_true rfl) dX6_doIssueCard_31) (fun q hq => Or.inl (blk_sub (by omega) (by omega) q hq)) (rfl : _ = 34) (fun H31_46 hq_31 o_31 => ?_)
    have hM := hq_31
    refine V_iinc Y.1 (v := 3) (ls' := [(3, _), (2, _), (0, _), (1, _)]) 0 dX6_doIssueCard_34 (rfl : _ = 37) rfl (by decide) (by decide) rfl ?_
    refine V_goto Y.1 (tgt := 21) dX6_doIssueCard_37 (by decide) ?_
    refine V_iload_n Y.1 0 dX6_doIssueCard_21 (rfl : _ = 22) rfl rfl ?_
    refine V_bipush Y.1 (v := 17) dX6_doIssueCard_22 (rfl : _ = 24) (by decide) ?_
    refine V_icmp_ge Y.1 (tgt := 40) dX6_doIssueCard_24 (by decide) (rfl : _ = 27) (fun c_n => absurd c_n (by decide)) (fun _ => ?_)
    refine V_aload_n Y.1 2 dX6_doIssueCard_27 (rfl : _ = 28) rfl rfl ?_
    refine V_iload_n Y.1 1 dX6_doIssueCard_28 (rfl : _ = 29) rfl rfl ?_
    refine V_iload_n Y.1 0 dX6_doIssueCard_29 (rfl : _ = 30) rfl rfl ?_
    refine V_iconst Y.1 (v := 0) dX6_doIssueCard_30 (rfl : _ = 31) (by decide) ?_
    refine V_cV Y (rV Y (c_X6_sets l D kA _ _ _ _ _ _ _ _ _ _ n hn 3 (by decide) 0 hM) mi_X6_sets vi_X6_73 rfl hM.1 rfl rfl (Nat.le_of_ble_eq_true rfl) ⟨Nat.le_of_ble_eq_true rfl, Nat.le_of_ble_eq_true rfl⟩ (Nat.le_of_ble_eq_true rfl) (Nat.le_of_ble_eq_true rfl) dX6_doIssueCard_31) (fun q hq => Or.inl (blk_sub (by omega) (by omega) q hq)) (rfl : _ = 34) (fun H31_57 hq_31 o_31 => ?_)
    have hM := hq_31
    refine V_iinc Y.1 (v := 4) (ls' := [(3, _), (2, _), (0, _), (1, _)]) 0 dX6_doIssueCard_34 (rfl : _ = 37) rfl (by decide) (by decide) rfl ?_
    refine V_goto Y.1 (tgt := 21) dX6_doIssueCard_37 (by decide) ?_
    refine V_iload_n Y.1 0 dX6_doIssueCard_21 (rfl : _ = 22) rfl rfl ?_
    refine V_bipush Y.1 (v := 17) dX6_doIssueCard_22 (rfl : _ = 24) (by decide) ?_
    refine V_icmp_ge Y.1 (tgt := 40) dX6_doIssueCard_24 (by decide) (rfl : _ = 27) (fun c_n => absurd c_n (by decide)) (fun _ => ?_)
    refine V_aload_n Y.1 2 dX6_doIssueCard_27 (rfl : _ = 28) rfl rfl ?_
    refine V_iload_n Y.1 1 dX6_doIssueCard_28 (rfl : _ = 29) rfl rfl ?_
    refine V_iload_n Y.1 0 dX6_doIssueCard_29 (rfl : _ = 30) rfl rfl ?_
    refine V_iconst Y.1 (v := 0) dX6_doIssueCard_30 (rfl : _ = 31) (by decide) ?_
    refine V_cV Y (rV Y (c_X6_sets l D kA _ _ _ _ _ _ _ _ _ _ n hn 4 (by decide) 0 hM) mi_X6_sets vi_X6_73 rfl hM.1 rfl rfl (Nat.le_of_ble_eq_true rfl) ⟨Nat.le_of_ble_eq_true rfl, Nat.le_of_ble_eq_true rfl⟩ (Nat.le_of_ble_eq_true rfl) (Nat.le_of_ble_eq_true rfl) dX6_doIssueCard_31) (fun q hq => Or.inl (blk_sub (by omega) (by omega) q hq)) (rfl : _ = 34) (fun H31_68 hq_31 o_31 => ?_)
    have hM := hq_31
    refine V_iinc Y.1 (v := 5) (ls' := [(3, _), (2, _), (0, _), (1, _)]) 0 dX6_doIssueCard_34 (rfl : _ = 37) rfl (by decide) (by decide) rfl ?_
    refine V_goto Y.1 (tgt := 21) dX6_doIssueCard_37 (by decide) ?_
    refine V_iload_n Y.1 0 dX6_doIssueCard_21 (rfl : _ = 22) rfl rfl ?_
    refine V_bipush Y.1 (v := 17) dX6_doIssueCard_22 (rfl : _ = 24) (by decide) ?_
    refine V_icmp_ge Y.1 (tgt := 40) dX6_doIssueCard_24 (by decide) (rfl : _ = 27) (fun c_n => absurd c_n (by decide)) (fun _ => ?_)
    refine V_aload_n Y.1 2 dX6_doIssueCard_27 (rfl : _ = 28) rfl rfl ?_
    refine V_iload_n Y.1 1 dX6_doIssueCard_28 (rfl : _ = 29) rfl rfl ?_
    refine V_iload_n Y.1 0 dX6_doIssueCard_29 (rfl : _ = 30) rfl rfl ?_
    refine V_iconst Y.1 (v := 0) dX6_doIssueCard_30 (rfl : _ = 31) (by decide) ?_
    refine V_cV Y (rV Y (c_X6_sets l D kA _ _ _ _ _ _ _ _ _ _ n hn 5 (by decide) 0 hM) mi_X6_sets vi_X6_73 rfl hM.1 rfl rfl (Nat.le_of_ble_eq_true rfl) ⟨Nat.le_of_ble_eq_true rfl, Nat.le_of_ble_eq_true rfl⟩ (Nat.le_of_ble_eq_true rfl) (Nat.le_of_ble_eq_true rfl) dX6_doIssueCard_31) (fun q hq => Or.inl (blk_sub (by omega) (by omega) q hq)) (rfl : _ = 34) (fun H31_79 hq_31 o_31 => ?_)
    have hM := hq_31
    refine V_iinc Y.1 (v := 6) (ls' := [(3, _), (2, _), (0, _), (1, _)]) 0 dX6_doIssueCard_34 (rfl : _ = 37) rfl (by decide) (by decide) rfl ?_
    refine V_goto Y.1 (tgt := 21) dX6_doIssueCard_37 (by decide) ?_
    refine V_iload_n Y.1 0 dX6_doIssueCard_21 (rfl : _ = 22) rfl rfl ?_
    refine V_bipush Y.1 (v := 17) dX6_doIssueCard_22 (rfl : _ = 24) (by decide) ?_
    refine V_icmp_ge Y.1 (tgt := 40) dX6_doIssueCard_24 (by decide) (rfl : _ = 27) (fun c_n => absurd c_n (by decide)) (fun _ => ?_)
    refine V_aload_n Y.1 2 dX6_doIssueCard_27 (rfl : _ = 28) rfl rfl ?_
    refine V_iload_n Y.1 1 dX6_doIssueCard_28 (rfl : _ = 29) rfl rfl ?_
    refine V_iload_n Y.1 0 dX6_doIssueCard_29 (rfl : _ = 30) rfl rfl ?_
    refine V_iconst Y.1 (v := 0) dX6_doIssueCard_30 (rfl : _ = 31) (by decide) ?_
    refine V_cV Y (rV Y (c_X6_sets l D kA _ _ _ _ _ _ _ _ _ _ n hn 6 (by decide) 0 hM) mi_X6_sets vi_X6_73 rfl hM.1 rfl rfl (Nat.le_of_ble_eq_true rfl) ⟨Nat.le_of_ble_eq_true rfl, Nat.le_of_ble_eq_true rfl⟩ (Nat.le_of_ble_eq_true rfl) (Nat.le_of_ble_eq_true rfl) dX6_doIssueCard_31) (fun q hq => Or.inl (blk_sub (by omega) (by omega) q hq)) (rfl : _ = 34) (fun H31_90 hq_31 o_31 => ?_)
    have hM := hq_31
    refine V_iinc Y.1 (v := 7) (ls' := [(3, _), (2, _), (0, _), (1, _)]) 0 dX6_doIssueCard_34 (rfl : _ = 37) rfl (by decide) (by decide) rfl ?_
    refine V_goto Y.1 (tgt := 21) dX6_doIssueCard_37 (by decide) ?_
    refine V_iload_n Y.1 0 dX6_doIssueCard_21 (rfl : _ = 22) rfl rfl ?_
    refine V_bipush Y.1 (v := 17) dX6_doIssueCard_22 (rfl : _ = 24) (by decide) ?_
    refine V_icmp_ge Y.1 (tgt := 40) dX6_doIssueCard_24 (by decide) (rfl : _ = 27) (fun c_n => absurd c_n (by decide)) (fun _ => ?_)
    refine V_aload_n Y.1 2 dX6_doIssueCard_27 (rfl : _ = 28) rfl rfl ?_
    refine V_iload_n Y.1 1 dX6_doIssueCard_28 (rfl : _ = 29) rfl rfl ?_
    refine V_iload_n Y.1 0 dX6_doIssueCard_29 (rfl : _ = 30) rfl rfl ?_
    refine V_iconst Y.1 (v := 0) dX6_doIssueCard_30 (rfl : _ = 31) (by decide) ?_
    refine V_cV Y (rV Y (c_X6_sets l D kA _ _ _ _ _ _ _ _ _ _ n hn 7 (by decide) 0 hM) mi_X6_sets vi_X6_73 rfl hM.1 rfl rfl (Nat.le_of_ble_eq_true rfl) ⟨Nat.le_of_ble_eq_true rfl, Nat.le_of_ble_eq_true rfl⟩ (Nat.le_of_ble_eq_true rfl) (Nat.le_of_ble_eq_true rfl) dX6_doIssueCard_31) (fun q hq => Or.inl (blk_sub (by omega) (by omega) q hq)) (rfl : _ = 34) (fun H31_101 hq_31 o_31 => ?_)
    have hM := hq_31
    refine V_iinc Y.1 (v := 8) (ls' := [(3, _), (2, _), (0, _), (1, _)]) 0 dX6_doIssueCard_34 (rfl : _ = 37) rfl (by decide) (by decide) rfl ?_
    refine V_goto Y.1 (tgt := 21) dX6_doIssueCard_37 (by decide) ?_
    refine V_iload_n Y.1 0 dX6_doIssueCard_21 (rfl : _ = 22) rfl rfl ?_
    refine V_bipush Y.1 (v := 17) dX6_doIssueCard_22 (rfl : _ = 24) (by decide) ?_
    refine V_icmp_ge Y.1 (tgt := 40) dX6_doIssueCard_24 (by decide) (rfl : _ = 27) (fun c_n => absurd c_n (by decide)) (fun _ => ?_)
    refine V_aload_n Y.1 2 dX6_doIssueCard_27 (rfl : _ = 28) rfl rfl ?_
    refine V_iload_n Y.1 1 dX6_doIssueCard_28 (rfl : _ = 29) rfl rfl ?_
    refine V_iload_n Y.1 0 dX6_doIssueCard_29 (rfl : _ = 30) rfl rfl ?_
    refine V_iconst Y.1 (v := 0) dX6_doIssueCard_30 (rfl : _ = 31) (by decide) ?_
    refine V_cV Y (rV Y (c_X6_sets l D kA _ _ _ _ _ _ _ _ _ _ n hn 8 (by decide) 0 hM) mi_X6_sets vi_X6_73 rfl hM.1 rfl rfl (Nat.le_of_ble_eq_true rfl) ⟨Nat.le_of_ble_eq_true rfl, Nat.le_of_ble_eq_true rfl⟩ (Nat.le_of_ble_eq_true rfl) (Nat.le_of_ble_eq_true rfl) dX6_doIssueCard_31) (fun q hq => Or.inl (blk_sub (by omega) (by omega) q hq)) (rfl : _ = 34) (fun H31_112 hq_31 o_31 => ?_)
    have hM := hq_31
    refine V_iinc Y.1 (v := 9) (ls' := [(3, _), (2, _), (0, _), (1, _)]) 0 dX6_doIssueCard_34 (rfl : _ = 37) rfl (by decide) (by decide) rfl ?_
    refine V_goto Y.1 (tgt := 21) dX6_doIssueCard_37 (by decide) ?_
    refine V_iload_n Y.1 0 dX6_doIssueCard_21 (rfl : _ = 22) rfl rfl ?_
    refine V_bipush Y.1 (v := 17) dX6_doIssueCard_22 (rfl : _ = 24) (by decide) ?_
    refine V_icmp_ge Y.1 (tgt := 40) dX6_doIssueCard_24 (by decide) (rfl : _ = 27) (fun c_n => absurd c_n (by decide)) (fun _ => ?_)
    refine V_aload_n Y.1 2 dX6_doIssueCard_27 (rfl : _ = 28) rfl rfl ?_
    refine V_iload_n Y.1 1 dX6_doIssueCard_28 (rfl : _ = 29) rfl rfl ?_
    refine V_iload_n Y.1 0 dX6_doIssueCard_29 (rfl : _ = 30) rfl rfl ?_
    refine V_iconst Y.1 (v := 0) dX6_doIssueCard_30 (rfl : _ = 31) (by decide) ?_
    refine V_cV Y (rV Y (c_X6_sets l D kA _ _ _ _ _ _ _ _ _ _ n hn 9 (by decide) 0 hM) mi_X6_sets vi_X6_73 rfl hM.1 rfl rfl (Nat.le_of_ble_eq_true rfl) ⟨Nat.le_of_ble_eq_true rfl, Nat.le_of_ble_eq_true rfl⟩ (Nat.le_of_ble_eq_true rfl) (Nat.le_of_ble_eq_true rfl) dX6_doIssueCard_31) (fun q hq => Or.inl (blk_sub (by omega) (by omega) q hq)) (rfl : _ = 34) (fun H31_123 hq_31 o_31 => ?_)
    have hM := hq_31
    refine V_iinc Y.1 (v := 10) (ls' := [(3, _), (2, _), (0, _), (1, _)]) 0 dX6_doIssueCard_34 (rfl : _ = 37) rfl (by decide) (by decide) rfl ?_
    refine V_goto Y.1 (tgt := 21) dX6_doIssueCard_37 (by decide) ?_
    refine V_iload_n Y.1 0 dX6_doIssueCard_21 (rfl : _ = 22) rfl rfl ?_
    refine V_bipush Y.1 (v := 17) dX6_doIssueCard_22 (rfl : _ = 24) (by decide) ?_
    refine V_icmp_ge Y.1 (tgt := 40) dX6_doIssueCard_24 (by decide) (rfl : _ = 27) (fun c_n => absurd c_n (by decide)) (fun _ => ?_)
    refine V_aload_n Y.1 2 dX6_doIssueCard_27 (rfl : _ = 28) rfl rfl ?_
    refine V_iload_n Y.1 1 dX6_doIssueCard_28 (rfl : _ = 29) rfl rfl ?_
    refine V_iload_n Y.1 0 dX6_doIssueCard_29 (rfl : _ = 30) rfl rfl ?_
    refine V_iconst Y.1 (v := 0) dX6_doIssueCard_30 (rfl : _ = 31) (by decide) ?_
    refine V_cV Y (rV Y (c_X6_sets l D kA _ _ _ _ _ _ _ _ _ _ n hn 10 (by decide) 0 hM) mi_X6_sets vi_X6_73 rfl hM.1 rfl rfl (Nat.le_of_ble_eq_true rfl) ⟨Nat.le_of_ble_eq_true rfl, Nat.le_of_ble_eq_true rfl⟩ (Nat.le_of_ble_eq_true rfl) (Nat.le_of_ble_eq_true rfl) dX6_doIssueCard_31) (fun q hq => Or.inl (blk_sub (by omega) (by omega) q hq)) (rfl : _ = 34) (fun H31_134 hq_31 o_31 => ?_)
    have hM := hq_31
    refine V_iinc Y.1 (v := 11) (ls' := [(3, _), (2, _), (0, _), (1, _)]) 0 dX6_doIssueCard_34 (rfl : _ = 37) rfl (by decide) (by decide) rfl ?_
    refine V_goto Y.1 (tgt := 21) dX6_doIssueCard_37 (by decide) ?_
    refine V_iload_n Y.1 0 dX6_doIssueCard_21 (rfl : _ = 22) rfl rfl ?_
    refine V_bipush Y.1 (v := 17) dX6_doIssueCard_22 (rfl : _ = 24) (by decide) ?_
    refine V_icmp_ge Y.1 (tgt := 40) dX6_doIssueCard_24 (by decide) (rfl : _ = 27) (fun c_n => absurd c_n (by decide)) (fun _ => ?_)
    refine V_aload_n Y.1 2 dX6_doIssueCard_27 (rfl : _ = 28) rfl rfl ?_
    refine V_iload_n Y.1 1 dX6_doIssueCard_28 (rfl : _ = 29) rfl rfl ?_
    refine V_iload_n Y.1 0 dX6_doIssueCard_29 (rfl : _ = 30) rfl rfl ?_
    refine V_iconst Y.1 (v := 0) dX6_doIssueCard_30 (rfl : _ = 31) (by decide) ?_
    refine V_cV Y (rV Y (c_X6_sets l D kA _ _ _ _ _ _ _ _ _ _ n hn 11 (by decide) 0 hM) mi_X6_sets vi_X6_73 rfl hM.1 rfl rfl (Nat.le_of_ble_eq_true rfl) ⟨Nat.le_of_ble_eq_true rfl, Nat.le_of_ble_eq_true rfl⟩ (Nat.le_of_ble_eq_true rfl) (Nat.le_of_ble_eq_true rfl) dX6_doIssueCard_31) (fun q hq => Or.inl (blk_sub (by omega) (by omega) q hq)) (rfl : _ = 34) (fun H31_145 hq_31 o_31 => ?_)
    have hM := hq_31
    refine V_iinc Y.1 (v := 12) (ls' := [(3, _), (2, _), (0, _), (1, _)]) 0 dX6_doIssueCard_34 (rfl : _ = 37) rfl (by decide) (by decide) rfl ?_
    refine V_goto Y.1 (tgt := 21) dX6_doIssueCard_37 (by decide) ?_
    refine V_iload_n Y.1 0 dX6_doIssueCard_21 (rfl : _ = 22) rfl rfl ?_
    refine V_bipush Y.1 (v := 17) dX6_doIssueCard_22 (rfl : _ = 24) (by decide) ?_
    refine V_icmp_ge Y.1 (tgt := 40) dX6_doIssueCard_24 (by decide) (rfl : _ = 27) (fun c_n => absurd c_n (by decide)) (fun _ => ?_)
    refine V_aload_n Y.1 2 dX6_doIssueCard_27 (rfl : _ = 28) rfl rfl ?_
    refine V_iload_n Y.1 1 dX6_doIssueCard_28 (rfl : _ = 29) rfl rfl ?_
    refine V_iload_n Y.1 0 dX6_doIssueCard_29 (rfl : _ = 30) rfl rfl ?_
    refine V_iconst Y.1 (v := 0) dX6_doIssueCard_30 (rfl : _ = 31) (by decide) ?_
    refine V_cV Y (rV Y (c_X6_sets l D kA _ _ _ _ _ _ _ _ _ _ n hn 12 (by decide) 0 hM) mi_X6_sets vi_X6_73 rfl hM.1 rfl rfl (Nat.le_of_ble_eq_true rfl) ⟨Nat.le_of_ble_eq_true rfl, Nat.le_of_ble_eq_true rfl⟩ (Nat.le_of_ble_eq_true rfl) (Nat.le_of_ble_eq_true rfl) dX6_doIssueCard_31) (fun q hq => Or.inl (blk_sub (by omega) (by omega) q hq)) (rfl : _ = 34) (fun H31_156 hq_31 o_31 => ?_)
    have hM := hq_31
    refine V_iinc Y.1 (v := 13) (ls' := [(3, _), (2, _), (0, _), (1, _)]) 0 dX6_doIssueCard_34 (rfl : _ = 37) rfl (by decide) (by decide) rfl ?_
    refine V_goto Y.1 (tgt := 21) dX6_doIssueCard_37 (by decide) ?_
    refine V_iload_n Y.1 0 dX6_doIssueCard_21 (rfl : _ = 22) rfl rfl ?_
    refine V_bipush Y.1 (v := 17) dX6_doIssueCard_22 (rfl : _ = 24) (by decide) ?_
    refine V_icmp_ge Y.1 (tgt := 40) dX6_doIssueCard_24 (by decide) (rfl : _ = 27) (fun c_n => absurd c_n (by decide)) (fun _ => ?_)
    refine V_aload_n Y.1 2 dX6_doIssueCard_27 (rfl : _ = 28) rfl rfl ?_
    refine V_iload_n Y.1 1 dX6_doIssueCard_28 (rfl : _ = 29) rfl rfl ?_
    refine V_iload_n Y.1 0 dX6_doIssueCard_29 (rfl : _ = 30) rfl rfl ?_
    refine V_iconst Y.1 (v := 0) dX6_doIssueCard_30 (rfl : _ = 31) (by decide) ?_
    refine V_cV Y (rV Y (c_X6_sets l D kA _ _ _ _ _ _ _ _ _ _ n hn 13 (by decide) 0 hM) mi_X6_sets vi_X6_73 rfl hM.1 rfl rfl (Nat.le_of_ble_eq_true rfl) ⟨Nat.le_of_ble_eq_true rfl, Nat.le_of_ble_eq_true rfl⟩ (Nat.le_of_ble_eq_true rfl) (Nat.le_of_ble_eq_true rfl) dX6_doIssueCard_31) (fun q hq => Or.inl (blk_sub (by omega) (by omega) q hq)) (rfl : _ = 34) (fun H31_167 hq_31 o_31 => ?_)
    have hM := hq_31
    refine V_iinc Y.1 (v := 14) (ls' := [(3, _), (2, _), (0, _), (1, _)]) 0 dX6_doIssueCard_34 (rfl : _ = 37) rfl (by decide) (by decide) rfl ?_
    refine V_goto Y.1 (tgt := 21) dX6_doIssueCard_37 (by decide) ?_
    refine V_iload_n Y.1 0 dX6_doIssueCard_21 (rfl : _ = 22) rfl rfl ?_
    refine V_bipush Y.1 (v := 17) dX6_doIssueCard_22 (rfl : _ = 24) (by decide) ?_
    refine V_icmp_ge Y.1 (tgt := 40) dX6_doIssueCard_24 (by decide) (rfl : _ = 27) (fun c_n => absurd c_n (by decide)) (fun _ => ?_)
    refine V_aload_n Y.1 2 dX6_doIssueCard_27 (rfl : _ = 28) rfl rfl ?_
    refine V_iload_n Y.1 1 dX6_doIssueCard_28 (rfl : _ = 29) rfl rfl ?_
    refine V_iload_n Y.1 0 dX6_doIssueCard_29 (rfl : _ = 30) rfl rfl ?_
    refine V_iconst Y.1 (v := 0) dX6_doIssueCard_30 (rfl : _ = 31) (by decide) ?_
    refine V_cV Y (rV Y (c_X6_sets l D kA _ _ _ _ _ _ _ _ _ _ n hn 14 (by decide) 0 hM) mi_X6_sets vi_X6_73 rfl hM.1 rfl rfl (Nat.le_of_ble_eq_true rfl) ⟨Nat.le_of_ble_eq_true rfl, Nat.le_of_ble_eq_true rfl⟩ (Nat.le_of_ble_eq_true rfl) (Nat.le_of_ble_eq_true rfl) dX6_doIssueCard_31) (fun q hq => Or.inl (blk_sub (by omega) (by omega) q hq)) (rfl : _ = 34) (fun H31_178 hq_31 o_31 => ?_)
    have hM := hq_31
    refine V_iinc Y.1 (v := 15) (ls' := [(3, _), (2, _), (0, _), (1, _)]) 0 dX6_doIssueCard_34 (rfl : _ = 37) rfl (by decide) (by decide) rfl ?_
    refine V_goto Y.1 (tgt := 21) dX6_doIssueCard_37 (by decide) ?_
    refine V_iload_n Y.1 0 dX6_doIssueCard_21 (rfl : _ = 22) rfl rfl ?_
    refine V_bipush Y.1 (v := 17) dX6_doIssueCard_22 (rfl : _ = 24) (by decide) ?_
    refine V_icmp_ge Y.1 (tgt := 40) dX6_doIssueCard_24 (by decide) (rfl : _ = 27) (fun c_n => absurd c_n (by decide)) (fun _ => ?_)
    refine V_aload_n Y.1 2 dX6_doIssueCard_27 (rfl : _ = 28) rfl rfl ?_
    refine V_iload_n Y.1 1 dX6_doIssueCard_28 (rfl : _ = 29) rfl rfl ?_
    refine V_iload_n Y.1 0 dX6_doIssueCard_29 (rfl : _ = 30) rfl rfl ?_
    refine V_iconst Y.1 (v := 0) dX6_doIssueCard_30 (rfl : _ = 31) (by decide) ?_
    refine V_cV Y (rV Y (c_X6_sets l D kA _ _ _ _ _ _ _ _ _ _ n hn 15 (by decide) 0 hM) mi_X6_sets vi_X6_73 rfl hM.1 rfl rfl (Nat.le_of_ble_eq_true rfl) ⟨Nat.le_of_ble_eq_true rfl, Nat.le_of_ble_eq_true rfl⟩ (Nat.le_of_ble_eq_true rfl) (Nat.le_of_ble_eq_true rfl) dX6_doIssueCard_31) (fun q hq => Or.inl (blk_sub (by omega) (by omega) q hq)) (rfl : _ = 34) (fun H31_189 hq_31 o_31 => ?_)
    have hM := hq_31
    refine V_iinc Y.1 (v := 16) (ls' := [(3, _), (2, _), (0, _), (1, _)]) 0 dX6_doIssueCard_34 (rfl : _ = 37) rfl (by decide) (by decide) rfl ?_
    refine V_goto Y.1 (tgt := 21) dX6_doIssueCard_37 (by decide) ?_
    refine V_iload_n Y.1 0 dX6_doIssueCard_21 (rfl : _ = 22) rfl rfl ?_
    refine V_bipush Y.1 (v := 17) dX6_doIssueCard_22 (rfl : _ = 24) (by decide) ?_
    refine V_icmp_ge Y.1 (tgt := 40) dX6_doIssueCard_24 (by decide) (rfl : _ = 27) (fun c_n => absurd c_n (by decide)) (fun _ => ?_)
    refine V_aload_n Y.1 2 dX6_doIssueCard_27 (rfl : _ = 28) rfl rfl ?_
    refine V_iload_n Y.1 1 dX6_doIssueCard_28 (rfl : _ = 29) rfl rfl ?_
    refine V_iload_n Y.1 0 dX6_doIssueCard_29 (rfl : _ = 30) rfl rfl ?_
    refine V_iconst Y.1 (v := 0) dX6_doIssueCard_30 (rfl : _ = 31) (by decide) ?_
    refine V_cV Y (rV Y (c_X6_sets l D kA _ _ _ _ _ _ _ _ _ _ n hn 16 (by decide) 0 hM) mi_X6_sets vi_X6_73 rfl hM.1 rfl rfl (Nat.le_of_ble_eq_true rfl) ⟨Nat.le_of_ble_eq_true rfl, Nat.le_of_ble_eq_true rfl⟩ (Nat.le_of_ble_eq_true rfl) (Nat.le_of_ble_eq_true rfl) dX6_doIssueCard_31) (fun q hq => Or.inl (blk_sub (by omega) (by omega) q hq)) (rfl : _ = 34) (fun H31_200 hq_31 o_31 => ?_)
    have hM := hq_31
    refine V_iinc Y.1 (v := 17) (ls' := [(3, _), (2, _), (0, _), (1, _)]) 0 dX6_doIssueCard_34 (rfl : _ = 37) rfl (by decide) (by decide) rfl ?_
    refine V_goto Y.1 (tgt := 21) dX6_doIssueCard_37 (by decide) ?_
    refine V_iload_n Y.1 0 dX6_doIssueCard_21 (rfl : _ = 22) rfl rfl ?_
    refine V_bipush Y.1 (v := 17) dX6_doIssueCard_22 (rfl : _ = 24) (by decide) ?_
    refine V_icmp_ge Y.1 (tgt := 40) dX6_doIssueCard_24 (by decide) (rfl : _ = 27) (fun _ => ?_) (fun c_n => absurd (by decide) c_n)
    refine V_aload_n Y.1 2 dX6_doIssueCard_40 (rfl : _ = 41) rfl rfl ?_
    refine V_iload_n Y.1 1 dX6_doIssueCard_41 (rfl : _ = 42) rfl rfl ?_
    refine V_iconst Y.1 (v := 0) dX6_doIssueCard_42 (rfl : _ = 43) (by decide) ?_
    refine V_iload_n Y.1 3 dX6_doIssueCard_43 (rfl : _ = 44) rfl rfl ?_
    refine V_if_eq Y.1 (tgt := 51) dX6_doIssueCard_44 (by decide) (rfl : _ = 47) (fun c_44 => ?_) (fun c_44 => ?_)
    · refine V_iconst Y.1 (v := 0) dX6_doIssueCard_51 (rfl : _ = 52) (by decide) ?_
      refine V_cV Y (rV Y (c_X6_sets l D kA _ _ _ _ _ _ _ _ _ _ n hn 0 (by decide) _ hM) mi_X6_sets vi_X6_73 rfl hM.1 rfl rfl (Nat.le_of_ble_eq_true rfl) ⟨Nat.le_of_ble_eq_true rfl, Nat.le_of_ble_eq_true rfl⟩ (Nat.le_of_ble_eq_true rfl) (Nat.le_of_ble_eq_true rfl) dX6_doIssueCard_52) (fun q hq => Or.inl (blk_sub (by omega) (by omega) q hq)) (rfl : _ = 55) (fun H52_213 hq_52 o_52 => ?_)
      have hM := hq_52
      refine V_aload_n Y.1 2 dX6_doIssueCard_55 (rfl : _ = 56) rfl rfl ?_
      refine V_iload_n Y.1 1 dX6_doIssueCard_56 (rfl : _ = 57) rfl rfl ?_
      refine V_iconst Y.1 (v := 2) dX6_doIssueCard_57 (rfl : _ = 58) (by decide) ?_
      refine V_iconst Y.1 (v := -1) dX6_doIssueCard_58 (rfl : _ = 59) (by decide) ?_
      refine V_cV Y (rV Y (c_X6_sets l D kA _ _ _ _ _ _ _ _ _ _ n hn 2 (by decide) _ hM) mi_X6_sets vi_X6_73 rfl hM.1 rfl rfl (Nat.le_of_ble_eq_true rfl) ⟨Nat.le_of_ble_eq_true rfl, Nat.le_of_ble_eq_true rfl⟩ (Nat.le_of_ble_eq_true rfl) (Nat.le_of_ble_eq_true rfl) dX6_doIssueCard_59) (fun q hq => Or.inl (blk_sub (by omega) (by omega) q hq)) (rfl : _ = 62) (fun H59_219 hq_59 o_59 => ?_)
      have hM := hq_59
      refine V_aload_n Y.1 2 dX6_doIssueCard_62 (rfl : _ = 63) rfl rfl ?_
      refine V_iload_n Y.1 1 dX6_doIssueCard_63 (rfl : _ = 64) rfl rfl ?_
      refine V_bipush Y.1 (v := 6) dX6_doIssueCard_64 (rfl : _ = 66) (by decide) ?_
      refine V_iconst Y.1 (v := -1) dX6_doIssueCard_66 (rfl : _ = 67) (by decide) ?_
      refine V_cV Y (rV Y (c_X6_sets l D kA _ _ _ _ _ _ _ _ _ _ n hn 6 (by decide) _ hM) mi_X6_sets vi_X6_73 rfl hM.1 rfl rfl (Nat.le_of_ble_eq_true rfl) ⟨Nat.le_of_ble_eq_true rfl, Nat.le_of_ble_eq_true rfl⟩ (Nat.le_of_ble_eq_true rfl) (Nat.le_of_ble_eq_true rfl) dX6_doIssueCard_67) (fun q hq => Or.inl (blk_sub (by omega) (by omega) q hq)) (rfl : _ = 70) (fun H67_225 hq_67 o_67 => ?_)
      have hM := hq_67
      refine V_aload_n Y.1 2 dX6_doIssueCard_70 (rfl : _ = 71) rfl rfl ?_
      refine V_iload_n Y.1 1 dX6_doIssueCard_71 (rfl : _ = 72) rfl rfl ?_
      refine V_bipush Y.1 (v := 8) dX6_doIssueCard_72 (rfl : _ = 74) (by decide) ?_
      refine V_iconst Y.1 (v := -1) dX6_doIssueCard_74 (rfl : _ = 75) (by decide) ?_
      refine V_cV Y (rV Y (c_X6_sets l D kA _ _ _ _ _ _ _ _ _ _ n hn 8 (by decide) _ hM) mi_X6_sets vi_X6_73 rfl hM.1 rfl rfl (Nat.le_of_ble_eq_true rfl) ⟨Nat.le_of_ble_eq_true rfl, Nat.le_of_ble_eq_true rfl⟩ (Nat.le_of_ble_eq_true rfl) (Nat.le_of_ble_eq_true rfl) dX6_doIssueCard_75) (fun q hq => Or.inl (blk_sub (by omega) (by omega) q hq)) (rfl : _ = 78) (fun H75_231 hq_75 o_75 => ?_)
      have hM := hq_75
      refine V_aload_n Y.1 2 dX6_doIssueCard_78 (rfl : _ = 79) rfl rfl ?_
      refine V_get Y.1 fi_X6_9 hM.1 rfl dX6_doIssueCard_79 (rfl : _ = 82) ?_
      refine V_iconst Y.1 (v := 0) dX6_doIssueCard_82 (rfl : _ = 83) (by decide) ?_
      refine V_dup2 Y.1 dX6_doIssueCard_83 (rfl : _ = 84) rfl rfl ?_
      refine V_iald Y.1 hM.2.1 (by unfold vp_in; decide) rfl dX6_doIssueCard_84 (rfl : _ = 85) ?_
      refine V_iconst Y.1 (v := 1) dX6_doIssueCard_85 (rfl : _ = 86) (by decide) ?_
      refine V_iadd Y.1 dX6_doIssueCard_86 (rfl : _ = 87) ?_
      refine V_iast Y.1 hM.2.1 (Or.inl ⟨by omega, by omega⟩) (by unfold vp_in; decide) dX6_doIssueCard_87 (rfl : _ = 88) (fun H87_240 h_new o_87 => ?_)
      have h_new : hp D _ _ (eI kA 169 (upd _ 0 _)) := h_new
      have hM := hM.a1 o_87 h_new
      clear h_new
      refine V_iload_n Y.1 1 dX6_doIssueCard_88 (rfl : _ = 89) rfl rfl ?_
      exact V_ret Y.1 dX6_doIssueCard_89 rfl (Nat.le_of_ble_eq_true rfl) (Nat.le_of_ble_eq_true rfl) (q_e (z := 0) rfl (by rw [show nI 0 = 0 from rfl, upd_same h6]; exact hM) (by unfold q_issue; simp only [*, if_true, if_false, not_true, not_false_iff, true_and, reduceIte, ge_iff_le, gt_iff_lt] <;> rfl))
    · refine V_iconst Y.1 (v := 1) dX6_doIssueCard_47 (rfl : _ = 48) (by decide) ?_
      refine V_goto Y.1 (tgt := 52) dX6_doIssueCard_48 (by decide) ?_
      refine V_cV Y (rV Y (c_X6_sets l D kA _ _ _ _ _ _ _ _ _ _ n hn 0 (by decide) _ hM) mi_X6_sets vi_X6_73 rfl hM.1 rfl rfl (Nat.le_of_ble_eq_true rfl) ⟨Nat.le_of_ble_eq_true rfl, Nat.le_of_ble_eq_true rfl⟩ (Nat.le_of_ble_eq_true rfl) (Nat.le_of_ble_eq_true rfl) dX6_doIssueCard_52) (fun q hq => Or.inl (blk_sub (by omega) (by omega) q hq)) (rfl : _ = 55) (fun H52_248 hq_52 o_52 => ?_)
      have hM := hq_52
      refine V_aload_n Y.1 2 dX6_doIssueCard_55 (rfl : _ = 56) rfl rfl ?_
      refine V_iload_n Y.1 1 dX6_doIssueCard_56 (rfl : _ = 57) rfl rfl ?_
      refine V_iconst Y.1 (v := 2) dX6_doIssueCard_57 (rfl : _ = 58) (by decide) ?_
      refine V_iconst Y.1 (v := -1) dX6_doIssueCard_58 (rfl : _ = 59) (by decide) ?_
      refine V_cV Y (rV Y (c_X6_sets l D kA _ _ _ _ _ _ _ _ _ _ n hn 2 (by decide) _ hM) mi_X6_sets vi_X6_73 rfl hM.1 rfl rfl (Nat.le_of_ble_eq_true rfl) ⟨Nat.le_of_ble_eq_true rfl, Nat.le_of_ble_eq_true rfl⟩ (Nat.le_of_ble_eq_true rfl) (Nat.le_of_ble_eq_true rfl) dX6_doIssueCard_59) (fun q hq => Or.inl (blk_sub (by omega) (by omega) q hq)) (rfl : _ = 62) (fun H59_254 hq_59 o_59 => ?_)
      have hM := hq_59
      refine V_aload_n Y.1 2 dX6_doIssueCard_62 (rfl : _ = 63) rfl rfl ?_
      refine V_iload_n Y.1 1 dX6_doIssueCard_63 (rfl : _ = 64) rfl rfl ?_
      refine V_bipush Y.1 (v := 6) dX6_doIssueCard_64 (rfl : _ = 66) (by decide) ?_
      refine V_iconst Y.1 (v := -1) dX6_doIssueCard_66 (rfl : _ = 67) (by decide) ?_
      refine V_cV Y (rV Y (c_X6_sets l D kA _ _ _ _ _ _ _ _ _ _ n hn 6 (by decide) _ hM) mi_X6_sets vi_X6_73 rfl hM.1 rfl rfl (Nat.le_of_ble_eq_true rfl) ⟨Nat.le_of_ble_eq_true rfl, Nat.le_of_ble_eq_true rfl⟩ (Nat.le_of_ble_eq_true rfl) (Nat.le_of_ble_eq_true rfl) dX6_doIssueCard_67) (fun q hq => Or.inl (blk_sub (by omega) (by omega) q hq)) (rfl : _ = 70) (fun H67_260 hq_67 o_67 => ?_)
      have hM := hq_67
      refine V_aload_n Y.1 2 dX6_doIssueCard_70 (rfl : _ = 71) rfl rfl ?_
      refine V_iload_n Y.1 1 dX6_doIssueCard_71 (rfl : _ = 72) rfl rfl ?_
      refine V_bipush Y.1 (v := 8) dX6_doIssueCard_72 (rfl : _ = 74) (by decide) ?_
      refine V_iconst Y.1 (v := -1) dX6_doIssueCard_74 (rfl : _ = 75) (by decide) ?_
      refine V_cV Y (rV Y (c_X6_sets l D kA _ _ _ _ _ _ _ _ _ _ n hn 8 (by decide) _ hM) mi_X6_sets vi_X6_73 rfl hM.1 rfl rfl (Nat.le_of_ble_eq_true rfl) ⟨Nat.le_of_ble_eq_true rfl, Nat.le_of_ble_eq_true rfl⟩ (Nat.le_of_ble_eq_true rfl) (Nat.le_of_ble_eq_true rfl) dX6_doIssueCard_75) (fun q hq => Or.inl (blk_sub (by omega) (by omega) q hq)) (rfl : _ = 78) (fun H75_266 hq_75 o_75 => ?_)
      have hM := hq_75
      refine V_aload_n Y.1 2 dX6_doIssueCard_78 (rfl : _ = 79) rfl rfl ?_
      refine V_get Y.1 fi_X6_9 hM.1 rfl dX6_doIssueCard_79 (rfl : _ = 82) ?_
      refine V_iconst Y.1 (v := 0) dX6_doIssueCard_82 (rfl : _ = 83) (by decide) ?_
      refine V_dup2 Y.1 dX6_doIssueCard_83 (rfl : _ = 84) rfl rfl ?_
      refine V_iald Y.1 hM.2.1 (by unfold vp_in; decide) rfl dX6_doIssueCard_84 (rfl : _ = 85) ?_
      refine V_iconst Y.1 (v := 1) dX6_doIssueCard_85 (rfl : _ = 86) (by decide) ?_
      refine V_iadd Y.1 dX6_doIssueCard_86 (rfl : _ = 87) ?_
      refine V_iast Y.1 hM.2.1 (Or.inl ⟨by omega, by omega⟩) (by unfold vp_in; decide) dX6_doIssueCard_87 (rfl : _ = 88) (fun H87_275 h_new o_87 => ?_)
      have h_new : hp D _ _ (eI kA 169 (upd _ 0 _)) := h_new
      have hM := hM.a1 o_87 h_new
      clear h_new
      refine V_iload_n Y.1 1 dX6_doIssueCard_88 (rfl : _ = 89) rfl rfl ?_
      exact V_ret Y.1 dX6_doIssueCard_89 rfl (Nat.le_of_ble_eq_true rfl) (Nat.le_of_ble_eq_true rfl) (q_e (z := 0) rfl (by rw [show nI 0 = 0 from rfl, upd_same h6]; exact hM) (by unfold q_issue; simp only [*, if_true, if_false, not_true, not_false_iff, true_and, reduceIte, ge_iff_le, gt_iff_lt] <;> rfl))
  · have h0 := hI.1
    refine V_aload_n Y.1 1 dX6_doIssueCard_13 (rfl : _ = 14) rfl rfl ?_
    refine V_iconst Y.1 (v := 1) dX6_doIssueCard_14 (rfl : _ = 15) (by decide) ?_
    refine V_cI Y (rV Y (c_X6_fails l D kA _ _ _ _ _ _ _ _ _ _ 1 hM) mi_X6_fails vi_X6_100 rfl hM.1 rfl rfl (Nat.le_of_ble_eq_true rfl) ⟨Nat.le_of_ble_eq_true rfl, Nat.le_of_ble_eq_true rfl⟩ (Nat.le_of_ble_eq_true rfl) (Nat.le_of_ble_eq_true rfl) dX6_doIssueCard_15) (fun q hq => Or.inl (blk_sub (by omega) (by omega) q hq)) (rfl : _ = 18) (fun v_15 H15_284 hq_15 o_15 => ?_)
    obtain ⟨e15, hM⟩ := hq_15
    exact V_ret Y.1 dX6_doIssueCard_18 rfl (Nat.le_of_ble_eq_true rfl) (Nat.le_of_ble_eq_true rfl) (q_e (z := 1) e15 hM (by unfold q_issue; simp only [*, if_true, if_false, not_true, not_false_iff, true_and, reduceIte, ge_iff_le, gt_iff_lt] <;> rfl))

set_option maxRecDepth 100000 in
set_option maxHeartbeats 4000000 in
theorem c_X6_doTapIn (l : Launch) (D : va_G) (kA : Nat → ClassId) (H0 : Heap) (o : Nat) (F s b v p u t c : Nat → Int32) (n t0 : Nat) (x y : Int32) (hM : Rs D kA H0 o F s b v p u t c) (hI : RI s n t0) (h6 : F 6 = 0) : Ct l D kA yX6_doTapIn cX6_doTapIn 4 (some .int) 5 114 0 0 H0 [.ref o, .int x, .int y] (blk o 8) (pI fun v9 H => v9 = (q_in s (t0 / 1440) x y).2.1 ∧ Rs D kA H o (upd F 6 (nI (q_in s (t0 / 1440) x y).1)) ((q_in s (t0 / 1440) x y).2.2) b v p u t c) := by
  refine Ct.of mi_X6_doTapIn (Nat.le_of_ble_eq_true rfl) (ls0 := [(0, _), (1, _), (2, _)]) rfl ?_
  intro Pp Ee Ss Mm Ar Bl Me Cc Y hs hnm
  refine V_aload_n Y.1 0 dX6_doTapIn_0 (rfl : _ = 1) rfl rfl ?_
  refine V_iload_n Y.1 1 dX6_doTapIn_1 (rfl : _ = 2) rfl rfl ?_
  refine V_cP Y (rV Y (c_X6_isCard l D kA _ _ _ _ _ _ _ _ _ _ _ hM) mi_X6_isCard vi_X6_113 rfl hM.1 rfl rfl (Nat.le_of_ble_eq_true rfl) ⟨Nat.le_of_ble_eq_true rfl, Nat.le_of_ble_eq_true rfl⟩ (Nat.le_of_ble_eq_true rfl) (Nat.le_of_ble_eq_true rfl) dX6_doTapIn_2) (rfl : _ = 5) ?_
  refine V_if_eq Y.1 (tgt := 15) dX6_doTapIn_5 (by decide) (rfl : _ = 8) (fun c_5 => ?_) (fun c_5 => ?_)
  · refine V_aload_n Y.1 0 dX6_doTapIn_15 (rfl : _ = 16) rfl rfl ?_
    refine V_iconst Y.1 (v := 1) dX6_doTapIn_16 (rfl : _ = 17) (by decide) ?_
    refine V_cI Y (rV Y (c_X6_fails l D kA _ _ _ _ _ _ _ _ _ _ 1 hM) mi_X6_fails vi_X6_100 rfl hM.1 rfl rfl (Nat.le_of_ble_eq_true rfl) ⟨Nat.le_of_ble_eq_true rfl, Nat.le_of_ble_eq_true rfl⟩ (Nat.le_of_ble_eq_true rfl) (Nat.le_of_ble_eq_true rfl) dX6_doTapIn_17) (fun q hq => Or.inl (blk_sub (by omega) (by omega) q hq)) (rfl : _ = 20) (fun v_17 H17_6 hq_17 o_17 => ?_)
    obtain ⟨e17, hM⟩ := hq_17
    exact V_ret Y.1 dX6_doTapIn_20 rfl (Nat.le_of_ble_eq_true rfl) (Nat.le_of_ble_eq_true rfl) (q_e (z := 1) e17 hM (by unfold q_in; simp only [*, if_true, if_false, not_true, not_false_iff, true_and, reduceIte, ge_iff_le, gt_iff_lt] <;> rfl))
  · obtain ⟨i, hi0, rfl⟩ := r_in_ca hI.1 hI.2.1 c_5
    have hi : i < 8 := by have := hI.2.1; omega
    have ei : (nI i).toNatClampNeg = i := nI_clamp (by omega)
    refine V_iload_n Y.1 2 dX6_doTapIn_8 (rfl : _ = 9) rfl rfl ?_
    refine V_cP Y (rS Y (c_X6_isStation l D kA _ _) mi_X6_isStation si_X6_120 rfl rfl (Nat.le_of_ble_eq_true rfl) ⟨Nat.le_of_ble_eq_true rfl, Nat.le_of_ble_eq_true rfl⟩ (Nat.le_of_ble_eq_true rfl) (Nat.le_of_ble_eq_true rfl) dX6_doTapIn_9) (rfl : _ = 12) ?_
    refine V_if_ne Y.1 (tgt := 21) dX6_doTapIn_12 (by decide) (rfl : _ = 15) (fun c_12 => ?_) (fun c_12 => ?_)
    · obtain ⟨w, hw, rfl⟩ := r_in_st c_12
      have ew : (nI w).toNatClampNeg = w := nI_clamp (by omega)
      refine V_aload_n Y.1 0 dX6_doTapIn_21 (rfl : _ = 22) rfl rfl ?_
      refine V_iload_n Y.1 1 dX6_doTapIn_22 (rfl : _ = 23) rfl rfl ?_
      refine V_iconst Y.1 (v := 1) dX6_doTapIn_23 (rfl : _ = 24) (by decide) ?_
      refine V_cP Y (rV Y (c_X6_of l D kA _ _ _ _ _ _ _ _ _ _ i hi 1 (by decide) hM) mi_X6_of vi_X6_67 rfl hM.1 rfl rfl (Nat.le_of_ble_eq_true rfl) ⟨Nat.le_of_ble_eq_true rfl, Nat.le_of_ble_eq_true rfl⟩ (Nat.le_of_ble_eq_true rfl) (Nat.le_of_ble_eq_true rfl) dX6_doTapIn_24) (rfl : _ = 27) ?_
      refine V_sipush Y.1 (v := -500) dX6_doTapIn_27 (rfl : _ = 30) (by decide) ?_
      refine V_icmp_ge Y.1 (tgt := 39) dX6_doTapIn_30 (by decide) (rfl : _ = 33) (fun c_30 => ?_) (fun c_30 => ?_)
      · refine V_aload_n Y.1 0 dX6_doTapIn_39 (rfl : _ = 40) rfl rfl ?_
        refine V_iload_n Y.1 1 dX6_doTapIn_40 (rfl : _ = 41) rfl rfl ?_
        refine V_iload_n Y.1 2 dX6_doTapIn_41 (rfl : _ = 42) rfl rfl ?_
        refine V_cP Y (rV Y (c_X6_continues l D kA _ _ _ _ _ _ _ _ _ _ i hi _ hM) mi_X6_continues vi_X6_123 rfl hM.1 rfl rfl (Nat.le_of_ble_eq_true rfl) ⟨Nat.le_of_ble_eq_true rfl, Nat.le_of_ble_eq_true rfl⟩ (Nat.le_of_ble_eq_true rfl) (Nat.le_of_ble_eq_true rfl) dX6_doTapIn_42) (rfl : _ = 45) ?_
        refine V_istore_n Y.1 (ls' := [(3, _), (0, _), (1, _), (2, _)]) dX6_doTapIn_45 (rfl : _ = 46) rfl (by decide) rfl ?_
        refine V_aload_n Y.1 1 dX6_doTapIn_46 (rfl : _ = 47) rfl rfl ?_
        refine V_iload_n Y.1 2 dX6_doTapIn_47 (rfl : _ = 48) rfl rfl ?_
        refine V_iconst Y.1 (v := 2) dX6_doTapIn_48 (rfl : _ = 49) (by decide) ?_
        refine V_cP Y (rV Y (c_X6_of l D kA _ _ _ _ _ _ _ _ _ _ i hi 2 (by decide) hM) mi_X6_of vi_X6_67 rfl hM.1 rfl rfl (Nat.le_of_ble_eq_true rfl) ⟨Nat.le_of_ble_eq_true rfl, Nat.le_of_ble_eq_true rfl⟩ (Nat.le_of_ble_eq_true rfl) (Nat.le_of_ble_eq_true rfl) dX6_doTapIn_49) (rfl : _ = 52) ?_
        refine V_if_lt Y.1 (tgt := 60) dX6_doTapIn_52 (by decide) (rfl : _ = 55) (fun c_52 => ?_) (fun c_52 => ?_)
        · refine V_iload_n Y.1 0 dX6_doTapIn_60 (rfl : _ = 61) rfl rfl ?_
          refine V_if_ne Y.1 (tgt := 78) dX6_doTapIn_61 (by decide) (rfl : _ = 64) (fun c_61 => ?_) (fun c_61 => ?_)
          · refine V_aload_n Y.1 1 dX6_doTapIn_78 (rfl : _ = 79) rfl rfl ?_
            refine V_iload_n Y.1 2 dX6_doTapIn_79 (rfl : _ = 80) rfl rfl ?_
            refine V_iconst Y.1 (v := 2) dX6_doTapIn_80 (rfl : _ = 81) (by decide) ?_
            refine V_iload_n Y.1 3 dX6_doTapIn_81 (rfl : _ = 82) rfl rfl ?_
            refine V_cV Y (rV Y (c_X6_sets l D kA _ _ _ _ _ _ _ _ _ _ i hi 2 (by decide) _ hM) mi_X6_sets vi_X6_73 rfl hM.1 rfl rfl (Nat.le_of_ble_eq_true rfl) ⟨Nat.le_of_ble_eq_true rfl, Nat.le_of_ble_eq_true rfl⟩ (Nat.le_of_ble_eq_true rfl) (Nat.le_of_ble_eq_true rfl) dX6_doTapIn_82) (fun q hq => Or.inl (blk_sub (by omega) (by omega) q hq)) (rfl : _ = 85) (fun H82_39 hq_82 o_82 => ?_)
            have hM := hq_82
            refine V_aload_n Y.1 1 dX6_doTapIn_85 (rfl : _ = 86) rfl rfl ?_
            refine V_iload_n Y.1 2 dX6_doTapIn_86 (rfl : _ = 87) rfl rfl ?_
            refine V_iconst Y.1 (v := 3) dX6_doTapIn_87 (rfl : _ = 88) (by decide) ?_
            refine V_aload_n Y.1 1 dX6_doTapIn_88 (rfl : _ = 89) rfl rfl ?_
            refine V_get Y.1 fi_X6_9 hM.1 rfl dX6_doTapIn_89 (rfl : _ = 92) ?_
            refine V_iconst Y.1 (v := 1) dX6_doTapIn_92 (rfl : _ = 93) (by decide) ?_
            refine V_iald Y.1 hM.2.1 (by unfold vp_in; decide) rfl dX6_doTapIn_93 (rfl : _ = 94) ?_
            refine V_cV Y (rV Y (c_X6_sets l D kA _ _ _ _ _ _ _ _ _ _ i hi 3 (by decide) _ hM) mi_X6_sets vi_X6_73 rfl hM.1 rfl rfl (Nat.le_of_ble_eq_true rfl) ⟨Nat.le_of_ble_eq_true rfl, Nat.le_of_ble_eq_true rfl⟩ (Nat.le_of_ble_eq_true rfl) (Nat.le_of_ble_eq_true rfl) dX6_doTapIn_94) (fun q hq => Or.inl (blk_sub (by omega) (by omega) q hq)) (rfl : _ = 97) (fun H94_48 hq_94 o_94 => ?_)
            have hM := hq_94
            refine V_aload_n Y.1 1 dX6_doTapIn_97 (rfl : _ = 98) rfl rfl ?_
            refine V_get Y.1 fi_X6_9 hM.1 rfl dX6_doTapIn_98 (rfl : _ = 101) ?_
            refine V_bipush Y.1 (v := 21) dX6_doTapIn_101 (rfl : _ = 103) (by decide) ?_
            refine V_iload_n Y.1 3 dX6_doTapIn_103 (rfl : _ = 104) rfl rfl ?_
            refine V_iadd Y.1 dX6_doTapIn_104 (rfl : _ = 105) ?_
            refine V_nm (v := nI (21 + w)) (nI_add _ _) ?_
            refine V_dup2 Y.1 dX6_doTapIn_105 (rfl : _ = 106) rfl rfl ?_
            refine V_iald Y.1 (v := _) hM.2.1 (by first | assumption | exact vp_in_nI (by omega) (by omega)) (by rw [nI_clamp (by omega)]) dX6_doTapIn_106 (rfl : _ = 107) ?_
            refine V_iconst Y.1 (v := 1) dX6_doTapIn_107 (rfl : _ = 108) (by decide) ?_
            refine V_iadd Y.1 dX6_doTapIn_108 (rfl : _ = 109) ?_
            refine V_iast Y.1 hM.2.1 (Or.inl ⟨by omega, by omega⟩) (by first | assumption | exact vp_in_nI (by omega) (by omega)) dX6_doTapIn_109 (rfl : _ = 110) (fun H109_60 h_new o_109 => ?_)
            rw [nI_clamp (by omega)] at h_new
            have hM := hM.a1 o_109 h_new
            clear h_new
            refine V_iload_n Y.1 0 dX6_doTapIn_110 (rfl : _ = 111) rfl rfl ?_
            refine V_if_eq Y.1 (tgt := 118) dX6_doTapIn_111 (by decide) (rfl : _ = 114) (fun c_n => absurd c_n c_61) (fun _ => ?_)
            refine V_iconst Y.1 (v := 1) dX6_doTapIn_114 (rfl : _ = 115) (by decide) ?_
            refine V_goto Y.1 (tgt := 119) dX6_doTapIn_115 (by decide) ?_
            exact V_ret Y.1 dX6_doTapIn_119 rfl (Nat.le_of_ble_eq_true rfl) (Nat.le_of_ble_eq_true rfl) (q_e (z := 0) rfl (by rw [show nI 0 = 0 from rfl, upd_same h6]; exact hM) (by unfold q_in; simp only [*, if_true, if_false, not_true, not_false_iff, true_and, reduceIte, ge_iff_le, gt_iff_lt] <;> rfl))
          · refine V_aload_n Y.1 1 dX6_doTapIn_64 (rfl : _ = 65) rfl rfl ?_
            refine V_iload_n Y.1 2 dX6_doTapIn_65 (rfl : _ = 66) rfl rfl ?_
            refine V_iconst Y.1 (v := 4) dX6_doTapIn_66 (rfl : _ = 67) (by decide) ?_
            refine V_iload_n Y.1 3 dX6_doTapIn_67 (rfl : _ = 68) rfl rfl ?_
            refine V_cV Y (rV Y (c_X6_sets l D kA _ _ _ _ _ _ _ _ _ _ i hi 4 (by decide) _ hM) mi_X6_sets vi_X6_73 rfl hM.1 rfl rfl (Nat.le_of_ble_eq_true rfl) ⟨Nat.le_of_ble_eq_true rfl, Nat.le_of_ble_eq_true rfl⟩ (Nat.le_of_ble_eq_true rfl) (Nat.le_of_ble_eq_true rfl) dX6_doTapIn_68) (fun q hq => Or.inl (blk_sub (by omega) (by omega) q hq)) (rfl : _ = 71) (fun H68_73 hq_68 o_68 => ?_)
            have hM := hq_68
            refine V_aload_n Y.1 1 dX6_doTapIn_71 (rfl : _ = 72) rfl rfl ?_
            refine V_iload_n Y.1 2 dX6_doTapIn_72 (rfl : _ = 73) rfl rfl ?_
            refine V_iconst Y.1 (v := 5) dX6_doTapIn_73 (rfl : _ = 74) (by decide) ?_
            refine V_iconst Y.1 (v := 0) dX6_doTapIn_74 (rfl : _ = 75) (by decide) ?_
            refine V_cV Y (rV Y (c_X6_sets l D kA _ _ _ _ _ _ _ _ _ _ i hi 5 (by decide) _ hM) mi_X6_sets vi_X6_73 rfl hM.1 rfl rfl (Nat.le_of_ble_eq_true rfl) ⟨Nat.le_of_ble_eq_true rfl, Nat.le_of_ble_eq_true rfl⟩ (Nat.le_of_ble_eq_true rfl) (Nat.le_of_ble_eq_true rfl) dX6_doTapIn_75) (fun q hq => Or.inl (blk_sub (by omega) (by omega) q hq)) (rfl : _ = 78) (fun H75_79 hq_75 o_75 => ?_)
            have hM := hq_75
            refine V_aload_n Y.1 1 dX6_doTapIn_78 (rfl : _ = 79) rfl rfl ?_
            refine V_iload_n Y.1 2 dX6_doTapIn_79 (rfl : _ = 80) rfl rfl ?_
            refine V_iconst Y.1 (v := 2) dX6_doTapIn_80 (rfl : _ = 81) (by decide) ?_
            refine V_iload_n Y.1 3 dX6_doTapIn_81 (rfl : _ = 82) rfl rfl ?_
            refine V_cV Y (rV Y (c_X6_sets l D kA _ _ _ _ _ _ _ _ _ _ i hi 2 (by decide) _ hM) mi_X6_sets vi_X6_73 rfl hM.1 rfl rfl (Nat.le_of_ble_eq_true rfl) ⟨Nat.le_of_ble_eq_true rfl, Nat.le_of_ble_eq_true rfl⟩ (Nat.le_of_ble_eq_true rfl) (Nat.le_of_ble_eq_true rfl) dX6_doTapIn_82) (fun q hq => Or.inl (blk_sub (by omega) (by omega) q hq)) (rfl : _ = 85) (fun H82_85 hq_82 o_82 => ?_)
            have hM := hq_82
            refine V_aload_n Y.1 1 dX6_doTapIn_85 (rfl : _ = 86) rfl rfl ?_
            refine V_iload_n Y.1 2 dX6_doTapIn_86 (rfl : _ = 87) rfl rfl ?_
            refine V_iconst Y.1 (v := 3) dX6_doTapIn_87 (rfl : _ = 88) (by decide) ?_
            refine V_aload_n Y.1 1 dX6_doTapIn_88 (rfl : _ = 89) rfl rfl ?_
            refine V_get Y.1 fi_X6_9 hM.1 rfl dX6_doTapIn_89 (rfl : _ = 92) ?_
            refine V_iconst Y.1 (v := 1) dX6_doTapIn_92 (rfl : _ = 93) (by decide) ?_
            refine V_iald Y.1 hM.2.1 (by unfold vp_in; decide) rfl dX6_doTapIn_93 (rfl : _ = 94) ?_
            refine V_cV Y (rV Y (c_X6_sets l D kA _ _ _ _ _ _ _ _ _ _ i hi 3 (by decide) _ hM) mi_X6_sets vi_X6_73 rfl hM.1 rfl rfl (Nat.le_of_ble_eq_true rfl) ⟨Nat.le_of_ble_eq_true rfl, Nat.le_of_ble_eq_true rfl⟩ (Nat.le_of_ble_eq_true rfl) (Nat.le_of_ble_eq_true rfl) dX6_doTapIn_94) (fun q hq => Or.inl (blk_sub (by omega) (by omega) q hq)) (rfl : _ = 97) (fun H94_94 hq_94 o_94 => ?_)
            have hM := hq_94
            refine V_aload_n Y.1 1 dX6_doTapIn_97 (rfl : _ = 98) rfl rfl ?_
            refine V_get Y.1 fi_X6_9 hM.1 rfl dX6_doTapIn_98 (rfl : _ = 101) ?_
            refine V_bipush Y.1 (v := 21) dX6_doTapIn_101 (rfl : _ = 103) (by decide) ?_
            refine V_iload_n Y.1 3 dX6_doTapIn_103 (rfl : _ = 104) rfl rfl ?_
            refine V_iadd Y.1 dX6_doTapIn_104 (rfl : _ = 105) ?_
            refine V_nm (v := nI (21 + w)) (nI_add _ _) ?_
            refine V_dup2 Y.1 dX6_doTapIn_105 (rfl : _ = 106) rfl rfl ?_
            refine V_iald Y.1 (v := _) hM.2.1 (by first | assumption | exact vp_in_nI (by omega) (by omega)) (by rw [nI_clamp (by omega)]) dX6_doTapIn_106 (rfl : _ = 107) ?_
            refine V_iconst Y.1 (v := 1) dX6_doTapIn_107 (rfl : _ = 108) (by decide) ?_
            refine V_iadd Y.1 dX6_doTapIn_108 (rfl : _ = 109) ?_
            refine V_iast Y.1 hM.2.1 (Or.inl ⟨by omega, by omega⟩) (by first | assumption | exact vp_in_nI (by omega) (by omega)) dX6_doTapIn_109 (rfl : _ = 110) (fun H109_106 h_new o_109 => ?_)
            rw [nI_clamp (by omega)] at h_new
            have hM := hM.a1 o_109 h_new
            clear h_new
            refine V_iload_n Y.1 0 dX6_doTapIn_110 (rfl : _ = 111) rfl rfl ?_
            refine V_if_eq Y.1 (tgt := 118) dX6_doTapIn_111 (by decide) (rfl : _ = 114) (fun _ => ?_) (fun c_n => absurd c_61 c_n)
            refine V_iconst Y.1 (v := 0) dX6_doTapIn_118 (rfl : _ = 119) (by decide) ?_
            exact V_ret Y.1 dX6_doTapIn_119 rfl (Nat.le_of_ble_eq_true rfl) (Nat.le_of_ble_eq_true rfl) (q_e (z := 0) rfl (by rw [show nI 0 = 0 from rfl, upd_same h6]; exact hM) (by unfold q_in; simp only [*, if_true, if_false, not_true, not_false_iff, true_and, reduceIte, ge_iff_le, gt_iff_lt] <;> rfl))
        · refine V_aload_n Y.1 1 dX6_doTapIn_55 (rfl : _ = 56) rfl rfl ?_
          refine V_iload_n Y.1 2 dX6_doTapIn_56 (rfl : _ = 57) rfl rfl ?_
          refine V_cV Y (rV Y (c_X6_loses l D kA _ _ _ _ _ _ _ _ _ _ i hi (t0 / 1440) hI.d hM hI.day) mi_X6_loses vi_X6_127 rfl hM.1 rfl rfl (Nat.le_of_ble_eq_true rfl) ⟨Nat.le_of_ble_eq_true rfl, Nat.le_of_ble_eq_true rfl⟩ (Nat.le_of_ble_eq_true rfl) (Nat.le_of_ble_eq_true rfl) dX6_doTapIn_57) (fun q hq => Or.inl (blk_sub (by omega) (by omega) q hq)) (rfl : _ = 60) (fun H57_116 hq_57 o_57 => ?_)
          have hM := hq_57
          refine V_iload_n Y.1 0 dX6_doTapIn_60 (rfl : _ = 61) rfl rfl ?_
          refine V_if_ne Y.1 (tgt := 78) dX6_doTapIn_61 (by decide) (rfl : _ = 64) (fun c_61 => ?_) (fun c_61 => ?_)
          · refine V_aload_n Y.1 1 dX6_doTapIn_78 (rfl : _ = 79) rfl rfl ?_
            refine V_iload_n Y.1 2 dX6_doTapIn_79 (rfl : _ = 80) rfl rfl ?_
            refine V_iconst Y.1 (v := 2) dX6_doTapIn_80 (rfl : _ = 81) (by decide) ?_
            refine V_iload_n Y.1 3 dX6_doTapIn_81 (rfl : _ = 82) rfl rfl ?_
            refine V_cV Y (rV Y (c_X6_sets l D kA _ _ _ _ _ _ _ _ _ _ i hi 2 (by decide) _ hM) mi_X6_sets vi_X6_73 rfl hM.1 rfl rfl (Nat.le_of_ble_eq_true rfl) ⟨Nat.le_of_ble_eq_true rfl, Nat.le_of_ble_eq_true rfl⟩ (Nat.le_of_ble_eq_true rfl) (Nat.le_of_ble_eq_true rfl) dX6_doTapIn_82) (fun q hq => Or.inl (blk_sub (by omega) (by omega) q hq)) (rfl : _ = 85) (fun H82_124 hq_82 o_82 => ?_)
            have hM := hq_82
            refine V_aload_n Y.1 1 dX6_doTapIn_85 (rfl : _ = 86) rfl rfl ?_
            refine V_iload_n Y.1 2 dX6_doTapIn_86 (rfl : _ = 87) rfl rfl ?_
            refine V_iconst Y.1 (v := 3) dX6_doTapIn_87 (rfl : _ = 88) (by decide) ?_
            refine V_aload_n Y.1 1 dX6_doTapIn_88 (rfl : _ = 89) rfl rfl ?_
            refine V_get Y.1 fi_X6_9 hM.1 rfl dX6_doTapIn_89 (rfl : _ = 92) ?_
            refine V_iconst Y.1 (v := 1) dX6_doTapIn_92 (rfl : _ = 93) (by decide) ?_
            refine V_iald Y.1 hM.2.1 (by unfold vp_in; decide) rfl dX6_doTapIn_93 (rfl : _ = 94) ?_
            refine V_cV Y (rV Y (c_X6_sets l D kA _ _ _ _ _ _ _ _ _ _ i hi 3 (by decide) _ hM) mi_X6_sets vi_X6_73 rfl hM.1 rfl rfl (Nat.le_of_ble_eq_true rfl) ⟨Nat.le_of_ble_eq_true rfl, Nat.le_of_ble_eq_true rfl⟩ (Nat.le_of_ble_eq_true rfl) (Nat.le_of_ble_eq_true rfl) dX6_doTapIn_94) (fun q hq => Or.inl (blk_sub (by omega) (by omega) q hq)) (rfl : _ = 97) (fun H94_133 hq_94 o_94 => ?_)
            have hM := hq_94
            refine V_aload_n Y.1 1 dX6_doTapIn_97 (rfl : _ = 98) rfl rfl ?_
            refine V_get Y.1 fi_X6_9 hM.1 rfl dX6_doTapIn_98 (rfl : _ = 101) ?_
            refine V_bipush Y.1 (v := 21) dX6_doTapIn_101 (rfl : _ = 103) (by decide) ?_
            refine V_iload_n Y.1 3 dX6_doTapIn_103 (rfl : _ = 104) rfl rfl ?_
            refine V_iadd Y.1 dX6_doTapIn_104 (rfl : _ = 105) ?_
            refine V_nm (v := nI (21 + w)) (nI_add _ _) ?_
            refine V_dup2 Y.1 dX6_doTapIn_105 (rfl : _ = 106) rfl rfl ?_
            refine V_iald Y.1 (v := _) hM.2.1 (by first | assumption | exact vp_in_nI (by omega) (by omega)) (by rw [nI_clamp (by omega)]) dX6_doTapIn_106 (rfl : _ = 107) ?_
            refine V_iconst Y.1 (v := 1) dX6_doTapIn_107 (rfl : _ = 108) (by decide) ?_
            refine V_iadd Y.1 dX6_doTapIn_108 (rfl : _ = 109) ?_
            refine V_iast Y.1 hM.2.1 (Or.inl ⟨by omega, by omega⟩) (by first | assumption | exact vp_in_nI (by omega) (by omega)) dX6_doTapIn_109 (rfl : _ = 110) (fun H109_145 h_new o_109 => ?_)
            rw [nI_clamp (by omega)] at h_new
            have hM := hM.a1 o_109 h_new
            clear h_new
            refine V_iload_n Y.1 0 dX6_doTapIn_110 (rfl : _ = 111) rfl rfl ?_
            refine V_if_eq Y.1 (tgt := 118) dX6_doTapIn_111 (by decide) (rfl : _ = 114) (fun c_n => absurd c_n c_61) (fun _ => ?_)
            refine V_iconst Y.1 (v := 1) dX6_doTapIn_114 (rfl : _ = 115) (by decide) ?_
            refine V_goto Y.1 (tgt := 119) dX6_doTapIn_115 (by decide) ?_
            exact V_ret Y.1 dX6_doTapIn_119 rfl (Nat.le_of_ble_eq_true rfl) (Nat.le_of_ble_eq_true rfl) (q_e (z := 0) rfl (by rw [show nI 0 = 0 from rfl, upd_same h6]; exact hM) (by unfold q_in; simp only [*, if_true, if_false, not_true, not_false_iff, true_and, reduceIte, ge_iff_le, gt_iff_lt] <;> rfl))
          · refine V_aload_n Y.1 1 dX6_doTapIn_64 (rfl : _ = 65) rfl rfl ?_
            refine V_iload_n Y.1 2 dX6_doTapIn_65 (rfl : _ = 66) rfl rfl ?_
            refine V_iconst Y.1 (v := 4) dX6_doTapIn_66 (rfl : _ = 67) (by decide) ?_
            refine V_iload_n Y.1 3 dX6_doTapIn_67 (rfl : _ = 68) rfl rfl ?_
            refine V_cV Y (rV Y (c_X6_sets l D kA _ _ _ _ _ _ _ _ _ _ i hi 4 (by decide) _ hM) mi_X6_sets vi_X6_73 rfl hM.1 rfl rfl (Nat.le_of_ble_eq_true rfl) ⟨Nat.le_of_ble_eq_true rfl, Nat.le_of_ble_eq_true rfl⟩ (Nat.le_of_ble_eq_true rfl) (Nat.le_of_ble_eq_true rfl) dX6_doTapIn_68) (fun q hq => Or.inl (blk_sub (by omega) (by omega) q hq)) (rfl : _ = 71) (fun H68_158 hq_68 o_68 => ?_)
            have hM := hq_68
            refine V_aload_n Y.1 1 dX6_doTapIn_71 (rfl : _ = 72) rfl rfl ?_
            refine V_iload_n Y.1 2 dX6_doTapIn_72 (rfl : _ = 73) rfl rfl ?_
            refine V_iconst Y.1 (v := 5) dX6_doTapIn_73 (rfl : _ = 74) (by decide) ?_
            refine V_iconst Y.1 (v := 0) dX6_doTapIn_74 (rfl : _ = 75) (by decide) ?_
            refine V_cV Y (rV Y (c_X6_sets l D kA _ _ _ _ _ _ _ _ _ _ i hi 5 (by decide) _ hM) mi_X6_sets vi_X6_73 rfl hM.1 rfl rfl (Nat.le_of_ble_eq_true rfl) ⟨Nat.le_of_ble_eq_true rfl, Nat.le_of_ble_eq_true rfl⟩ (Nat.le_of_ble_eq_true rfl) (Nat.le_of_ble_eq_true rfl) dX6_doTapIn_75) (fun q hq => Or.inl (blk_sub (by omega) (by omega) q hq)) (rfl : _ = 78) (fun H75_164 hq_75 o_75 => ?_)
            have hM := hq_75
            refine V_aload_n Y.1 1 dX6_doTapIn_78 (rfl : _ = 79) rfl rfl ?_
            refine V_iload_n Y.1 2 dX6_doTapIn_79 (rfl : _ = 80) rfl rfl ?_
            refine V_iconst Y.1 (v := 2) dX6_doTapIn_80 (rfl : _ = 81) (by decide) ?_
            refine V_iload_n Y.1 3 dX6_doTapIn_81 (rfl : _ = 82) rfl rfl ?_
            refine V_cV Y (rV Y (c_X6_sets l D kA _ _ _ _ _ _ _ _ _ _ i hi 2 (by decide) _ hM) mi_X6_sets vi_X6_73 rfl hM.1 rfl rfl (Nat.le_of_ble_eq_true rfl) ⟨Nat.le_of_ble_eq_true rfl, Nat.le_of_ble_eq_true rfl⟩ (Nat.le_of_ble_eq_true rfl) (Nat.le_of_ble_eq_true rfl) dX6_doTapIn_82) (fun q hq => Or.inl (blk_sub (by omega) (by omega) q hq)) (rfl : _ = 85) (fun H82_170 hq_82 o_82 => ?_)
            have hM := hq_82
            refine V_aload_n Y.1 1 dX6_doTapIn_85 (rfl : _ = 86) rfl rfl ?_
            refine V_iload_n Y.1 2 dX6_doTapIn_86 (rfl : _ = 87) rfl rfl ?_
            refine V_iconst Y.1 (v := 3) dX6_doTapIn_87 (rfl : _ = 88) (by decide) ?_
            refine V_aload_n Y.1 1 dX6_doTapIn_88 (rfl : _ = 89) rfl rfl ?_
            refine V_get Y.1 fi_X6_9 hM.1 rfl dX6_doTapIn_89 (rfl : _ = 92) ?_
            refine V_iconst Y.1 (v := 1) dX6_doTapIn_92 (rfl : _ = 93) (by decide) ?_
            refine V_iald Y.1 hM.2.1 (by unfold vp_in; decide) rfl dX6_doTapIn_93 (rfl : _ = 94) ?_
            refine V_cV Y (rV Y (c_X6_sets l D kA _ _ _ _ _ _ _ _ _ _ i hi 3 (by decide) _ hM) mi_X6_sets vi_X6_73 rfl hM.1 rfl rfl (Nat.le_of_ble_eq_true rfl) ⟨Nat.le_of_ble_eq_true rfl, Nat.le_of_ble_eq_true rfl⟩ (Nat.le_of_ble_eq_true rfl) (Nat.le_of_ble_eq_true rfl) dX6_doTapIn_94) (fun q hq => Or.inl (blk_sub (by omega) (by omega) q hq)) (rfl : _ = 97) (fun H94_179 hq_94 o_94 => ?_)
            have hM := hq_94
            refine V_aload_n Y.1 1 dX6_doTapIn_97 (rfl : _ = 98) rfl rfl ?_
            refine V_get Y.1 fi_X6_9 hM.1 rfl dX6_doTapIn_98 (rfl : _ = 101) ?_
            refine V_bipush Y.1 (v := 21) dX6_doTapIn_101 (rfl : _ = 103) (by decide) ?_
            refine V_iload_n Y.1 3 dX6_doTapIn_103 (rfl : _ = 104) rfl rfl ?_
            refine V_iadd Y.1 dX6_doTapIn_104 (rfl : _ = 105) ?_
            refine V_nm (v := nI (21 + w)) (nI_add _ _) ?_
            refine V_dup2 Y.1 dX6_doTapIn_105 (rfl : _ = 106) rfl rfl ?_
            refine V_iald Y.1 (v := _) hM.2.1 (by first | assumption | exact vp_in_nI (by omega) (by omega)) (by rw [nI_clamp (by omega)]) dX6_doTapIn_106 (rfl : _ = 107) ?_
            refine V_iconst Y.1 (v := 1) dX6_doTapIn_107 (rfl : _ = 108) (by decide) ?_
            refine V_iadd Y.1 dX6_doTapIn_108 (rfl : _ = 109) ?_
            refine V_iast Y.1 hM.2.1 (Or.inl ⟨by omega, by omega⟩) (by first | assumption | exact vp_in_nI (by omega) (by omega)) dX6_doTapIn_109 (rfl : _ = 110) (fun H109_191 h_new o_109 => ?_)
            rw [nI_clamp (by omega)] at h_new
            have hM := hM.a1 o_109 h_new
            clear h_new
            refine V_iload_n Y.1 0 dX6_doTapIn_110 (rfl : _ = 111) rfl rfl ?_
            refine V_if_eq Y.1 (tgt := 118) dX6_doTapIn_111 (by decide) (rfl : _ = 114) (fun _ => ?_) (fun c_n => absurd c_61 c_n)
            refine V_iconst Y.1 (v := 0) dX6_doTapIn_118 (rfl : _ = 119) (by decide) ?_
            exact V_ret Y.1 dX6_doTapIn_119 rfl (Nat.le_of_ble_eq_true rfl) (Nat.le_of_ble_eq_true rfl) (q_e (z := 0) rfl (by rw [show nI 0 = 0 from rfl, upd_same h6]; exact hM) (by unfold q_in; simp only [*, if_true, if_false, not_true, not_false_iff, true_and, reduceIte, ge_iff_le, gt_iff_lt] <;> rfl))
      · refine V_aload_n Y.1 0 dX6_doTapIn_33 (rfl : _ = 34) rfl rfl ?_
        refine V_iconst Y.1 (v := 2) dX6_doTapIn_34 (rfl : _ = 35) (by decide) ?_
        refine V_cI Y (rV Y (c_X6_fails l D kA _ _ _ _ _ _ _ _ _ _ 2 hM) mi_X6_fails vi_X6_100 rfl hM.1 rfl rfl (Nat.le_of_ble_eq_true rfl) ⟨Nat.le_of_ble_eq_true rfl, Nat.le_of_ble_eq_true rfl⟩ (Nat.le_of_ble_eq_true rfl) (Nat.le_of_ble_eq_true rfl) dX6_doTapIn_35) (fun q hq => Or.inl (blk_sub (by omega) (by omega) q hq)) (rfl : _ = 38) (fun v_35 H35_201 hq_35 o_35 => ?_)
        obtain ⟨e35, hM⟩ := hq_35
        exact V_ret Y.1 dX6_doTapIn_38 rfl (Nat.le_of_ble_eq_true rfl) (Nat.le_of_ble_eq_true rfl) (q_e (z := 2) e35 hM (by unfold q_in; simp only [*, if_true, if_false, not_true, not_false_iff, true_and, reduceIte, ge_iff_le, gt_iff_lt] <;> rfl))
    · refine V_aload_n Y.1 0 dX6_doTapIn_15 (rfl : _ = 16) rfl rfl ?_
      refine V_iconst Y.1 (v := 1) dX6_doTapIn_16 (rfl : _ = 17) (by decide) ?_
      refine V_cI Y (rV Y (c_X6_fails l D kA _ _ _ _ _ _ _ _ _ _ 1 hM) mi_X6_fails vi_X6_100 rfl hM.1 rfl rfl (Nat.le_of_ble_eq_true rfl) ⟨Nat.le_of_ble_eq_true rfl, Nat.le_of_ble_eq_true rfl⟩ (Nat.le_of_ble_eq_true rfl) (Nat.le_of_ble_eq_true rfl) dX6_doTapIn_17) (fun q hq => Or.inl (blk_sub (by omega) (by omega) q hq)) (rfl : _ = 20) (fun v_17 H17_206 hq_17 o_17 => ?_)
      obtain ⟨e17, hM⟩ := hq_17
      exact V_ret Y.1 dX6_doTapIn_20 rfl (Nat.le_of_ble_eq_true rfl) (Nat.le_of_ble_eq_true rfl) (q_e (z := 1) e17 hM (by unfold q_in; simp only [*, if_true, if_false, not_true, not_false_iff, true_and, reduceIte, ge_iff_le, gt_iff_lt] <;> rfl))

set_option maxRecDepth 100000 in
set_option maxHeartbeats 4000000 in
theorem c_X6_doTapOut (l : Launch) (D : va_G) (kA : Nat → ClassId) (H0 : Heap) (o : Nat) (F s b v p u t c : Nat → Int32) (n t0 : Nat) (x y : Int32) (hM : Rs D kA H0 o F s b v p u t c) (hI : RI s n t0) (h6 : F 6 = 0) : Ct l D kA yX6_doTapOut cX6_doTapOut 4 (some .int) 4 94 0 0 H0 [.ref o, .int x, .int y] (blk o 8) (pI fun v9 H => v9 = (q_out s (t0 / 1440) x y).2.1 ∧ Rs D kA H o (upd F 6 (nI (q_out s (t0 / 1440) x y).1)) ((q_out s (t0 / 1440) x y).2.2) b v p u t c) := by
  refine Ct.of mi_X6_doTapOut (Nat.le_of_ble_eq_true rfl) (ls0 := [(0, _), (1, _), (2, _)]) rfl ?_
  intro Pp Ee Ss Mm Ar Bl Me Cc Y hs hnm
  refine V_aload_n Y.1 0 dX6_doTapOut_0 (rfl : _ = 1) rfl rfl ?_
  refine V_iload_n Y.1 1 dX6_doTapOut_1 (rfl : _ = 2) rfl rfl ?_
  refine V_cP Y (rV Y (c_X6_isCard l D kA _ _ _ _ _ _ _ _ _ _ _ hM) mi_X6_isCard vi_X6_113 rfl hM.1 rfl rfl (Nat.le_of_ble_eq_true rfl) ⟨Nat.le_of_ble_eq_true rfl, Nat.le_of_ble_eq_true rfl⟩ (Nat.le_of_ble_eq_true rfl) (Nat.le_of_ble_eq_true rfl) dX6_doTapOut_2) (rfl : _ = 5) ?_
  refine V_if_eq Y.1 (tgt := 15) dX6_doTapOut_5 (by decide) (rfl : _ = 8) (fun c_5 => ?_) (fun c_5 => ?_)
  · refine V_aload_n Y.1 0 dX6_doTapOut_15 (rfl : _ = 16) rfl rfl ?_
    refine V_iconst Y.1 (v := 1) dX6_doTapOut_16 (rfl : _ = 17) (by decide) ?_
    refine V_cI Y (rV Y (c_X6_fails l D kA _ _ _ _ _ _ _ _ _ _ 1 hM) mi_X6_fails vi_X6_100 rfl hM.1 rfl rfl (Nat.le_of_ble_eq_true rfl) ⟨Nat.le_of_ble_eq_true rfl, Nat.le_of_ble_eq_true rfl⟩ (Nat.le_of_ble_eq_true rfl) (Nat.le_of_ble_eq_true rfl) dX6_doTapOut_17) (fun q hq => Or.inl (blk_sub (by omega) (by omega) q hq)) (rfl : _ = 20) (fun v_17 H17_6 hq_17 o_17 => ?_)
    obtain ⟨e17, hM⟩ := hq_17
    exact V_ret Y.1 dX6_doTapOut_20 rfl (Nat.le_of_ble_eq_true rfl) (Nat.le_of_ble_eq_true rfl) (q_e (z := 1) e17 hM (by unfold q_out; simp only [*, if_true, if_false, not_true, not_false_iff, true_and, reduceIte, ge_iff_le, gt_iff_lt] <;> rfl))
  · obtain ⟨i, hi0, rfl⟩ := r_in_ca hI.1 hI.2.1 c_5
    have hi : i < 8 := by have := hI.2.1; omega
    have ei : (nI i).toNatClampNeg = i := nI_clamp (by omega)
    refine V_iload_n Y.1 2 dX6_doTapOut_8 (rfl : _ = 9) rfl rfl ?_
    refine V_cP Y (rS Y (c_X6_isStation l D kA _ _) mi_X6_isStation si_X6_120 rfl rfl (Nat.le_of_ble_eq_true rfl) ⟨Nat.le_of_ble_eq_true rfl, Nat.le_of_ble_eq_true rfl⟩ (Nat.le_of_ble_eq_true rfl) (Nat.le_of_ble_eq_true rfl) dX6_doTapOut_9) (rfl : _ = 12) ?_
    refine V_if_ne Y.1 (tgt := 21) dX6_doTapOut_12 (by decide) (rfl : _ = 15) (fun c_12 => ?_) (fun c_12 => ?_)
    · obtain ⟨w, hw, rfl⟩ := r_in_st c_12
      have ew : (nI w).toNatClampNeg = w := nI_clamp (by omega)
      refine V_aload_n Y.1 0 dX6_doTapOut_21 (rfl : _ = 22) rfl rfl ?_
      refine V_iload_n Y.1 1 dX6_doTapOut_22 (rfl : _ = 23) rfl rfl ?_
      refine V_iconst Y.1 (v := 2) dX6_doTapOut_23 (rfl : _ = 24) (by decide) ?_
      refine V_cP Y (rV Y (c_X6_of l D kA _ _ _ _ _ _ _ _ _ _ i hi 2 (by decide) hM) mi_X6_of vi_X6_67 rfl hM.1 rfl rfl (Nat.le_of_ble_eq_true rfl) ⟨Nat.le_of_ble_eq_true rfl, Nat.le_of_ble_eq_true rfl⟩ (Nat.le_of_ble_eq_true rfl) (Nat.le_of_ble_eq_true rfl) dX6_doTapOut_24) (rfl : _ = 27) ?_
      refine V_if_ge Y.1 (tgt := 36) dX6_doTapOut_27 (by decide) (rfl : _ = 30) (fun c_27 => ?_) (fun c_27 => ?_)
      · obtain ⟨j, hj, ej⟩ := (hI.2.2.2.2 i hi).2.1
        have ejc : (nI j).toNatClampNeg = j := nI_clamp (by omega)
        refine V_aload_n Y.1 0 dX6_doTapOut_36 (rfl : _ = 37) rfl rfl ?_
        refine V_iload_n Y.1 1 dX6_doTapOut_37 (rfl : _ = 38) rfl rfl ?_
        refine V_aload_n Y.1 0 dX6_doTapOut_38 (rfl : _ = 39) rfl rfl ?_
        refine V_iload_n Y.1 1 dX6_doTapOut_39 (rfl : _ = 40) rfl rfl ?_
        refine V_iload_n Y.1 2 dX6_doTapOut_40 (rfl : _ = 41) rfl rfl ?_
        refine V_cP Y (rV Y (c_X6_chargeTo l D kA _ _ _ _ _ _ _ _ _ _ i hi j w hj hw hM ej) mi_X6_chargeTo vi_X6_134 rfl hM.1 rfl rfl (Nat.le_of_ble_eq_true rfl) ⟨Nat.le_of_ble_eq_true rfl, Nat.le_of_ble_eq_true rfl⟩ (Nat.le_of_ble_eq_true rfl) (Nat.le_of_ble_eq_true rfl) dX6_doTapOut_41) (rfl : _ = 44) ?_
        refine V_cI Y (rV Y (c_X6_charges l D kA _ _ _ _ _ _ _ _ _ _ i hi (t0 / 1440) hI.d _ hM hI.day) mi_X6_charges vi_X6_94 rfl hM.1 rfl rfl (Nat.le_of_ble_eq_true rfl) ⟨Nat.le_of_ble_eq_true rfl, Nat.le_of_ble_eq_true rfl⟩ (Nat.le_of_ble_eq_true rfl) (Nat.le_of_ble_eq_true rfl) dX6_doTapOut_44) (fun q hq => Or.inl (blk_sub (by omega) (by omega) q hq)) (rfl : _ = 47) (fun v_44 H44_30 hq_44 o_44 => ?_)
        obtain ⟨rfl, hM⟩ := hq_44
        refine V_istore_n Y.1 (ls' := [(3, _), (0, _), (1, _), (2, _)]) dX6_doTapOut_47 (rfl : _ = 48) rfl (by decide) rfl ?_
        refine V_aload_n Y.1 1 dX6_doTapOut_48 (rfl : _ = 49) rfl rfl ?_
        refine V_iload_n Y.1 2 dX6_doTapOut_49 (rfl : _ = 50) rfl rfl ?_
        refine V_iconst Y.1 (v := 5) dX6_doTapOut_50 (rfl : _ = 51) (by decide) ?_
        refine V_aload_n Y.1 1 dX6_doTapOut_51 (rfl : _ = 52) rfl rfl ?_
        refine V_iload_n Y.1 2 dX6_doTapOut_52 (rfl : _ = 53) rfl rfl ?_
        refine V_iconst Y.1 (v := 5) dX6_doTapOut_53 (rfl : _ = 54) (by decide) ?_
        refine V_cP Y (rV Y (c_X6_of l D kA _ _ _ _ _ _ _ _ _ _ i hi 5 (by decide) hM) mi_X6_of vi_X6_67 rfl hM.1 rfl rfl (Nat.le_of_ble_eq_true rfl) ⟨Nat.le_of_ble_eq_true rfl, Nat.le_of_ble_eq_true rfl⟩ (Nat.le_of_ble_eq_true rfl) (Nat.le_of_ble_eq_true rfl) dX6_doTapOut_54) (rfl : _ = 57) ?_
        refine V_iload_n Y.1 0 dX6_doTapOut_57 (rfl : _ = 58) rfl rfl ?_
        refine V_iadd Y.1 dX6_doTapOut_58 (rfl : _ = 59) ?_
        refine V_cV Y (rV Y (c_X6_sets l D kA _ _ _ _ _ _ _ _ _ _ i hi 5 (by decide) _ hM) mi_X6_sets vi_X6_73 rfl hM.1 rfl rfl (Nat.le_of_ble_eq_true rfl) ⟨Nat.le_of_ble_eq_true rfl, Nat.le_of_ble_eq_true rfl⟩ (Nat.le_of_ble_eq_true rfl) (Nat.le_of_ble_eq_true rfl) dX6_doTapOut_59) (fun q hq => Or.inl (blk_sub (by omega) (by omega) q hq)) (rfl : _ = 62) (fun H59_42 hq_59 o_59 => ?_)
        have hM := hq_59
        refine V_aload_n Y.1 1 dX6_doTapOut_62 (rfl : _ = 63) rfl rfl ?_
        refine V_iload_n Y.1 2 dX6_doTapOut_63 (rfl : _ = 64) rfl rfl ?_
        refine V_iconst Y.1 (v := 2) dX6_doTapOut_64 (rfl : _ = 65) (by decide) ?_
        refine V_iconst Y.1 (v := -1) dX6_doTapOut_65 (rfl : _ = 66) (by decide) ?_
        refine V_cV Y (rV Y (c_X6_sets l D kA _ _ _ _ _ _ _ _ _ _ i hi 2 (by decide) _ hM) mi_X6_sets vi_X6_73 rfl hM.1 rfl rfl (Nat.le_of_ble_eq_true rfl) ⟨Nat.le_of_ble_eq_true rfl, Nat.le_of_ble_eq_true rfl⟩ (Nat.le_of_ble_eq_true rfl) (Nat.le_of_ble_eq_true rfl) dX6_doTapOut_66) (fun q hq => Or.inl (blk_sub (by omega) (by omega) q hq)) (rfl : _ = 69) (fun H66_48 hq_66 o_66 => ?_)
        have hM := hq_66
        refine V_aload_n Y.1 1 dX6_doTapOut_69 (rfl : _ = 70) rfl rfl ?_
        refine V_iload_n Y.1 2 dX6_doTapOut_70 (rfl : _ = 71) rfl rfl ?_
        refine V_bipush Y.1 (v := 6) dX6_doTapOut_71 (rfl : _ = 73) (by decide) ?_
        refine V_iload_n Y.1 3 dX6_doTapOut_73 (rfl : _ = 74) rfl rfl ?_
        refine V_cV Y (rV Y (c_X6_sets l D kA _ _ _ _ _ _ _ _ _ _ i hi 6 (by decide) _ hM) mi_X6_sets vi_X6_73 rfl hM.1 rfl rfl (Nat.le_of_ble_eq_true rfl) ⟨Nat.le_of_ble_eq_true rfl, Nat.le_of_ble_eq_true rfl⟩ (Nat.le_of_ble_eq_true rfl) (Nat.le_of_ble_eq_true rfl) dX6_doTapOut_74) (fun q hq => Or.inl (blk_sub (by omega) (by omega) q hq)) (rfl : _ = 77) (fun H74_54 hq_74 o_74 => ?_)
        have hM := hq_74
        refine V_aload_n Y.1 1 dX6_doTapOut_77 (rfl : _ = 78) rfl rfl ?_
        refine V_iload_n Y.1 2 dX6_doTapOut_78 (rfl : _ = 79) rfl rfl ?_
        refine V_bipush Y.1 (v := 7) dX6_doTapOut_79 (rfl : _ = 81) (by decide) ?_
        refine V_aload_n Y.1 1 dX6_doTapOut_81 (rfl : _ = 82) rfl rfl ?_
        refine V_get Y.1 fi_X6_9 hM.1 rfl dX6_doTapOut_82 (rfl : _ = 85) ?_
        refine V_iconst Y.1 (v := 1) dX6_doTapOut_85 (rfl : _ = 86) (by decide) ?_
        refine V_iald Y.1 hM.2.1 (by unfold vp_in; decide) rfl dX6_doTapOut_86 (rfl : _ = 87) ?_
        refine V_cV Y (rV Y (c_X6_sets l D kA _ _ _ _ _ _ _ _ _ _ i hi 7 (by decide) _ hM) mi_X6_sets vi_X6_73 rfl hM.1 rfl rfl (Nat.le_of_ble_eq_true rfl) ⟨Nat.le_of_ble_eq_true rfl, Nat.le_of_ble_eq_true rfl⟩ (Nat.le_of_ble_eq_true rfl) (Nat.le_of_ble_eq_true rfl) dX6_doTapOut_87) (fun q hq => Or.inl (blk_sub (by omega) (by omega) q hq)) (rfl : _ = 90) (fun H87_63 hq_87 o_87 => ?_)
        have hM := hq_87
        refine V_aload_n Y.1 1 dX6_doTapOut_90 (rfl : _ = 91) rfl rfl ?_
        refine V_get Y.1 fi_X6_9 hM.1 rfl dX6_doTapOut_91 (rfl : _ = 94) ?_
        refine V_bipush Y.1 (v := 7) dX6_doTapOut_94 (rfl : _ = 96) (by decide) ?_
        refine V_dup2 Y.1 dX6_doTapOut_96 (rfl : _ = 97) rfl rfl ?_
        refine V_iald Y.1 hM.2.1 (by unfold vp_in; decide) rfl dX6_doTapOut_97 (rfl : _ = 98) ?_
        refine V_iconst Y.1 (v := 1) dX6_doTapOut_98 (rfl : _ = 99) (by decide) ?_
        refine V_iadd Y.1 dX6_doTapOut_99 (rfl : _ = 100) ?_
        refine V_iast Y.1 hM.2.1 (Or.inl ⟨by omega, by omega⟩) (by unfold vp_in; decide) dX6_doTapOut_100 (rfl : _ = 101) (fun H100_72 h_new o_100 => ?_)
        have h_new : hp D _ _ (eI kA 169 (upd _ 7 _)) := h_new
        have hM := hM.a1 o_100 h_new
        clear h_new
        refine V_aload_n Y.1 1 dX6_doTapOut_101 (rfl : _ = 102) rfl rfl ?_
        refine V_get Y.1 fi_X6_9 hM.1 rfl dX6_doTapOut_102 (rfl : _ = 105) ?_
        refine V_bipush Y.1 (v := 21) dX6_doTapOut_105 (rfl : _ = 107) (by decide) ?_
        refine V_iload_n Y.1 3 dX6_doTapOut_107 (rfl : _ = 108) rfl rfl ?_
        refine V_iadd Y.1 dX6_doTapOut_108 (rfl : _ = 109) ?_
        refine V_nm (v := nI (21 + w)) (nI_add _ _) ?_
        refine V_dup2 Y.1 dX6_doTapOut_109 (rfl : _ = 110) rfl rfl ?_
        refine V_iald Y.1 (v := _) hM.2.1 (by first | assumption | exact vp_in_nI (by omega) (by omega)) (by rw [nI_clamp (by omega)]) dX6_doTapOut_110 (rfl : _ = 111) ?_
        refine V_iconst Y.1 (v := 1) dX6_doTapOut_111 (rfl : _ = 112) (by decide) ?_
        refine V_iadd Y.1 dX6_doTapOut_112 (rfl : _ = 113) ?_
        refine V_iast Y.1 hM.2.1 (Or.inl ⟨by omega, by omega⟩) (by first | assumption | exact vp_in_nI (by omega) (by omega)) dX6_doTapOut_113 (rfl : _ = 114) (fun H113_86 h_new o_113 => ?_)
        rw [nI_clamp (by omega)] at h_new
        have hM := hM.a1 o_113 h_new
        clear h_new
        refine V_iload_n Y.1 0 dX6_doTapOut_114 (rfl : _ = 115) rfl rfl ?_
        exact V_ret Y.1 dX6_doTapOut_115 rfl (Nat.le_of_ble_eq_true rfl) (Nat.le_of_ble_eq_true rfl) (q_e (z := 0) rfl (by rw [show nI 0 = 0 from rfl, upd_same h6]; exact hM) (by unfold q_out; simp only [*, if_true, if_false, not_true, not_false_iff, true_and, reduceIte, ge_iff_le, gt_iff_lt] <;> rfl))
      · refine V_aload_n Y.1 0 dX6_doTapOut_30 (rfl : _ = 31) rfl rfl ?_
        refine V_iconst Y.1 (v := 2) dX6_doTapOut_31 (rfl : _ = 32) (by decide) ?_
        refine V_cI Y (rV Y (c_X6_fails l D kA _ _ _ _ _ _ _ _ _ _ 2 hM) mi_X6_fails vi_X6_100 rfl hM.1 rfl rfl (Nat.le_of_ble_eq_true rfl) ⟨Nat.le_of_ble_eq_true rfl, Nat.le_of_ble_eq_true rfl⟩ (Nat.le_of_ble_eq_true rfl) (Nat.le_of_ble_eq_true rfl) dX6_doTapOut_32) (fun q hq => Or.inl (blk_sub (by omega) (by omega) q hq)) (rfl : _ = 35) (fun v_32 H32_94 hq_32 o_32 => ?_)
        obtain ⟨e32, hM⟩ := hq_32
        exact V_ret Y.1 dX6_doTapOut_35 rfl (Nat.le_of_ble_eq_true rfl) (Nat.le_of_ble_eq_true rfl) (q_e (z := 2) e32 hM (by unfold q_out; simp only [*, if_true, if_false, not_true, not_false_iff, true_and, reduceIte, ge_iff_le, gt_iff_lt] <;> rfl))
    · refine V_aload_n Y.1 0 dX6_doTapOut_15 (rfl : _ = 16) rfl rfl ?_
      refine V_iconst Y.1 (v := 1) dX6_doTapOut_16 (rfl : _ = 17) (by decide) ?_
      refine V_cI Y (rV Y (c_X6_fails l D kA _ _ _ _ _ _ _ _ _ _ 1 hM) mi_X6_fails vi_X6_100 rfl hM.1 rfl rfl (Nat.le_of_ble_eq_true rfl) ⟨Nat.le_of_ble_eq_true rfl, Nat.le_of_ble_eq_true rfl⟩ (Nat.le_of_ble_eq_true rfl) (Nat.le_of_ble_eq_true rfl) dX6_doTapOut_17) (fun q hq => Or.inl (blk_sub (by omega) (by omega) q hq)) (rfl : _ = 20) (fun v_17 H17_99 hq_17 o_17 => ?_)
      obtain ⟨e17, hM⟩ := hq_17
      exact V_ret Y.1 dX6_doTapOut_20 rfl (Nat.le_of_ble_eq_true rfl) (Nat.le_of_ble_eq_true rfl) (q_e (z := 1) e17 hM (by unfold q_out; simp only [*, if_true, if_false, not_true, not_false_iff, true_and, reduceIte, ge_iff_le, gt_iff_lt] <;> rfl))

set_option maxRecDepth 100000 in
set_option maxHeartbeats 4000000 in
theorem c_X6_doRepair (l : Launch) (D : va_G) (kA : Nat → ClassId) (H0 : Heap) (o : Nat) (F s b v p u t c : Nat → Int32) (n t0 : Nat) (x y : Int32) (hM : Rs D kA H0 o F s b v p u t c) (hI : RI s n t0) (h6 : F 6 = 0) : Ct l D kA yX6_doRepair cX6_doRepair 6 (some .int) 3 71 0 0 H0 [.ref o, .int x, .int y] (blk o 8) (pI fun v9 H => v9 = (q_fix s (t0 / 1440) x y).2.1 ∧ Rs D kA H o (upd F 6 (nI (q_fix s (t0 / 1440) x y).1)) ((q_fix s (t0 / 1440) x y).2.2) b v p u t c) := by
  refine Ct.of mi_X6_doRepair (Nat.le_of_ble_eq_true rfl) (ls0 := [(0, _), (1, _), (2, _)]) rfl ?_
  intro Pp Ee Ss Mm Ar Bl Me Cc Y hs hnm
  refine V_aload_n Y.1 0 dX6_doRepair_0 (rfl : _ = 1) rfl rfl ?_
  refine V_iload_n Y.1 1 dX6_doRepair_1 (rfl : _ = 2) rfl rfl ?_
  refine V_cP Y (rV Y (c_X6_isCard l D kA _ _ _ _ _ _ _ _ _ _ _ hM) mi_X6_isCard vi_X6_113 rfl hM.1 rfl rfl (Nat.le_of_ble_eq_true rfl) ⟨Nat.le_of_ble_eq_true rfl, Nat.le_of_ble_eq_true rfl⟩ (Nat.le_of_ble_eq_true rfl) (Nat.le_of_ble_eq_true rfl) dX6_doRepair_2) (rfl : _ = 5) ?_
  refine V_if_eq Y.1 (tgt := 15) dX6_doRepair_5 (by decide) (rfl : _ = 8) (fun c_5 => ?_) (fun c_5 => ?_)
  · refine V_aload_n Y.1 0 dX6_doRepair_15 (rfl : _ = 16) rfl rfl ?_
    refine V_iconst Y.1 (v := 1) dX6_doRepair_16 (rfl : _ = 17) (by decide) ?_
    refine V_cI Y (rV Y (c_X6_fails l D kA _ _ _ _ _ _ _ _ _ _ 1 hM) mi_X6_fails vi_X6_100 rfl hM.1 rfl rfl (Nat.le_of_ble_eq_true rfl) ⟨Nat.le_of_ble_eq_true rfl, Nat.le_of_ble_eq_true rfl⟩ (Nat.le_of_ble_eq_true rfl) (Nat.le_of_ble_eq_true rfl) dX6_doRepair_17) (fun q hq => Or.inl (blk_sub (by omega) (by omega) q hq)) (rfl : _ = 20) (fun v_17 H17_6 hq_17 o_17 => ?_)
    obtain ⟨e17, hM⟩ := hq_17
    exact V_ret Y.1 dX6_doRepair_20 rfl (Nat.le_of_ble_eq_true rfl) (Nat.le_of_ble_eq_true rfl) (q_e (z := 1) e17 hM (by unfold q_fix; simp only [*, if_true, if_false, not_true, not_false_iff, true_and, reduceIte, ge_iff_le, gt_iff_lt] <;> rfl))
  · obtain ⟨i, hi0, rfl⟩ := r_in_ca hI.1 hI.2.1 c_5
    have hi : i < 8 := by have := hI.2.1; omega
    have ei : (nI i).toNatClampNeg = i := nI_clamp (by omega)
    refine V_iload_n Y.1 2 dX6_doRepair_8 (rfl : _ = 9) rfl rfl ?_
    refine V_cP Y (rS Y (c_X6_isStation l D kA _ _) mi_X6_isStation si_X6_120 rfl rfl (Nat.le_of_ble_eq_true rfl) ⟨Nat.le_of_ble_eq_true rfl, Nat.le_of_ble_eq_true rfl⟩ (Nat.le_of_ble_eq_true rfl) (Nat.le_of_ble_eq_true rfl) dX6_doRepair_9) (rfl : _ = 12) ?_
    refine V_if_ne Y.1 (tgt := 21) dX6_doRepair_12 (by decide) (rfl : _ = 15) (fun c_12 => ?_) (fun c_12 => ?_)
    · obtain ⟨w, hw, rfl⟩ := r_in_st c_12
      have ew : (nI w).toNatClampNeg = w := nI_clamp (by omega)
      obtain ⟨e, he, ee⟩ := (hI.2.2.2.2 i hi).2.2.2
      have eec : (nI e).toNatClampNeg = e := nI_clamp (by omega)
      refine V_aload_n Y.1 0 dX6_doRepair_21 (rfl : _ = 22) rfl rfl ?_
      refine V_iload_n Y.1 1 dX6_doRepair_22 (rfl : _ = 23) rfl rfl ?_
      refine V_bipush Y.1 (v := 8) dX6_doRepair_23 (rfl : _ = 25) (by decide) ?_
      refine V_cP Y (rV Y (c_X6_of l D kA _ _ _ _ _ _ _ _ _ _ i hi 8 (by decide) hM) mi_X6_of vi_X6_67 rfl hM.1 rfl rfl (Nat.le_of_ble_eq_true rfl) ⟨Nat.le_of_ble_eq_true rfl, Nat.le_of_ble_eq_true rfl⟩ (Nat.le_of_ble_eq_true rfl) (Nat.le_of_ble_eq_true rfl) dX6_doRepair_25) (rfl : _ = 28) ?_
      refine V_istore_n Y.1 (ls' := [(3, _), (0, _), (1, _), (2, _)]) dX6_doRepair_28 (rfl : _ = 29) rfl (by decide) rfl ?_
      refine V_aload_n Y.1 1 dX6_doRepair_29 (rfl : _ = 30) rfl rfl ?_
      refine V_iload_n Y.1 2 dX6_doRepair_30 (rfl : _ = 31) rfl rfl ?_
      refine V_bipush Y.1 (v := 9) dX6_doRepair_31 (rfl : _ = 33) (by decide) ?_
      refine V_cP Y (rV Y (c_X6_of l D kA _ _ _ _ _ _ _ _ _ _ i hi 9 (by decide) hM) mi_X6_of vi_X6_67 rfl hM.1 rfl rfl (Nat.le_of_ble_eq_true rfl) ⟨Nat.le_of_ble_eq_true rfl, Nat.le_of_ble_eq_true rfl⟩ (Nat.le_of_ble_eq_true rfl) (Nat.le_of_ble_eq_true rfl) dX6_doRepair_33) (rfl : _ = 36) ?_
      refine V_nm (v := nI e) ee ?_
      refine V_istore Y.1 (ls' := [(4, _), (3, _), (0, _), (1, _), (2, _)]) dX6_doRepair_36 (rfl : _ = 38) (by decide) rfl ?_
      refine V_iload_n Y.1 1 dX6_doRepair_38 (rfl : _ = 39) rfl rfl ?_
      refine V_if_ge Y.1 (tgt := 48) dX6_doRepair_39 (by decide) (rfl : _ = 42) (fun c_39 => ?_) (fun c_39 => ?_)
      · obtain ⟨j, hj, ej⟩ := (hI.2.2.2.2 i hi).2.2.1.resolve_left (Int32.not_lt.mpr c_39)
        have c39 : 0 ≤ nI j := ej ▸ c_39
        have ejc : (nI j).toNatClampNeg = j := nI_clamp (by omega)
        refine V_aload_n Y.1 2 dX6_doRepair_48 (rfl : _ = 49) rfl rfl ?_
        refine V_cP Y (rV Y (c_X6_today l D kA _ _ _ _ _ _ _ _ _ _  hM) mi_X6_today vi_X6_81 rfl hM.1 rfl rfl (Nat.le_of_ble_eq_true rfl) ⟨Nat.le_of_ble_eq_true rfl, Nat.le_of_ble_eq_true rfl⟩ (Nat.le_of_ble_eq_true rfl) (Nat.le_of_ble_eq_true rfl) dX6_doRepair_49) (rfl : _ = 52) ?_
        refine V_nm (v := nI (t0 / 1440)) hI.day ?_
        refine V_iload Y.1 0 dX6_doRepair_52 (rfl : _ = 54) rfl ?_
        refine V_isub Y.1 dX6_doRepair_54 (rfl : _ = 55) ?_
        refine V_iconst Y.1 (v := 2) dX6_doRepair_55 (rfl : _ = 56) (by decide) ?_
        refine V_icmp_le Y.1 (tgt := 65) dX6_doRepair_56 (by decide) (rfl : _ = 59) (fun c_56 => ?_) (fun c_56 => ?_)
        · refine V_iconst Y.1 (v := 0) dX6_doRepair_65 (rfl : _ = 66) (by decide) ?_
          refine V_aload_n Y.1 2 dX6_doRepair_66 (rfl : _ = 67) rfl rfl ?_
          refine V_iload_n Y.1 3 dX6_doRepair_67 (rfl : _ = 68) rfl rfl ?_
          refine V_bipush Y.1 (v := 10) dX6_doRepair_68 (rfl : _ = 70) (by decide) ?_
          refine V_cP Y (rV Y (c_X6_of l D kA _ _ _ _ _ _ _ _ _ _ i hi 10 (by decide) hM) mi_X6_of vi_X6_67 rfl hM.1 rfl rfl (Nat.le_of_ble_eq_true rfl) ⟨Nat.le_of_ble_eq_true rfl, Nat.le_of_ble_eq_true rfl⟩ (Nat.le_of_ble_eq_true rfl) (Nat.le_of_ble_eq_true rfl) dX6_doRepair_70) (rfl : _ = 73) ?_
          refine V_aload_n Y.1 2 dX6_doRepair_73 (rfl : _ = 74) rfl rfl ?_
          refine V_iload_n Y.1 3 dX6_doRepair_74 (rfl : _ = 75) rfl rfl ?_
          refine V_aload_n Y.1 2 dX6_doRepair_75 (rfl : _ = 76) rfl rfl ?_
          refine V_iload_n Y.1 1 dX6_doRepair_76 (rfl : _ = 77) rfl rfl ?_
          refine V_nm (v := nI j) ej ?_
          refine V_iload_n Y.1 4 dX6_doRepair_77 (rfl : _ = 78) rfl rfl ?_
          refine V_cP Y (rV Y (c_X6_price l D kA _ _ _ _ _ _ _ _ _ _ j w hj hw hM) mi_X6_price vi_X6_97 rfl hM.1 rfl rfl (Nat.le_of_ble_eq_true rfl) ⟨Nat.le_of_ble_eq_true rfl, Nat.le_of_ble_eq_true rfl⟩ (Nat.le_of_ble_eq_true rfl) (Nat.le_of_ble_eq_true rfl) dX6_doRepair_78) (rfl : _ = 81) ?_
          refine V_cP Y (rV Y (c_X6_paidOf l D kA _ _ _ _ _ _ _ _ _ _ i hi _ hM) mi_X6_paidOf vi_X6_91 rfl hM.1 rfl rfl (Nat.le_of_ble_eq_true rfl) ⟨Nat.le_of_ble_eq_true rfl, Nat.le_of_ble_eq_true rfl⟩ (Nat.le_of_ble_eq_true rfl) (Nat.le_of_ble_eq_true rfl) dX6_doRepair_81) (rfl : _ = 84) ?_
          refine V_isub Y.1 dX6_doRepair_84 (rfl : _ = 85) ?_
          refine V_mmax Y.1 mw_X6_61 (Nat.le_of_ble_eq_true rfl) (Nat.le_of_ble_eq_true rfl) (Nat.le_of_ble_eq_true rfl) (Nat.le_of_ble_eq_true rfl) dX6_doRepair_85 (rfl : _ = 88) ?_
          refine V_istore Y.1 (ls' := [(5, _), (4, _), (3, _), (0, _), (1, _), (2, _)]) dX6_doRepair_88 (rfl : _ = 90) (by decide) rfl ?_
          refine V_aload_n Y.1 3 dX6_doRepair_90 (rfl : _ = 91) rfl rfl ?_
          refine V_iload_n Y.1 4 dX6_doRepair_91 (rfl : _ = 92) rfl rfl ?_
          refine V_iload Y.1 1 dX6_doRepair_92 (rfl : _ = 94) rfl ?_
          refine V_iload Y.1 0 dX6_doRepair_94 (rfl : _ = 96) rfl ?_
          refine V_ineg Y.1 dX6_doRepair_96 (rfl : _ = 97) ?_
          refine V_cV Y (rV Y (c_X6_addsOn l D kA _ _ _ _ _ _ _ _ _ _ i hi e (by omega) _ hM) mi_X6_addsOn vi_X6_88 rfl hM.1 rfl rfl (Nat.le_of_ble_eq_true rfl) ⟨Nat.le_of_ble_eq_true rfl, Nat.le_of_ble_eq_true rfl⟩ (Nat.le_of_ble_eq_true rfl) (Nat.le_of_ble_eq_true rfl) dX6_doRepair_97) (fun q hq => Or.inl (blk_sub (by omega) (by omega) q hq)) (rfl : _ = 100) (fun H97_63 hq_97 o_97 => ?_)
          have hM := hq_97
          refine V_aload_n Y.1 3 dX6_doRepair_100 (rfl : _ = 101) rfl rfl ?_
          refine V_iload_n Y.1 4 dX6_doRepair_101 (rfl : _ = 102) rfl rfl ?_
          refine V_iconst Y.1 (v := 1) dX6_doRepair_102 (rfl : _ = 103) (by decide) ?_
          refine V_aload_n Y.1 3 dX6_doRepair_103 (rfl : _ = 104) rfl rfl ?_
          refine V_iload_n Y.1 4 dX6_doRepair_104 (rfl : _ = 105) rfl rfl ?_
          refine V_iconst Y.1 (v := 1) dX6_doRepair_105 (rfl : _ = 106) (by decide) ?_
          refine V_cP Y (rV Y (c_X6_of l D kA _ _ _ _ _ _ _ _ _ _ i hi 1 (by decide) hM) mi_X6_of vi_X6_67 rfl hM.1 rfl rfl (Nat.le_of_ble_eq_true rfl) ⟨Nat.le_of_ble_eq_true rfl, Nat.le_of_ble_eq_true rfl⟩ (Nat.le_of_ble_eq_true rfl) (Nat.le_of_ble_eq_true rfl) dX6_doRepair_106) (rfl : _ = 109) ?_
          refine V_iload Y.1 0 dX6_doRepair_109 (rfl : _ = 111) rfl ?_
          refine V_iadd Y.1 dX6_doRepair_111 (rfl : _ = 112) ?_
          refine V_cV Y (rV Y (c_X6_sets l D kA _ _ _ _ _ _ _ _ _ _ i hi 1 (by decide) _ hM) mi_X6_sets vi_X6_73 rfl hM.1 rfl rfl (Nat.le_of_ble_eq_true rfl) ⟨Nat.le_of_ble_eq_true rfl, Nat.le_of_ble_eq_true rfl⟩ (Nat.le_of_ble_eq_true rfl) (Nat.le_of_ble_eq_true rfl) dX6_doRepair_112) (fun q hq => Or.inl (blk_sub (by omega) (by omega) q hq)) (rfl : _ = 115) (fun H112_74 hq_112 o_112 => ?_)
          have hM := hq_112
          refine V_aload_n Y.1 3 dX6_doRepair_115 (rfl : _ = 116) rfl rfl ?_
          refine V_iload_n Y.1 4 dX6_doRepair_116 (rfl : _ = 117) rfl rfl ?_
          refine V_bipush Y.1 (v := 8) dX6_doRepair_117 (rfl : _ = 119) (by decide) ?_
          refine V_iconst Y.1 (v := -1) dX6_doRepair_119 (rfl : _ = 120) (by decide) ?_
          refine V_cV Y (rV Y (c_X6_sets l D kA _ _ _ _ _ _ _ _ _ _ i hi 8 (by decide) _ hM) mi_X6_sets vi_X6_73 rfl hM.1 rfl rfl (Nat.le_of_ble_eq_true rfl) ⟨Nat.le_of_ble_eq_true rfl, Nat.le_of_ble_eq_true rfl⟩ (Nat.le_of_ble_eq_true rfl) (Nat.le_of_ble_eq_true rfl) dX6_doRepair_120) (fun q hq => Or.inl (blk_sub (by omega) (by omega) q hq)) (rfl : _ = 123) (fun H120_80 hq_120 o_120 => ?_)
          have hM := hq_120
          refine V_aload_n Y.1 3 dX6_doRepair_123 (rfl : _ = 124) rfl rfl ?_
          refine V_get Y.1 fi_X6_9 hM.1 rfl dX6_doRepair_124 (rfl : _ = 127) ?_
          refine V_bipush Y.1 (v := 6) dX6_doRepair_127 (rfl : _ = 129) (by decide) ?_
          refine V_dup2 Y.1 dX6_doRepair_129 (rfl : _ = 130) rfl rfl ?_
          refine V_iald Y.1 hM.2.1 (by unfold vp_in; decide) rfl dX6_doRepair_130 (rfl : _ = 131) ?_
          refine V_iload Y.1 0 dX6_doRepair_131 (rfl : _ = 133) rfl ?_
          refine V_iadd Y.1 dX6_doRepair_133 (rfl : _ = 134) ?_
          refine V_iast Y.1 hM.2.1 (Or.inl ⟨by omega, by omega⟩) (by unfold vp_in; decide) dX6_doRepair_134 (rfl : _ = 135) (fun H134_89 h_new o_134 => ?_)
          have h_new : hp D _ _ (eI kA 169 (upd _ 6 _)) := h_new
          have hM := hM.a1 o_134 h_new
          clear h_new
          refine V_iload Y.1 0 dX6_doRepair_135 (rfl : _ = 137) rfl ?_
          exact V_ret Y.1 dX6_doRepair_137 rfl (Nat.le_of_ble_eq_true rfl) (Nat.le_of_ble_eq_true rfl) (q_e (z := 0) rfl (by rw [show nI 0 = 0 from rfl, upd_same h6]; exact hM) (by unfold q_fix; simp only [*, if_true, if_false, not_true, not_false_iff, true_and, reduceIte, ge_iff_le, gt_iff_lt] <;> rfl))
        · refine V_aload_n Y.1 2 dX6_doRepair_59 (rfl : _ = 60) rfl rfl ?_
          refine V_iconst Y.1 (v := 3) dX6_doRepair_60 (rfl : _ = 61) (by decide) ?_
          refine V_cI Y (rV Y (c_X6_fails l D kA _ _ _ _ _ _ _ _ _ _ 3 hM) mi_X6_fails vi_X6_100 rfl hM.1 rfl rfl (Nat.le_of_ble_eq_true rfl) ⟨Nat.le_of_ble_eq_true rfl, Nat.le_of_ble_eq_true rfl⟩ (Nat.le_of_ble_eq_true rfl) (Nat.le_of_ble_eq_true rfl) dX6_doRepair_61) (fun q hq => Or.inl (blk_sub (by omega) (by omega) q hq)) (rfl : _ = 64) (fun v_61 H61_97 hq_61 o_61 => ?_)
          obtain ⟨e61, hM⟩ := hq_61
          exact V_ret Y.1 dX6_doRepair_64 rfl (Nat.le_of_ble_eq_true rfl) (Nat.le_of_ble_eq_true rfl) (q_e (z := 3) e61 hM (by unfold q_fix; simp only [*, if_true, if_false, not_true, not_false_iff, true_and, reduceIte, ge_iff_le, gt_iff_lt] <;> rfl))
      · refine V_aload_n Y.1 2 dX6_doRepair_42 (rfl : _ = 43) rfl rfl ?_
        refine V_iconst Y.1 (v := 2) dX6_doRepair_43 (rfl : _ = 44) (by decide) ?_
        refine V_cI Y (rV Y (c_X6_fails l D kA _ _ _ _ _ _ _ _ _ _ 2 hM) mi_X6_fails vi_X6_100 rfl hM.1 rfl rfl (Nat.le_of_ble_eq_true rfl) ⟨Nat.le_of_ble_eq_true rfl, Nat.le_of_ble_eq_true rfl⟩ (Nat.le_of_ble_eq_true rfl) (Nat.le_of_ble_eq_true rfl) dX6_doRepair_44) (fun q hq => Or.inl (blk_sub (by omega) (by omega) q hq)) (rfl : _ = 47) (fun v_44 H44_102 hq_44 o_44 => ?_)
        obtain ⟨e44, hM⟩ := hq_44
        exact V_ret Y.1 dX6_doRepair_47 rfl (Nat.le_of_ble_eq_true rfl) (Nat.le_of_ble_eq_true rfl) (q_e (z := 2) e44 hM (by unfold q_fix; simp only [*, if_true, if_false, not_true, not_false_iff, true_and, reduceIte, ge_iff_le, gt_iff_lt] <;> rfl))
    · refine V_aload_n Y.1 0 dX6_doRepair_15 (rfl : _ = 16) rfl rfl ?_
      refine V_iconst Y.1 (v := 1) dX6_doRepair_16 (rfl : _ = 17) (by decide) ?_
      refine V_cI Y (rV Y (c_X6_fails l D kA _ _ _ _ _ _ _ _ _ _ 1 hM) mi_X6_fails vi_X6_100 rfl hM.1 rfl rfl (Nat.le_of_ble_eq_true rfl) ⟨Nat.le_of_ble_eq_true rfl, Nat.le_of_ble_eq_true rfl⟩ (Nat.le_of_ble_eq_true rfl) (Nat.le_of_ble_eq_true rfl) dX6_doRepair_17) (fun q hq => Or.inl (blk_sub (by omega) (by omega) q hq)) (rfl : _ = 20) (fun v_17 H17_107 hq_17 o_17 => ?_)
      obtain ⟨e17, hM⟩ := hq_17
      exact V_ret Y.1 dX6_doRepair_20 rfl (Nat.le_of_ble_eq_true rfl) (Nat.le_of_ble_eq_true rfl) (q_e (z := 1) e17 hM (by unfold q_fix; simp only [*, if_true, if_false, not_true, not_false_iff, true_and, reduceIte, ge_iff_le, gt_iff_lt] <;> rfl))

set_option maxRecDepth 100000 in
set_option maxHeartbeats 4000000 in
theorem c_X6_doAdvance (l : Launch) (D : va_G) (kA : Nat → ClassId) (H0 : Heap) (o : Nat) (F s b v p u t c : Nat → Int32) (n t0 : Nat) (x : Int32) (hM : Rs D kA H0 o F s b v p u t c) (hI : RI s n t0) (ht2 : t0 + 2000 < 2 ^ 30) (h6 : F 6 = 0) : Ct l D kA yX6_doAdvance cX6_doAdvance 5 (some .int) 5 114 0 0 H0 [.ref o, .int x] (blk o 8) (pI fun v9 H => v9 = (q_wait s n t0 x).2.1 ∧ Rs D kA H o (upd F 6 (nI (q_wait s n t0 x).1)) ((q_wait s n t0 x).2.2) b v p u t c) := by
  refine Ct.of mi_X6_doAdvance (Nat.le_of_ble_eq_true rfl) (ls0 := [(0, _), (1, _)]) rfl ?_
  intro Pp Ee Ss Mm Ar Bl Me Cc Y hs hnm
  refine V_iload_n Y.1 1 dX6_doAdvance_0 (rfl : _ = 1) rfl rfl ?_
  refine V_iconst Y.1 (v := 1) dX6_doAdvance_1 (rfl : _ = 2) (by decide) ?_
  refine V_sipush Y.1 (v := 2000) dX6_doAdvance_2 (rfl : _ = 5) (by decide) ?_
  refine V_cP Y (rS Y (c_X6_in l D kA _ _ _ _) mi_X6_in si_X6_51 rfl rfl (Nat.le_of_ble_eq_true rfl) ⟨Nat.le_of_ble_eq_true rfl, Nat.le_of_ble_eq_true rfl⟩ (Nat.le_of_ble_eq_true rfl) (Nat.le_of_ble_eq_true rfl) dX6_doAdvance_5) (rfl : _ = 8) ?_
  refine V_if_ne Y.1 (tgt := 17) dX6_doAdvance_8 (by decide) (rfl : _ = 11) (fun c_8 => ?_) (fun c_8 => ?_)
  · refine V_iconst Y.1 (v := 0) dX6_doAdvance_17 (rfl : _ = 18) (by decide) ?_
    refine V_istore_n Y.1 (ls' := [(2, _), (0, _), (1, _)]) dX6_doAdvance_18 (rfl : _ = 19) rfl (by decide) rfl ?_
    refine V_iconst Y.1 (v := 0) dX6_doAdvance_19 (rfl : _ = 20) (by decide) ?_
    refine V_istore_n Y.1 (ls' := [(3, _), (2, _), (0, _), (1, _)]) dX6_doAdvance_20 (rfl : _ = 21) rfl (by decide) rfl ?_
    obtain ⟨m, hm1, hm, rfl⟩ := r_in_gen (a := 1) (n := 2000) (by decide) (by decide) c_8
    have em : (nI m).toNatClampNeg = m := nI_clamp (by omega)
    have lp : ∀ (r k : Nat) (H : Heap), k + r = m → Rs D kA H o F ((r_adv s n t0 k).1) b v p u t c → V Pp l Ee (rmO 5 114 0 0) Ss Mm Ar Bl Me Cc 5 (AA H0 (blk o 8)) (QC Bl Ar Ss 0 0 H0 (blk o 8) (pI fun v9 H => v9 = (q_wait s n t0 (nI m)).2.1 ∧ Rs D kA H o (upd F 6 (nI (q_wait s n t0 (nI m)).1)) ((q_wait s n t0 (nI m)).2.2) b v p u t c)) H 0 0 21 [(3, .int (nI k)), (2, .int (nI (r_adv s n t0 k).2)), (0, .ref o), (1, .int (nI m))] [] := by
      intro r
      induction r with
      | zero =>
        intro k H hk hM
        obtain rfl : k = m := by omega
        refine V_iload_n Y.1 0 dX6_doAdvance_21 (rfl : _ = 22) rfl rfl ?_
        refine V_iload_n Y.1 3 dX6_doAdvance_22 (rfl : _ = 23) rfl rfl ?_
        refine V_icmp_ge Y.1 (tgt := 101) dX6_doAdvance_23 (by decide) (rfl : _ = 26) (fun _ => ?_) (fun c_n => absurd (by simp (disch := omega) only [Int32.lt_iff_toInt_lt, Int32.le_iff_toInt_le, ge_iff_le, gt_iff_lt, nI_toInt, Int32.reduceToInt] ; omega) c_n)
        refine V_iload_n Y.1 1 dX6_doAdvance_101 (rfl : _ = 102) rfl rfl ?_
        exact V_ret Y.1 dX6_doAdvance_102 rfl (Nat.le_of_ble_eq_true rfl) (Nat.le_of_ble_eq_true rfl) (q_e (z := 0) rfl (by rw [show nI 0 = 0 from rfl, upd_same h6]; exact hM) (by unfold q_wait; simp only [c_8, em, if_false] <;> rfl))
      | succ r ih =>
        intro k H hk hM
        refine V_iload_n Y.1 0 dX6_doAdvance_21 (rfl : _ = 22) rfl rfl ?_
        refine V_iload_n Y.1 3 dX6_doAdvance_22 (rfl : _ = 23) rfl rfl ?_
        refine V_icmp_ge Y.1 (tgt := 101) dX6_doAdvance_23 (by decide) (rfl : _ = 26) (fun c_n => absurd c_n (by simp (disch := omega) only [Int32.lt_iff_toInt_lt, Int32.le_iff_toInt_le, ge_iff_le, gt_iff_lt, nI_toInt, Int32.reduceToInt] ; omega)) (fun _ => ?_)
        refine V_aload_n Y.1 2 dX6_doAdvance_26 (rfl : _ = 27) rfl rfl ?_
        refine V_get Y.1 fi_X6_9 hM.1 rfl dX6_doAdvance_27 (rfl : _ = 30) ?_
        refine V_iconst Y.1 (v := 1) dX6_doAdvance_30 (rfl : _ = 31) (by decide) ?_
        refine V_dup2 Y.1 dX6_doAdvance_31 (rfl : _ = 32) rfl rfl ?_
        refine V_iald Y.1 hM.2.1 (by unfold vp_in; decide) rfl dX6_doAdvance_32 (rfl : _ = 33) ?_
        refine V_iconst Y.1 (v := 1) dX6_doAdvance_33 (rfl : _ = 34) (by decide) ?_
        refine V_iadd Y.1 dX6_doAdvance_34 (rfl : _ = 35) ?_
        refine V_iast Y.1 hM.2.1 (Or.inl ⟨by omega, by omega⟩) (by unfold vp_in; decide) dX6_doAdvance_35 (rfl : _ = 36) (fun H35_10 h_new o_35 => ?_)
        have h_new : hp D _ _ (eI kA 169 (upd _ 1 _)) := h_new
        have hM := hM.a1 o_35 h_new
        clear h_new
        refine V_iconst Y.1 (v := 0) dX6_doAdvance_36 (rfl : _ = 37) (by decide) ?_
        refine V_istore Y.1 (ls' := [(4, _), (3, _), (2, _), (0, _), (1, _)]) dX6_doAdvance_37 (rfl : _ = 39) (by decide) rfl ?_
        have hIk := (hI.adv k (by omega)).tick (by omega)
        have lq : ∀ (r2 j : Nat) (H : Heap), j + r2 = n → Rs D kA H o F ((r_sweep (upd (r_adv s n t0 k).1 1 ((r_adv s n t0 k).1 1 + 1)) ((t0 + k + 1) / 1440) j).1) b v p u t c → V Pp l Ee (rmO 5 114 0 0) Ss Mm Ar Bl Me Cc 5 (AA H0 (blk o 8)) (QC Bl Ar Ss 0 0 H0 (blk o 8) (pI fun v9 H => v9 = (q_wait s n t0 (nI m)).2.1 ∧ Rs D kA H o (upd F 6 (nI (q_wait s n t0 (nI m)).1)) ((q_wait s n t0 (nI m)).2.2) b v p u t c)) H 0 0 39 [(4, .int (nI j)), (3, .int (nI k)), (2, .int (nI ((r_adv s n t0 k).2 + (r_sweep (upd (r_adv s n t0 k).1 1 ((r_adv s n t0 k).1 1 + 1)) ((t0 + k + 1) / 1440) j).2))), (0, .ref o), (1, .int (nI m))] [] := by
          intro r2
          induction r2 with
          | zero =>
            intro j H hj hM
            obtain rfl : j = n := by omega
            have hIj := hIk.sweep j (Nat.le_refl _)
            have h8 := hI.2.1
            refine V_iload Y.1 0 dX6_doAdvance_39 (rfl : _ = 41) rfl ?_
            refine V_aload_n Y.1 3 dX6_doAdvance_41 (rfl : _ = 42) rfl rfl ?_
            refine V_get Y.1 fi_X6_9 hM.1 rfl dX6_doAdvance_42 (rfl : _ = 45) ?_
            refine V_iconst Y.1 (v := 0) dX6_doAdvance_45 (rfl : _ = 46) (by decide) ?_
            refine V_iald Y.1 (v := nI j) hM.2.1 (by unfold vp_in; decide) hIj.1 dX6_doAdvance_46 (rfl : _ = 47) ?_
            refine V_icmp_ge Y.1 (tgt := 95) dX6_doAdvance_47 (by decide) (rfl : _ = 50) (fun _ => ?_) (fun c_n => absurd (by simp (disch := omega) only [Int32.lt_iff_toInt_lt, Int32.le_iff_toInt_le, ge_iff_le, gt_iff_lt, nI_toInt, Int32.reduceToInt] ; omega) c_n)
            refine V_iinc Y.1 (v := nI (k + 1)) (ls' := [(3, _), (4, _), (2, _), (0, _), (1, _)]) 1 dX6_doAdvance_95 (rfl : _ = 98) rfl (nI_1 _) (by decide) rfl ?_
            refine V_goto Y.1 (tgt := 21) dX6_doAdvance_98 (by decide) ?_
            exact V_forget (ls' := [(3, _), (2, _), (0, _), (1, _)]) [0, 2, 3, 4] rfl (ih (k + 1) _ (by omega) hM)
          | succ r2 iq =>
            intro j H hj hM
            have hIj := hIk.sweep j (by omega)
            have h8 := hI.2.1
            have hi : j < 8 := by omega
            refine V_iload Y.1 0 dX6_doAdvance_39 (rfl : _ = 41) rfl ?_
            refine V_aload_n Y.1 3 dX6_doAdvance_41 (rfl : _ = 42) rfl rfl ?_
            refine V_get Y.1 fi_X6_9 hM.1 rfl dX6_doAdvance_42 (rfl : _ = 45) ?_
            refine V_iconst Y.1 (v := 0) dX6_doAdvance_45 (rfl : _ = 46) (by decide) ?_
            refine V_iald Y.1 (v := nI n) hM.2.1 (by unfold vp_in; decide) hIj.1 dX6_doAdvance_46 (rfl : _ = 47) ?_
            refine V_icmp_ge Y.1 (tgt := 95) dX6_doAdvance_47 (by decide) (rfl : _ = 50) (fun c_n => absurd c_n (by simp (disch := omega) only [Int32.lt_iff_toInt_lt, Int32.le_iff_toInt_le, ge_iff_le, gt_iff_lt, nI_toInt, Int32.reduceToInt] ; omega)) (fun _ => ?_)
            refine V_aload_n Y.1 3 dX6_doAdvance_50 (rfl : _ = 51) rfl rfl ?_
            refine V_iload Y.1 0 dX6_doAdvance_51 (rfl : _ = 53) rfl ?_
            refine V_iconst Y.1 (v := 2) dX6_doAdvance_53 (rfl : _ = 54) (by decide) ?_
            refine V_cP Y (rV Y (c_X6_of l D kA _ _ _ _ _ _ _ _ _ _ j hi 2 (by decide) hM) mi_X6_of vi_X6_67 rfl hM.1 rfl rfl (Nat.le_of_ble_eq_true rfl) ⟨Nat.le_of_ble_eq_true rfl, Nat.le_of_ble_eq_true rfl⟩ (Nat.le_of_ble_eq_true rfl) (Nat.le_of_ble_eq_true rfl) dX6_doAdvance_54) (rfl : _ = 57) ?_
            refine V_if_lt Y.1 (tgt := 89) dX6_doAdvance_57 (by decide) (rfl : _ = 60) (fun c_57 => ?_) (fun c_57 => ?_)
            · refine V_iinc Y.1 (v := nI (j + 1)) (ls' := [(4, _), (3, _), (2, _), (0, _), (1, _)]) 0 dX6_doAdvance_89 (rfl : _ = 92) rfl (nI_1 _) (by decide) rfl ?_
              refine V_goto Y.1 (tgt := 39) dX6_doAdvance_92 (by decide) ?_
              exact V_forget (ls' := [(4, _), (3, _), (2, _), (0, _), (1, _)]) [0, 1, 2, 3, 4] rfl (by have e9 : r_sweep (upd (r_adv s n t0 k).1 1 ((r_adv s n t0 k).1 1 + 1)) ((t0 + k + 1) / 1440) (j + 1) = _ := if_neg (fun q => q.1 c_57); have g := iq (j + 1) _ (by omega) (by rw [e9]; exact hM); rw [e9] at g; exact g)
            · refine V_aload_n Y.1 3 dX6_doAdvance_60 (rfl : _ = 61) rfl rfl ?_
              refine V_get Y.1 fi_X6_9 hM.1 rfl dX6_doAdvance_61 (rfl : _ = 64) ?_
              refine V_iconst Y.1 (v := 1) dX6_doAdvance_64 (rfl : _ = 65) (by decide) ?_
              refine V_iald Y.1 hM.2.1 (by unfold vp_in; decide) rfl dX6_doAdvance_65 (rfl : _ = 66) ?_
              refine V_aload_n Y.1 3 dX6_doAdvance_66 (rfl : _ = 67) rfl rfl ?_
              refine V_iload Y.1 0 dX6_doAdvance_67 (rfl : _ = 69) rfl ?_
              refine V_iconst Y.1 (v := 3) dX6_doAdvance_69 (rfl : _ = 70) (by decide) ?_
              refine V_cP Y (rV Y (c_X6_of l D kA _ _ _ _ _ _ _ _ _ _ j hi 3 (by decide) hM) mi_X6_of vi_X6_67 rfl hM.1 rfl rfl (Nat.le_of_ble_eq_true rfl) ⟨Nat.le_of_ble_eq_true rfl, Nat.le_of_ble_eq_true rfl⟩ (Nat.le_of_ble_eq_true rfl) (Nat.le_of_ble_eq_true rfl) dX6_doAdvance_70) (rfl : _ = 73) ?_
              refine V_isub Y.1 dX6_doAdvance_73 (rfl : _ = 74) ?_
              refine V_sipush Y.1 (v := 180) dX6_doAdvance_74 (rfl : _ = 77) (by decide) ?_
              refine V_icmp_ne Y.1 (tgt := 89) dX6_doAdvance_77 (by decide) (rfl : _ = 80) (fun c_77 => ?_) (fun c_77 => ?_)
              · refine V_iinc Y.1 (v := nI (j + 1)) (ls' := [(4, _), (3, _), (2, _), (0, _), (1, _)]) 0 dX6_doAdvance_89 (rfl : _ = 92) rfl (nI_1 _) (by decide) rfl ?_
                refine V_goto Y.1 (tgt := 39) dX6_doAdvance_92 (by decide) ?_
                exact V_forget (ls' := [(4, _), (3, _), (2, _), (0, _), (1, _)]) [0, 1, 2, 3, 4] rfl (by have e9 : r_sweep (upd (r_adv s n t0 k).1 1 ((r_adv s n t0 k).1 1 + 1)) ((t0 + k + 1) / 1440) (j + 1) = _ := if_neg (fun q => c_77 q.2); have g := iq (j + 1) _ (by omega) (by rw [e9]; exact hM); rw [e9] at g; exact g)
              · refine V_aload_n Y.1 3 dX6_doAdvance_80 (rfl : _ = 81) rfl rfl ?_
                refine V_iload Y.1 0 dX6_doAdvance_81 (rfl : _ = 83) rfl ?_
                refine V_cV Y (rV Y (c_X6_loses l D kA _ _ _ _ _ _ _ _ _ _ j hi ((t0 + k + 1) / 1440) hIj.d hM hIj.day) mi_X6_loses vi_X6_127 rfl hM.1 rfl rfl (Nat.le_of_ble_eq_true rfl) ⟨Nat.le_of_ble_eq_true rfl, Nat.le_of_ble_eq_true rfl⟩ (Nat.le_of_ble_eq_true rfl) (Nat.le_of_ble_eq_true rfl) dX6_doAdvance_83) (fun q hq => Or.inl (blk_sub (by omega) (by omega) q hq)) (rfl : _ = 86) (fun H83_30 hq_83 o_83 => ?_)
                have hM := hq_83
                refine V_iinc Y.1 (v := _) (ls' := [(2, _), (4, _), (3, _), (0, _), (1, _)]) 2 dX6_doAdvance_86 (rfl : _ = 89) rfl (nI_1 _) (by decide) rfl ?_
                refine V_iinc Y.1 (v := nI (j + 1)) (ls' := [(4, _), (2, _), (3, _), (0, _), (1, _)]) 1 dX6_doAdvance_89 (rfl : _ = 92) rfl (nI_1 _) (by decide) rfl ?_
                refine V_goto Y.1 (tgt := 39) dX6_doAdvance_92 (by decide) ?_
                exact V_forget (ls' := [(4, _), (3, _), (2, _), (0, _), (1, _)]) [0, 2, 1, 3, 4] rfl (by have e9 : r_sweep (upd (r_adv s n t0 k).1 1 ((r_adv s n t0 k).1 1 + 1)) ((t0 + k + 1) / 1440) (j + 1) = _ := if_pos ⟨c_57, c_77⟩; have g := iq (j + 1) _ (by omega) (by rw [e9]; exact hM); rw [e9] at g; exact g)
        exact lq n 0 _ (by omega) hM
    exact lp m 0 _ (by omega) hM
  · refine V_aload_n Y.1 0 dX6_doAdvance_11 (rfl : _ = 12) rfl rfl ?_
    refine V_iconst Y.1 (v := 1) dX6_doAdvance_12 (rfl : _ = 13) (by decide) ?_
    refine V_cI Y (rV Y (c_X6_fails l D kA _ _ _ _ _ _ _ _ _ _ 1 hM) mi_X6_fails vi_X6_100 rfl hM.1 rfl rfl (Nat.le_of_ble_eq_true rfl) ⟨Nat.le_of_ble_eq_true rfl, Nat.le_of_ble_eq_true rfl⟩ (Nat.le_of_ble_eq_true rfl) (Nat.le_of_ble_eq_true rfl) dX6_doAdvance_13) (fun q hq => Or.inl (blk_sub (by omega) (by omega) q hq)) (rfl : _ = 16) (fun v_13 H13_12 hq_13 o_13 => ?_)
    obtain ⟨e13, hM⟩ := hq_13
    exact V_ret Y.1 dX6_doAdvance_16 rfl (Nat.le_of_ble_eq_true rfl) (Nat.le_of_ble_eq_true rfl) (q_e (z := 1) e13 hM (by unfold q_wait; simp only [*, if_true, if_false, not_true, not_false_iff, true_and, reduceIte, ge_iff_le, gt_iff_lt] <;> rfl))

