section VNB
variable {p : Program} {l : Launch} {e : Env} {R : Room} {s : State} {m : MethodId} {args : Array Value} {below : List Frame} {meth : Method} {c : Code} {nL : Nat} {A : Nat → Prop} {Q : State → Prop} {H : Heap} {k n pc pc' : Nat} {ls : List (Nat × Value)} {st : List Value}
variable {cc : ByteArray} {own : String} {D : va_G} {kA : Nat → ClassId} {ret : Option FieldType} {idx : Nat}
theorem V_d2bits (X : Kx p s m args meth c cc nL ret own D kA A) {x : UInt64} (h1 : Cond.methodLink own idx ⟨"java/lang/Double", "doubleToRawLongBits", "(D)J"⟩ ∈ T0) (h2 : Cond.native ⟨"java/lang/Double", "doubleToRawLongBits", "(D)J"⟩ ∈ T0) (h3 : Cond.static ⟨"java/lang/Double", "doubleToRawLongBits", "(D)J"⟩ ∈ T0) (h4 : Cond.initialized "java/lang/Double" ∈ T0) (hfr : 1 ≤ R.frames) (hlo : (st.map fun v => v.category).sum + 15 ≤ R.locals) (hd : decode cc pc = .ok (.invokestatic idx, 3)) (hpc : pc + 3 = pc') (kk : V p l e R s m args below meth c nL A Q H k n pc' ls (.long x.toInt64 :: st)) : V p l e R s m args below meth c nL A Q H k n pc ls (.double x :: st) := by
  subst hpc
  exact fun lsA locs hl hS => vn_d2l X.1.1 X.1.2.1 (X.1.2.2.1.trans hl.1.symm) X.1.2.2.2.1 (X.1.2.2.2.2 _ h1) (X.1.2.2.2.2 _ h2) (X.1.2.2.2.2 _ h3) (X.1.2.2.2.2 _ h4) hfr hlo hd (kk lsA locs hl hS)
theorem V_f2bits (X : Kx p s m args meth c cc nL ret own D kA A) {x : UInt32} (h1 : Cond.methodLink own idx ⟨"java/lang/Float", "floatToRawIntBits", "(F)I"⟩ ∈ T0) (h2 : Cond.native ⟨"java/lang/Float", "floatToRawIntBits", "(F)I"⟩ ∈ T0) (h3 : Cond.static ⟨"java/lang/Float", "floatToRawIntBits", "(F)I"⟩ ∈ T0) (h4 : Cond.initialized "java/lang/Float" ∈ T0) (hfr : 1 ≤ R.frames) (hlo : (st.map fun v => v.category).sum + 15 ≤ R.locals) (hd : decode cc pc = .ok (.invokestatic idx, 3)) (hpc : pc + 3 = pc') (kk : V p l e R s m args below meth c nL A Q H k n pc' ls (.int x.toInt32 :: st)) : V p l e R s m args below meth c nL A Q H k n pc ls (.float x :: st) := by
  subst hpc
  exact fun lsA locs hl hS => vn_f2i X.1.1 X.1.2.1 (X.1.2.2.1.trans hl.1.symm) X.1.2.2.2.1 (X.1.2.2.2.2 _ h1) (X.1.2.2.2.2 _ h2) (X.1.2.2.2.2 _ h3) (X.1.2.2.2.2 _ h4) hfr hlo hd (kk lsA locs hl hS)
end VNB
theorem fl_ne {x : Int32} (h : ¬ x ≤ 0) : x ≠ 0 := fun e => h (by rw [e]; decide)
theorem fl_vf64 {r : UInt64} (h : r.toNat % 2 ^ 63 < 2047 * 2 ^ 52) : vf_n64 r := by
  unfold vf_n64
  rw [UInt64.le_iff_toNat_le, UInt64.toNat_and]
  have e : (0x7fffffffffffffff : UInt64).toNat = 2 ^ 63 - 1 := by decide
  rw [e, Nat.and_two_pow_sub_one_eq_mod]
  have e2 : (0x7ff0000000000000 : UInt64).toNat = 2047 * 2 ^ 52 := by decide
  rw [e2]
  exact Nat.le_of_lt h
theorem fl_vf32 {r : UInt32} (h : r.toNat % 2 ^ 31 < 255 * 2 ^ 23) : vf_n32 r := by
  unfold vf_n32
  rw [UInt32.le_iff_toNat_le, UInt32.toNat_and]
  have e : (0x7fffffff : UInt32).toNat = 2 ^ 31 - 1 := by decide
  rw [e, Nat.and_two_pow_sub_one_eq_mod]
  have e2 : (0x7f800000 : UInt32).toNat = 255 * 2 ^ 23 := by decide
  rw [e2]
  exact Nat.le_of_lt h
theorem fl_m64 {x y : Int32} (h : y ≠ 0) : (FP.ddiv (FP.i2d x) (FP.i2d y)).toNat % 2 ^ 63 < 1057 * 2 ^ 52 := by
  have b := FP.Core.i2d_big (FP.Core.int32_ne h)
  exact FP.Core.ddiv_mag (K := 1056) (L := 1023) (FP.Core.i2d_mag x) b.1 b.2 (by decide) (by decide)
theorem fl_m32 {x y : Int32} (h : y ≠ 0) : (FP.fdiv (FP.i2f x) (FP.i2f y)).toNat % 2 ^ 31 < 161 * 2 ^ 23 := by
  have b := FP.Core.i2f_big (FP.Core.int32_ne h)
  exact FP.Core.fdiv_mag (K := 160) (L := 127) (FP.Core.i2f_mag x) b.1 b.2 (by decide) (by decide)
theorem fl_n64 {x y : Int32} (h : y ≠ 0) : vf_n64 (FP.ddiv (FP.i2d x) (FP.i2d y)) := fl_vf64 (Nat.lt_trans (fl_m64 h) (by decide))
theorem fl_n32 {x y : Int32} (h : y ≠ 0) : vf_n32 (FP.fdiv (FP.i2f x) (FP.i2f y)) := fl_vf32 (Nat.lt_trans (fl_m32 h) (by decide))
theorem fl_fin64 {x y : Int32} (h : y ≠ 0) : FP.Core.DFin (FP.ddiv (FP.i2d x) (FP.i2d y)) := (FP.Core.fin_bits _).mpr (Nat.lt_trans (fl_m64 h) (by decide))
theorem fl_fin32 {x y : Int32} (h : y ≠ 0) : FP.Core.FFin (FP.fdiv (FP.i2f x) (FP.i2f y)) := (FP.Core.fin_bits32 _).mpr (Nat.lt_trans (fl_m32 h) (by decide))
theorem fl_d64 {x y : Int32} (h : y ≠ 0) : FP.dcmp (FP.ddiv (FP.i2d x) (FP.i2d y)) (FP.ddiv (FP.i2d x) (FP.i2d y)) = some .eq := FP.Core.dcmp_refl (fl_fin64 h).notNaN
theorem fl_f32 {x y : Int32} (h : y ≠ 0) : FP.fcmp (FP.fdiv (FP.i2f x) (FP.i2f y)) (FP.fdiv (FP.i2f x) (FP.i2f y)) = some .eq := FP.Core.fcmp_refl (fl_fin32 h).notNaN
set_option maxRecDepth 100000 in
set_option maxHeartbeats 4000000 in
theorem c_Jxe99ae_isNaN_b9ae7 (l : Launch) (D : va_G) (kA : Nat → ClassId) (H0 : Heap) (x : UInt64) (hx : FP.dcmp x x = some .eq)  : Ct l D kA yJxe99ae_isNaN_b9ae7 cJxe99ae_isNaN_b9ae7 2 (some .boolean) 0 0 0 0 H0 [.double x] (nof) (pI fun v9 H => v9 = 0 ∧ H = H0) := by
  refine Ct.of mi_Jxe99ae_isNaN_b9ae7 (Nat.le_of_ble_eq_true rfl) (ls0 := [(0, _)]) rfl ?_
  intro Pp Ee Ss Mm Ar Bl Me Cc Y hs hnm
  have sz : H0.size = H0.size := rfl
  refine V_dload_n Y.1 0 dJxe99ae_isNaN_b9ae7_0 (rfl : _ = 1) rfl rfl ?_
  refine V_dload_n Y.1 0 dJxe99ae_isNaN_b9ae7_1 (rfl : _ = 2) rfl rfl ?_
  refine V_dcmp Y.1 dJxe99ae_isNaN_b9ae7_2 (rfl : _ = 3) ?_
  refine V_nm (v := 0) (by rw [hx]; rfl) ?_
  refine V_if_eq Y.1 (tgt := 10) dJxe99ae_isNaN_b9ae7_3 (by decide) (rfl : _ = 6) (fun _ => ?_) (fun c_n => absurd rfl c_n)
  refine V_iconst Y.1 (v := 0) dJxe99ae_isNaN_b9ae7_10 (rfl : _ = 11) (by decide) ?_
  exact V_ret Y.1 dJxe99ae_isNaN_b9ae7_11 rfl (Nat.le_of_ble_eq_true rfl) (Nat.le_of_ble_eq_true rfl) ⟨rfl, rfl⟩

set_option maxRecDepth 100000 in
set_option maxHeartbeats 4000000 in
theorem c_Jxe99ae_doubleToLongBits_ccdee (l : Launch) (D : va_G) (kA : Nat → ClassId) (H0 : Heap) (x : UInt64) (hx : FP.dcmp x x = some .eq)  : Ct l D kA yJxe99ae_doubleToLongBits_ccdee cJxe99ae_doubleToLongBits_ccdee 2 (some .long) 1 24 0 0 H0 [.double x] (nof) (pL fun v9 H => v9 = x.toInt64 ∧ H = H0) := by
  refine Ct.of mi_Jxe99ae_doubleToLongBits_ccdee (Nat.le_of_ble_eq_true rfl) (ls0 := [(0, _)]) rfl ?_
  intro Pp Ee Ss Mm Ar Bl Me Cc Y hs hnm
  have sz : H0.size = H0.size := rfl
  refine V_dload_n Y.1 0 dJxe99ae_doubleToLongBits_ccdee_0 (rfl : _ = 1) rfl rfl ?_
  refine V_cP Y (rS Y (c_Jxe99ae_isNaN_b9ae7 l D kA _ x hx) mi_Jxe99ae_isNaN_b9ae7 si_Jxe99ae_122 rfl rfl (Nat.le_of_ble_eq_true rfl) ⟨Nat.le_of_ble_eq_true rfl, Nat.le_of_ble_eq_true rfl⟩ (Nat.le_of_ble_eq_true rfl) (Nat.le_of_ble_eq_true rfl) dJxe99ae_doubleToLongBits_ccdee_1) (rfl : _ = 4) ?_
  refine V_if_ne Y.1 (tgt := 12) dJxe99ae_doubleToLongBits_ccdee_4 (by decide) (rfl : _ = 7) (fun c_n => absurd rfl c_n) (fun _ => ?_)
  refine V_dload_n Y.1 0 dJxe99ae_doubleToLongBits_ccdee_7 (rfl : _ = 8) rfl rfl ?_
  refine V_d2bits Y.1 (tm 1839 (by decide +kernel) (by decide +kernel)) (tm 1841 (by decide +kernel) (by decide +kernel)) (tm 1840 (by decide +kernel) (by decide +kernel)) (tm 69 (by decide +kernel) (by decide +kernel)) (Nat.le_of_ble_eq_true rfl) (Nat.le_of_ble_eq_true rfl) dJxe99ae_doubleToLongBits_ccdee_8 rfl ?_
  exact V_retL Y.1 dJxe99ae_doubleToLongBits_ccdee_11 (Nat.le_of_ble_eq_true rfl) (Nat.le_of_ble_eq_true rfl) ⟨rfl, rfl⟩

set_option maxRecDepth 100000 in
set_option maxHeartbeats 4000000 in
theorem c_Jxf58ca_isNaN_12338 (l : Launch) (D : va_G) (kA : Nat → ClassId) (H0 : Heap) (x : UInt32) (hx : FP.fcmp x x = some .eq)  : Ct l D kA yJxf58ca_isNaN_12338 cJxf58ca_isNaN_12338 1 (some .boolean) 0 0 0 0 H0 [.float x] (nof) (pI fun v9 H => v9 = 0 ∧ H = H0) := by
  refine Ct.of mi_Jxf58ca_isNaN_12338 (Nat.le_of_ble_eq_true rfl) (ls0 := [(0, _)]) rfl ?_
  intro Pp Ee Ss Mm Ar Bl Me Cc Y hs hnm
  have sz : H0.size = H0.size := rfl
  refine V_fload_n Y.1 0 dJxf58ca_isNaN_12338_0 (rfl : _ = 1) rfl rfl ?_
  refine V_fload_n Y.1 0 dJxf58ca_isNaN_12338_1 (rfl : _ = 2) rfl rfl ?_
  refine V_fcmp Y.1 dJxf58ca_isNaN_12338_2 (rfl : _ = 3) ?_
  refine V_nm (v := 0) (by rw [hx]; rfl) ?_
  refine V_if_eq Y.1 (tgt := 10) dJxf58ca_isNaN_12338_3 (by decide) (rfl : _ = 6) (fun _ => ?_) (fun c_n => absurd rfl c_n)
  refine V_iconst Y.1 (v := 0) dJxf58ca_isNaN_12338_10 (rfl : _ = 11) (by decide) ?_
  exact V_ret Y.1 dJxf58ca_isNaN_12338_11 rfl (Nat.le_of_ble_eq_true rfl) (Nat.le_of_ble_eq_true rfl) ⟨rfl, rfl⟩

set_option maxRecDepth 100000 in
set_option maxHeartbeats 4000000 in
theorem c_Jxf58ca_floatToIntBits_5c35a (l : Launch) (D : va_G) (kA : Nat → ClassId) (H0 : Heap) (x : UInt32) (hx : FP.fcmp x x = some .eq)  : Ct l D kA yJxf58ca_floatToIntBits_5c35a cJxf58ca_floatToIntBits_5c35a 1 (some .int) 1 24 0 0 H0 [.float x] (nof) (pI fun v9 H => v9 = x.toInt32 ∧ H = H0) := by
  refine Ct.of mi_Jxf58ca_floatToIntBits_5c35a (Nat.le_of_ble_eq_true rfl) (ls0 := [(0, _)]) rfl ?_
  intro Pp Ee Ss Mm Ar Bl Me Cc Y hs hnm
  have sz : H0.size = H0.size := rfl
  refine V_fload_n Y.1 0 dJxf58ca_floatToIntBits_5c35a_0 (rfl : _ = 1) rfl rfl ?_
  refine V_cP Y (rS Y (c_Jxf58ca_isNaN_12338 l D kA _ x hx) mi_Jxf58ca_isNaN_12338 si_Jxf58ca_59 rfl rfl (Nat.le_of_ble_eq_true rfl) ⟨Nat.le_of_ble_eq_true rfl, Nat.le_of_ble_eq_true rfl⟩ (Nat.le_of_ble_eq_true rfl) (Nat.le_of_ble_eq_true rfl) dJxf58ca_floatToIntBits_5c35a_1) (rfl : _ = 4) ?_
  refine V_if_ne Y.1 (tgt := 12) dJxf58ca_floatToIntBits_5c35a_4 (by decide) (rfl : _ = 7) (fun c_n => absurd rfl c_n) (fun _ => ?_)
  refine V_fload_n Y.1 0 dJxf58ca_floatToIntBits_5c35a_7 (rfl : _ = 8) rfl rfl ?_
  refine V_f2bits Y.1 (tm 1858 (by decide +kernel) (by decide +kernel)) (tm 1860 (by decide +kernel) (by decide +kernel)) (tm 1859 (by decide +kernel) (by decide +kernel)) (tm 70 (by decide +kernel) (by decide +kernel)) (Nat.le_of_ble_eq_true rfl) (Nat.le_of_ble_eq_true rfl) dJxf58ca_floatToIntBits_5c35a_8 rfl ?_
  exact V_ret Y.1 dJxf58ca_floatToIntBits_5c35a_11 rfl (Nat.le_of_ble_eq_true rfl) (Nat.le_of_ble_eq_true rfl) ⟨rfl, rfl⟩

set_option maxRecDepth 100000 in
set_option maxHeartbeats 4000000 in
theorem c_X6_meanCharge_n (l : Launch) (D : va_G) (kA : Nat → ClassId) (H0 : Heap) (o : Nat) (F s b v p u t c : Nat → Int32)  (hM : Rs D kA H0 o F s b v p u t c) (h : s 7 + s 8 ≤ 0) : Ct l D kA yX6_meanCharge cX6_meanCharge 2 (some .double) 1 21 0 0 H0 [.ref o] (blk o 8) (pD fun v9 H => v9 = FP.dconst0 ∧ Rs D kA H o (upd F 6 1) s b v p u t c) := by
  refine Ct.of mi_X6_meanCharge (Nat.le_of_ble_eq_true rfl) (ls0 := [(0, _)]) rfl ?_
  intro Pp Ee Ss Mm Ar Bl Me Cc Y hs hnm
  refine V_aload_n Y.1 0 dX6_meanCharge_0 (rfl : _ = 1) rfl rfl ?_
  refine V_get Y.1 fi_X6_9 hM.1 rfl dX6_meanCharge_1 (rfl : _ = 4) ?_
  refine V_bipush Y.1 (v := 7) dX6_meanCharge_4 (rfl : _ = 6) (by decide) ?_
  refine V_iald Y.1 (v := s 7) hM.2.1 (by unfold vp_in; decide) rfl dX6_meanCharge_6 (rfl : _ = 7) ?_
  refine V_aload_n Y.1 0 dX6_meanCharge_7 (rfl : _ = 8) rfl rfl ?_
  refine V_get Y.1 fi_X6_9 hM.1 rfl dX6_meanCharge_8 (rfl : _ = 11) ?_
  refine V_bipush Y.1 (v := 8) dX6_meanCharge_11 (rfl : _ = 13) (by decide) ?_
  refine V_iald Y.1 (v := s 8) hM.2.1 (by unfold vp_in; decide) rfl dX6_meanCharge_13 (rfl : _ = 14) ?_
  refine V_iadd Y.1 dX6_meanCharge_14 (rfl : _ = 15) ?_
  refine V_istore_n Y.1 (ls' := [(1, _), (0, _)]) dX6_meanCharge_15 (rfl : _ = 16) rfl (by decide) rfl ?_
  refine V_aload_n Y.1 1 dX6_meanCharge_16 (rfl : _ = 17) rfl rfl ?_
  refine V_iload_n Y.1 0 dX6_meanCharge_17 (rfl : _ = 18) rfl rfl ?_
  refine V_if_le Y.1 (tgt := 25) dX6_meanCharge_18 (by decide) (rfl : _ = 21) (fun _ => ?_) (fun c_n => absurd h c_n)
  refine V_iconst Y.1 (v := 0) dX6_meanCharge_25 (rfl : _ = 26) (by decide) ?_
  refine V_cI Y (rV Y (c_X6_isThere l D kA _ _ _ _ _ _ _ _ _ _ _ hM (by first | exact Or.inl rfl | exact Or.inr rfl)) mi_X6_isThere vi_X6_149 rfl hM.1 rfl rfl (Nat.le_of_ble_eq_true rfl) ⟨Nat.le_of_ble_eq_true rfl, Nat.le_of_ble_eq_true rfl⟩ (Nat.le_of_ble_eq_true rfl) (Nat.le_of_ble_eq_true rfl) dX6_meanCharge_26) (fun q hq => Or.inl (blk_sub (by omega) (by omega) q hq)) (rfl : _ = 29) (fun v_26 H26_14 hq_26 o_26 => ?_)
  obtain ⟨rfl, hM⟩ := hq_26
  refine V_if_eq Y.1 (tgt := 45) dX6_meanCharge_29 (by decide) (rfl : _ = 32) (fun _ => ?_) (fun c_n => absurd rfl c_n)
  refine V_dconst0 Y.1 dX6_meanCharge_45 (rfl : _ = 46) ?_
  exact V_retD Y.1 dX6_meanCharge_46 (Nat.le_of_ble_eq_true rfl) (Nat.le_of_ble_eq_true rfl) ⟨rfl, hM⟩

set_option maxRecDepth 100000 in
set_option maxHeartbeats 4000000 in
theorem c_X6_meanCharge_y (l : Launch) (D : va_G) (kA : Nat → ClassId) (H0 : Heap) (o : Nat) (F s b v p u t c : Nat → Int32)  (hM : Rs D kA H0 o F s b v p u t c) (h : ¬ s 7 + s 8 ≤ 0) : Ct l D kA yX6_meanCharge cX6_meanCharge 2 (some .double) 1 21 0 0 H0 [.ref o] (blk o 8) (pD fun v9 H => v9 = FP.ddiv (FP.i2d (s 5)) (FP.i2d (s 7 + s 8)) ∧ Rs D kA H o (upd F 6 0) s b v p u t c) := by
  refine Ct.of mi_X6_meanCharge (Nat.le_of_ble_eq_true rfl) (ls0 := [(0, _)]) rfl ?_
  intro Pp Ee Ss Mm Ar Bl Me Cc Y hs hnm
  refine V_aload_n Y.1 0 dX6_meanCharge_0 (rfl : _ = 1) rfl rfl ?_
  refine V_get Y.1 fi_X6_9 hM.1 rfl dX6_meanCharge_1 (rfl : _ = 4) ?_
  refine V_bipush Y.1 (v := 7) dX6_meanCharge_4 (rfl : _ = 6) (by decide) ?_
  refine V_iald Y.1 (v := s 7) hM.2.1 (by unfold vp_in; decide) rfl dX6_meanCharge_6 (rfl : _ = 7) ?_
  refine V_aload_n Y.1 0 dX6_meanCharge_7 (rfl : _ = 8) rfl rfl ?_
  refine V_get Y.1 fi_X6_9 hM.1 rfl dX6_meanCharge_8 (rfl : _ = 11) ?_
  refine V_bipush Y.1 (v := 8) dX6_meanCharge_11 (rfl : _ = 13) (by decide) ?_
  refine V_iald Y.1 (v := s 8) hM.2.1 (by unfold vp_in; decide) rfl dX6_meanCharge_13 (rfl : _ = 14) ?_
  refine V_iadd Y.1 dX6_meanCharge_14 (rfl : _ = 15) ?_
  refine V_istore_n Y.1 (ls' := [(1, _), (0, _)]) dX6_meanCharge_15 (rfl : _ = 16) rfl (by decide) rfl ?_
  refine V_aload_n Y.1 1 dX6_meanCharge_16 (rfl : _ = 17) rfl rfl ?_
  refine V_iload_n Y.1 0 dX6_meanCharge_17 (rfl : _ = 18) rfl rfl ?_
  refine V_if_le Y.1 (tgt := 25) dX6_meanCharge_18 (by decide) (rfl : _ = 21) (fun c_n => absurd c_n h) (fun _ => ?_)
  refine V_iconst Y.1 (v := 1) dX6_meanCharge_21 (rfl : _ = 22) (by decide) ?_
  refine V_goto Y.1 (tgt := 26) dX6_meanCharge_22 (by decide) ?_
  refine V_cI Y (rV Y (c_X6_isThere l D kA _ _ _ _ _ _ _ _ _ _ _ hM (by first | exact Or.inl rfl | exact Or.inr rfl)) mi_X6_isThere vi_X6_149 rfl hM.1 rfl rfl (Nat.le_of_ble_eq_true rfl) ⟨Nat.le_of_ble_eq_true rfl, Nat.le_of_ble_eq_true rfl⟩ (Nat.le_of_ble_eq_true rfl) (Nat.le_of_ble_eq_true rfl) dX6_meanCharge_26) (fun q hq => Or.inl (blk_sub (by omega) (by omega) q hq)) (rfl : _ = 29) (fun v_26 H26_15 hq_26 o_26 => ?_)
  obtain ⟨rfl, hM⟩ := hq_26
  refine V_if_eq Y.1 (tgt := 45) dX6_meanCharge_29 (by decide) (rfl : _ = 32) (fun c_n => absurd c_n (by decide)) (fun _ => ?_)
  refine V_aload_n Y.1 1 dX6_meanCharge_32 (rfl : _ = 33) rfl rfl ?_
  refine V_get Y.1 fi_X6_9 hM.1 rfl dX6_meanCharge_33 (rfl : _ = 36) ?_
  refine V_iconst Y.1 (v := 5) dX6_meanCharge_36 (rfl : _ = 37) (by decide) ?_
  refine V_iald Y.1 (v := s 5) hM.2.1 (by unfold vp_in; decide) rfl dX6_meanCharge_37 (rfl : _ = 38) ?_
  refine V_i2d Y.1 dX6_meanCharge_38 (rfl : _ = 39) ?_
  refine V_iload_n Y.1 0 dX6_meanCharge_39 (rfl : _ = 40) rfl rfl ?_
  refine V_i2d Y.1 dX6_meanCharge_40 (rfl : _ = 41) ?_
  refine V_ddiv Y.1 dX6_meanCharge_41 (rfl : _ = 42) (fl_n64 (fl_ne h)) ?_
  refine V_goto Y.1 (tgt := 46) dX6_meanCharge_42 (by decide) ?_
  exact V_retD Y.1 dX6_meanCharge_46 (Nat.le_of_ble_eq_true rfl) (Nat.le_of_ble_eq_true rfl) ⟨rfl, hM⟩

set_option maxRecDepth 100000 in
set_option maxHeartbeats 4000000 in
theorem c_X6_meanChargeBits_n (l : Launch) (D : va_G) (kA : Nat → ClassId) (H0 : Heap) (o : Nat) (F s b v p u t c : Nat → Int32)  (hM : Rs D kA H0 o F s b v p u t c) (h : s 7 + s 8 ≤ 0) : Ct l D kA yX6_meanChargeBits cX6_meanChargeBits 3 (some .long) 2 45 0 0 H0 [.ref o] (blk o 8) (pL fun v9 H => v9 = 0 ∧ Rs D kA H o (upd F 6 1) s b v p u t c) := by
  refine Ct.of mi_X6_meanChargeBits (Nat.le_of_ble_eq_true rfl) (ls0 := [(0, _)]) rfl ?_
  intro Pp Ee Ss Mm Ar Bl Me Cc Y hs hnm
  refine V_aload_n Y.1 0 dX6_meanChargeBits_0 (rfl : _ = 1) rfl rfl ?_
  refine V_cD Y (rV Y (c_X6_meanCharge_n l D kA _ _ _ _ _ _ _ _ _ _ hM h) mi_X6_meanCharge vi_X6_162 rfl hM.1 rfl rfl (Nat.le_of_ble_eq_true rfl) ⟨Nat.le_of_ble_eq_true rfl, Nat.le_of_ble_eq_true rfl⟩ (Nat.le_of_ble_eq_true rfl) (Nat.le_of_ble_eq_true rfl) dX6_meanChargeBits_1) (fun q hq => Or.inl (blk_sub (by omega) (by omega) q hq)) (rfl : _ = 4) (fun v_1 H1_1 hq_1 o_1 => ?_)
  obtain ⟨rfl, hM⟩ := hq_1
  refine V_dstore_n Y.1 (ls' := [(1, _), (0, _)]) dX6_meanChargeBits_4 (rfl : _ = 5) rfl (by decide) rfl ?_
  refine V_aload_n Y.1 1 dX6_meanChargeBits_5 (rfl : _ = 6) rfl rfl ?_
  refine V_get Y.1 fi_X6_39 hM.1 rfl dX6_meanChargeBits_6 (rfl : _ = 9) ?_
  refine V_nm (v := 1) rfl ?_
  refine V_if_le Y.1 (tgt := 16) dX6_meanChargeBits_9 (by decide) (rfl : _ = 12) (fun c_n => absurd c_n (by decide)) (fun _ => ?_)
  refine V_lconst Y.1 (v := 0) dX6_meanChargeBits_12 (rfl : _ = 13) (by decide) ?_
  refine V_goto Y.1 (tgt := 20) dX6_meanChargeBits_13 (by decide) ?_
  exact V_retL Y.1 dX6_meanChargeBits_20 (Nat.le_of_ble_eq_true rfl) (Nat.le_of_ble_eq_true rfl) ⟨rfl, hM⟩

set_option maxRecDepth 100000 in
set_option maxHeartbeats 4000000 in
theorem c_X6_meanChargeBits_y (l : Launch) (D : va_G) (kA : Nat → ClassId) (H0 : Heap) (o : Nat) (F s b v p u t c : Nat → Int32)  (hM : Rs D kA H0 o F s b v p u t c) (h : ¬ s 7 + s 8 ≤ 0) : Ct l D kA yX6_meanChargeBits cX6_meanChargeBits 3 (some .long) 2 45 0 0 H0 [.ref o] (blk o 8) (pL fun v9 H => v9 = (FP.ddiv (FP.i2d (s 5)) (FP.i2d (s 7 + s 8))).toInt64 ∧ Rs D kA H o (upd F 6 0) s b v p u t c) := by
  refine Ct.of mi_X6_meanChargeBits (Nat.le_of_ble_eq_true rfl) (ls0 := [(0, _)]) rfl ?_
  intro Pp Ee Ss Mm Ar Bl Me Cc Y hs hnm
  refine V_aload_n Y.1 0 dX6_meanChargeBits_0 (rfl : _ = 1) rfl rfl ?_
  refine V_cD Y (rV Y (c_X6_meanCharge_y l D kA _ _ _ _ _ _ _ _ _ _ hM h) mi_X6_meanCharge vi_X6_162 rfl hM.1 rfl rfl (Nat.le_of_ble_eq_true rfl) ⟨Nat.le_of_ble_eq_true rfl, Nat.le_of_ble_eq_true rfl⟩ (Nat.le_of_ble_eq_true rfl) (Nat.le_of_ble_eq_true rfl) dX6_meanChargeBits_1) (fun q hq => Or.inl (blk_sub (by omega) (by omega) q hq)) (rfl : _ = 4) (fun v_1 H1_1 hq_1 o_1 => ?_)
  obtain ⟨rfl, hM⟩ := hq_1
  refine V_dstore_n Y.1 (ls' := [(1, _), (0, _)]) dX6_meanChargeBits_4 (rfl : _ = 5) rfl (by decide) rfl ?_
  refine V_aload_n Y.1 1 dX6_meanChargeBits_5 (rfl : _ = 6) rfl rfl ?_
  refine V_get Y.1 fi_X6_39 hM.1 rfl dX6_meanChargeBits_6 (rfl : _ = 9) ?_
  refine V_nm (v := 0) rfl ?_
  refine V_if_le Y.1 (tgt := 16) dX6_meanChargeBits_9 (by decide) (rfl : _ = 12) (fun _ => ?_) (fun c_n => absurd (by decide) c_n)
  refine V_dload_n Y.1 0 dX6_meanChargeBits_16 (rfl : _ = 17) rfl rfl ?_
  refine V_cL Y (rS Y (c_Jxe99ae_doubleToLongBits_ccdee l D kA _ _ (fl_d64 (fl_ne h))) mi_Jxe99ae_doubleToLongBits_ccdee si_X6_166 rfl rfl (Nat.le_of_ble_eq_true rfl) ⟨Nat.le_of_ble_eq_true rfl, Nat.le_of_ble_eq_true rfl⟩ (Nat.le_of_ble_eq_true rfl) (Nat.le_of_ble_eq_true rfl) dX6_meanChargeBits_17) (fun _ z => z.elim) (rfl : _ = 20) (fun v_17 H17_9 hq_17 o_17 => ?_)
  obtain ⟨rfl, rfl⟩ := hq_17
  exact V_retL Y.1 dX6_meanChargeBits_20 (Nat.le_of_ble_eq_true rfl) (Nat.le_of_ble_eq_true rfl) ⟨rfl, hM⟩

set_option maxRecDepth 100000 in
set_option maxHeartbeats 4000000 in
theorem c_X6_incompleteShare_n (l : Launch) (D : va_G) (kA : Nat → ClassId) (H0 : Heap) (o : Nat) (F s b v p u t c : Nat → Int32)  (hM : Rs D kA H0 o F s b v p u t c) (h : s 7 + s 8 ≤ 0) : Ct l D kA yX6_incompleteShare cX6_incompleteShare 2 (some .float) 1 21 0 0 H0 [.ref o] (blk o 8) (pF fun v9 H => v9 = FP.fconst0 ∧ Rs D kA H o (upd F 6 1) s b v p u t c) := by
  refine Ct.of mi_X6_incompleteShare (Nat.le_of_ble_eq_true rfl) (ls0 := [(0, _)]) rfl ?_
  intro Pp Ee Ss Mm Ar Bl Me Cc Y hs hnm
  refine V_aload_n Y.1 0 dX6_incompleteShare_0 (rfl : _ = 1) rfl rfl ?_
  refine V_get Y.1 fi_X6_9 hM.1 rfl dX6_incompleteShare_1 (rfl : _ = 4) ?_
  refine V_bipush Y.1 (v := 7) dX6_incompleteShare_4 (rfl : _ = 6) (by decide) ?_
  refine V_iald Y.1 (v := s 7) hM.2.1 (by unfold vp_in; decide) rfl dX6_incompleteShare_6 (rfl : _ = 7) ?_
  refine V_aload_n Y.1 0 dX6_incompleteShare_7 (rfl : _ = 8) rfl rfl ?_
  refine V_get Y.1 fi_X6_9 hM.1 rfl dX6_incompleteShare_8 (rfl : _ = 11) ?_
  refine V_bipush Y.1 (v := 8) dX6_incompleteShare_11 (rfl : _ = 13) (by decide) ?_
  refine V_iald Y.1 (v := s 8) hM.2.1 (by unfold vp_in; decide) rfl dX6_incompleteShare_13 (rfl : _ = 14) ?_
  refine V_iadd Y.1 dX6_incompleteShare_14 (rfl : _ = 15) ?_
  refine V_istore_n Y.1 (ls' := [(1, _), (0, _)]) dX6_incompleteShare_15 (rfl : _ = 16) rfl (by decide) rfl ?_
  refine V_aload_n Y.1 1 dX6_incompleteShare_16 (rfl : _ = 17) rfl rfl ?_
  refine V_iload_n Y.1 0 dX6_incompleteShare_17 (rfl : _ = 18) rfl rfl ?_
  refine V_if_le Y.1 (tgt := 25) dX6_incompleteShare_18 (by decide) (rfl : _ = 21) (fun _ => ?_) (fun c_n => absurd h c_n)
  refine V_iconst Y.1 (v := 0) dX6_incompleteShare_25 (rfl : _ = 26) (by decide) ?_
  refine V_cI Y (rV Y (c_X6_isThere l D kA _ _ _ _ _ _ _ _ _ _ _ hM (by first | exact Or.inl rfl | exact Or.inr rfl)) mi_X6_isThere vi_X6_149 rfl hM.1 rfl rfl (Nat.le_of_ble_eq_true rfl) ⟨Nat.le_of_ble_eq_true rfl, Nat.le_of_ble_eq_true rfl⟩ (Nat.le_of_ble_eq_true rfl) (Nat.le_of_ble_eq_true rfl) dX6_incompleteShare_26) (fun q hq => Or.inl (blk_sub (by omega) (by omega) q hq)) (rfl : _ = 29) (fun v_26 H26_14 hq_26 o_26 => ?_)
  obtain ⟨rfl, hM⟩ := hq_26
  refine V_if_eq Y.1 (tgt := 46) dX6_incompleteShare_29 (by decide) (rfl : _ = 32) (fun _ => ?_) (fun c_n => absurd rfl c_n)
  refine V_fconst0 Y.1 dX6_incompleteShare_46 (rfl : _ = 47) ?_
  exact V_retF Y.1 dX6_incompleteShare_47 (Nat.le_of_ble_eq_true rfl) (Nat.le_of_ble_eq_true rfl) ⟨rfl, hM⟩

set_option maxRecDepth 100000 in
set_option maxHeartbeats 4000000 in
theorem c_X6_incompleteShare_y (l : Launch) (D : va_G) (kA : Nat → ClassId) (H0 : Heap) (o : Nat) (F s b v p u t c : Nat → Int32)  (hM : Rs D kA H0 o F s b v p u t c) (h : ¬ s 7 + s 8 ≤ 0) : Ct l D kA yX6_incompleteShare cX6_incompleteShare 2 (some .float) 1 21 0 0 H0 [.ref o] (blk o 8) (pF fun v9 H => v9 = FP.fdiv (FP.i2f (s 8)) (FP.i2f (s 7 + s 8)) ∧ Rs D kA H o (upd F 6 0) s b v p u t c) := by
  refine Ct.of mi_X6_incompleteShare (Nat.le_of_ble_eq_true rfl) (ls0 := [(0, _)]) rfl ?_
  intro Pp Ee Ss Mm Ar Bl Me Cc Y hs hnm
  refine V_aload_n Y.1 0 dX6_incompleteShare_0 (rfl : _ = 1) rfl rfl ?_
  refine V_get Y.1 fi_X6_9 hM.1 rfl dX6_incompleteShare_1 (rfl : _ = 4) ?_
  refine V_bipush Y.1 (v := 7) dX6_incompleteShare_4 (rfl : _ = 6) (by decide) ?_
  refine V_iald Y.1 (v := s 7) hM.2.1 (by unfold vp_in; decide) rfl dX6_incompleteShare_6 (rfl : _ = 7) ?_
  refine V_aload_n Y.1 0 dX6_incompleteShare_7 (rfl : _ = 8) rfl rfl ?_
  refine V_get Y.1 fi_X6_9 hM.1 rfl dX6_incompleteShare_8 (rfl : _ = 11) ?_
  refine V_bipush Y.1 (v := 8) dX6_incompleteShare_11 (rfl : _ = 13) (by decide) ?_
  refine V_iald Y.1 (v := s 8) hM.2.1 (by unfold vp_in; decide) rfl dX6_incompleteShare_13 (rfl : _ = 14) ?_
  refine V_iadd Y.1 dX6_incompleteShare_14 (rfl : _ = 15) ?_
  refine V_istore_n Y.1 (ls' := [(1, _), (0, _)]) dX6_incompleteShare_15 (rfl : _ = 16) rfl (by decide) rfl ?_
  refine V_aload_n Y.1 1 dX6_incompleteShare_16 (rfl : _ = 17) rfl rfl ?_
  refine V_iload_n Y.1 0 dX6_incompleteShare_17 (rfl : _ = 18) rfl rfl ?_
  refine V_if_le Y.1 (tgt := 25) dX6_incompleteShare_18 (by decide) (rfl : _ = 21) (fun c_n => absurd c_n h) (fun _ => ?_)
  refine V_iconst Y.1 (v := 1) dX6_incompleteShare_21 (rfl : _ = 22) (by decide) ?_
  refine V_goto Y.1 (tgt := 26) dX6_incompleteShare_22 (by decide) ?_
  refine V_cI Y (rV Y (c_X6_isThere l D kA _ _ _ _ _ _ _ _ _ _ _ hM (by first | exact Or.inl rfl | exact Or.inr rfl)) mi_X6_isThere vi_X6_149 rfl hM.1 rfl rfl (Nat.le_of_ble_eq_true rfl) ⟨Nat.le_of_ble_eq_true rfl, Nat.le_of_ble_eq_true rfl⟩ (Nat.le_of_ble_eq_true rfl) (Nat.le_of_ble_eq_true rfl) dX6_incompleteShare_26) (fun q hq => Or.inl (blk_sub (by omega) (by omega) q hq)) (rfl : _ = 29) (fun v_26 H26_15 hq_26 o_26 => ?_)
  obtain ⟨rfl, hM⟩ := hq_26
  refine V_if_eq Y.1 (tgt := 46) dX6_incompleteShare_29 (by decide) (rfl : _ = 32) (fun c_n => absurd c_n (by decide)) (fun _ => ?_)
  refine V_aload_n Y.1 1 dX6_incompleteShare_32 (rfl : _ = 33) rfl rfl ?_
  refine V_get Y.1 fi_X6_9 hM.1 rfl dX6_incompleteShare_33 (rfl : _ = 36) ?_
  refine V_bipush Y.1 (v := 8) dX6_incompleteShare_36 (rfl : _ = 38) (by decide) ?_
  refine V_iald Y.1 (v := s 8) hM.2.1 (by unfold vp_in; decide) rfl dX6_incompleteShare_38 (rfl : _ = 39) ?_
  refine V_i2f Y.1 dX6_incompleteShare_39 (rfl : _ = 40) ?_
  refine V_iload_n Y.1 0 dX6_incompleteShare_40 (rfl : _ = 41) rfl rfl ?_
  refine V_i2f Y.1 dX6_incompleteShare_41 (rfl : _ = 42) ?_
  refine V_fdiv Y.1 dX6_incompleteShare_42 (rfl : _ = 43) (fl_n32 (fl_ne h)) ?_
  refine V_goto Y.1 (tgt := 47) dX6_incompleteShare_43 (by decide) ?_
  exact V_retF Y.1 dX6_incompleteShare_47 (Nat.le_of_ble_eq_true rfl) (Nat.le_of_ble_eq_true rfl) ⟨rfl, hM⟩

set_option maxRecDepth 100000 in
set_option maxHeartbeats 4000000 in
theorem c_X6_incompleteShareBits_n (l : Launch) (D : va_G) (kA : Nat → ClassId) (H0 : Heap) (o : Nat) (F s b v p u t c : Nat → Int32)  (hM : Rs D kA H0 o F s b v p u t c) (h : s 7 + s 8 ≤ 0) : Ct l D kA yX6_incompleteShareBits cX6_incompleteShareBits 2 (some .int) 2 44 0 0 H0 [.ref o] (blk o 8) (pI fun v9 H => v9 = 0 ∧ Rs D kA H o (upd F 6 1) s b v p u t c) := by
  refine Ct.of mi_X6_incompleteShareBits (Nat.le_of_ble_eq_true rfl) (ls0 := [(0, _)]) rfl ?_
  intro Pp Ee Ss Mm Ar Bl Me Cc Y hs hnm
  refine V_aload_n Y.1 0 dX6_incompleteShareBits_0 (rfl : _ = 1) rfl rfl ?_
  refine V_cF Y (rV Y (c_X6_incompleteShare_n l D kA _ _ _ _ _ _ _ _ _ _ hM h) mi_X6_incompleteShare vi_X6_172 rfl hM.1 rfl rfl (Nat.le_of_ble_eq_true rfl) ⟨Nat.le_of_ble_eq_true rfl, Nat.le_of_ble_eq_true rfl⟩ (Nat.le_of_ble_eq_true rfl) (Nat.le_of_ble_eq_true rfl) dX6_incompleteShareBits_1) (fun q hq => Or.inl (blk_sub (by omega) (by omega) q hq)) (rfl : _ = 4) (fun v_1 H1_1 hq_1 o_1 => ?_)
  obtain ⟨rfl, hM⟩ := hq_1
  refine V_fstore_n Y.1 (ls' := [(1, _), (0, _)]) dX6_incompleteShareBits_4 (rfl : _ = 5) rfl (by decide) rfl ?_
  refine V_aload_n Y.1 1 dX6_incompleteShareBits_5 (rfl : _ = 6) rfl rfl ?_
  refine V_get Y.1 fi_X6_39 hM.1 rfl dX6_incompleteShareBits_6 (rfl : _ = 9) ?_
  refine V_nm (v := 1) rfl ?_
  refine V_if_le Y.1 (tgt := 16) dX6_incompleteShareBits_9 (by decide) (rfl : _ = 12) (fun c_n => absurd c_n (by decide)) (fun _ => ?_)
  refine V_iconst Y.1 (v := 0) dX6_incompleteShareBits_12 (rfl : _ = 13) (by decide) ?_
  refine V_goto Y.1 (tgt := 20) dX6_incompleteShareBits_13 (by decide) ?_
  exact V_ret Y.1 dX6_incompleteShareBits_20 rfl (Nat.le_of_ble_eq_true rfl) (Nat.le_of_ble_eq_true rfl) ⟨rfl, hM⟩

set_option maxRecDepth 100000 in
set_option maxHeartbeats 4000000 in
theorem c_X6_incompleteShareBits_y (l : Launch) (D : va_G) (kA : Nat → ClassId) (H0 : Heap) (o : Nat) (F s b v p u t c : Nat → Int32)  (hM : Rs D kA H0 o F s b v p u t c) (h : ¬ s 7 + s 8 ≤ 0) : Ct l D kA yX6_incompleteShareBits cX6_incompleteShareBits 2 (some .int) 2 44 0 0 H0 [.ref o] (blk o 8) (pI fun v9 H => v9 = (FP.fdiv (FP.i2f (s 8)) (FP.i2f (s 7 + s 8))).toInt32 ∧ Rs D kA H o (upd F 6 0) s b v p u t c) := by
  refine Ct.of mi_X6_incompleteShareBits (Nat.le_of_ble_eq_true rfl) (ls0 := [(0, _)]) rfl ?_
  intro Pp Ee Ss Mm Ar Bl Me Cc Y hs hnm
  refine V_aload_n Y.1 0 dX6_incompleteShareBits_0 (rfl : _ = 1) rfl rfl ?_
  refine V_cF Y (rV Y (c_X6_incompleteShare_y l D kA _ _ _ _ _ _ _ _ _ _ hM h) mi_X6_incompleteShare vi_X6_172 rfl hM.1 rfl rfl (Nat.le_of_ble_eq_true rfl) ⟨Nat.le_of_ble_eq_true rfl, Nat.le_of_ble_eq_true rfl⟩ (Nat.le_of_ble_eq_true rfl) (Nat.le_of_ble_eq_true rfl) dX6_incompleteShareBits_1) (fun q hq => Or.inl (blk_sub (by omega) (by omega) q hq)) (rfl : _ = 4) (fun v_1 H1_1 hq_1 o_1 => ?_)
  obtain ⟨rfl, hM⟩ := hq_1
  refine V_fstore_n Y.1 (ls' := [(1, _), (0, _)]) dX6_incompleteShareBits_4 (rfl : _ = 5) rfl (by decide) rfl ?_
  refine V_aload_n Y.1 1 dX6_incompleteShareBits_5 (rfl : _ = 6) rfl rfl ?_
  refine V_get Y.1 fi_X6_39 hM.1 rfl dX6_incompleteShareBits_6 (rfl : _ = 9) ?_
  refine V_nm (v := 0) rfl ?_
  refine V_if_le Y.1 (tgt := 16) dX6_incompleteShareBits_9 (by decide) (rfl : _ = 12) (fun _ => ?_) (fun c_n => absurd (by decide) c_n)
  refine V_fload_n Y.1 0 dX6_incompleteShareBits_16 (rfl : _ = 17) rfl rfl ?_
  refine V_cI Y (rS Y (c_Jxf58ca_floatToIntBits_5c35a l D kA _ _ (fl_f32 (fl_ne h))) mi_Jxf58ca_floatToIntBits_5c35a si_X6_176 rfl rfl (Nat.le_of_ble_eq_true rfl) ⟨Nat.le_of_ble_eq_true rfl, Nat.le_of_ble_eq_true rfl⟩ (Nat.le_of_ble_eq_true rfl) (Nat.le_of_ble_eq_true rfl) dX6_incompleteShareBits_17) (fun _ z => z.elim) (rfl : _ = 20) (fun v_17 H17_9 hq_17 o_17 => ?_)
  obtain ⟨rfl, rfl⟩ := hq_17
  exact V_ret Y.1 dX6_incompleteShareBits_20 rfl (Nat.le_of_ble_eq_true rfl) (Nat.le_of_ble_eq_true rfl) ⟨rfl, hM⟩

