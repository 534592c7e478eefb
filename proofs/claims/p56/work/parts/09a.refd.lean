section VNB
variable {p : Program} {l : Launch} {e : Env} {R : Room} {s : State} {m : MethodId} {args : Array Value} {below : List Frame} {meth : Method} {c : Code} {nL : Nat} {A : Nat → Prop} {Q : State → Prop} {H : Heap} {k n pc pc' : Nat} {ls : List (Nat × Value)} {st : List Value}
variable {cc : ByteArray} {own : String} {D : va_G} {kA : Nat → ClassId} {ret : Option FieldType} {idx : Nat}
theorem V_d2bits (X : Kx p s m args meth c cc nL ret own D kA A) {x : UInt64} (h1 : Cond.methodLink own idx ⟨"java/lang/Double", "doubleToRawLongBits", "(D)J"⟩ ∈ T0) (h2 : Cond.native ⟨"java/lang/Double", "doubleToRawLongBits", "(D)J"⟩ ∈ T0) (h3 : Cond.static ⟨"java/lang/Double", "doubleToRawLongBits", "(D)J"⟩ ∈ T0) (h4 : Cond.initialized "java/lang/Double" ∈ T0) (hfr : 1 ≤ R.frames) (hlo : (st.map fun v => v.category).sum + 15 ≤ R.locals) (hd : decode cc pc = .ok (.invokestatic idx, 3)) (hpc : pc + 3 = pc') (kk : V p l e R s m args below meth c nL A Q H k n pc' ls (.long x.toInt64 :: st)) : V p l e R s m args below meth c nL A Q H k n pc ls (.double x :: st) := by
  subst hpc
  exact fun lsA locs hl hS => vn_d2l X.1.1 X.1.2.1 (X.1.2.2.1.trans hl.1.symm) X.1.2.2.2.1 (X.1.2.2.2.2 _ h1) (X.1.2.2.2.2 _ h2) (X.1.2.2.2.2 _ h3) (X.1.2.2.2.2 _ h4) hfr hlo hd (kk lsA locs hl hS)
theorem V_f2bits (X : Kx p s m args meth c cc nL ret own D kA A) {x : UInt32} (h1 : Cond.methodLink own idx ⟨"java/lang/Float", "floatToRawIntBits", "(F)I"⟩ ∈ T0) (h2 : Cond.native ⟨"java/lang/Float", "floatToRawIntBits", "(F)I"⟩ ∈ T0) (h3 : Cond.static ⟨"java/lang/Float", "floatToRawIntBits", "(F)I"⟩ ∈ T0) (h4 : Cond.initialized "java/lang/Float" ∈ T0) (hfr : 1 ≤ R.frames) (hlo : (st.map fun v => v.category).sum + 15 ≤ R.locals) (hd : decode cc pc = .ok (.invokestatic idx, 3)) (hpc : pc + 3 = pc') (kk : V p l e R s m args below meth c nL A Q H k n pc' ls (.int x.toInt32 :: st)) : V p l e R s m args below meth c nL A Q H k n pc ls (.float x :: st) := by
  subst hpc
  exact fun lsA locs hl hS => vn_f2i X.1.1 X.1.2.1 (X.1.2.2.1.trans hl.1.symm) X.1.2.2.2.1 (X.1.2.2.2.2 _ h1) (X.1.2.2.2.2 _ h2) (X.1.2.2.2.2 _ h3) (X.1.2.2.2.2 _ h4) hfr hlo hd (kk lsA locs hl hS)
end VNB
theorem fl_ne {x : Int32} (h : ¬ x ≤ 0) : x ≠ 0 := fun e => h (by rw [e]; decide)
theorem fl_vf64 {r : UInt64} (h : r.toNat % 2 ^ 63 < 2047 * 2 ^ 52) : vf_n64 r := by
  unfold vf_n64
  rw [UInt64.le_iff_toNat_le, UInt64.toNat_and]
  have e : (0x7fffffffffffffff : UInt64).toNat = 2 ^ 63 - 1 := by decide
  rw [e, Nat.and_two_pow_sub_one_eq_mod]
  have e2 : (0x7ff0000000000000 : UInt64).toNat = 2047 * 2 ^ 52 := by decide
  rw [e2]
  exact Nat.le_of_lt h
theorem fl_vf32 {r : UInt32} (h : r.toNat % 2 ^ 31 < 255 * 2 ^ 23) : vf_n32 r := by
  unfold vf_n32
  rw [UInt32.le_iff_toNat_le, UInt32.toNat_and]
  have e : (0x7fffffff : UInt32).toNat = 2 ^ 31 - 1 := by decide
  rw [e, Nat.and_two_pow_sub_one_eq_mod]
  have e2 : (0x7f800000 : UInt32).toNat = 255 * 2 ^ 23 := by decide
  rw [e2]
  exact Nat.le_of_lt h
theorem fl_m64 {x y : Int32} (h : y ≠ 0) : (FP.ddiv (FP.i2d x) (FP.i2d y)).toNat % 2 ^ 63 < 1057 * 2 ^ 52 := by
  have b := FP.Core.i2d_big (FP.Core.int32_ne h)
  exact FP.Core.ddiv_mag (K := 1056) (L := 1023) (FP.Core.i2d_mag x) b.1 b.2 (by decide) (by decide)
theorem fl_m32 {x y : Int32} (h : y ≠ 0) : (FP.fdiv (FP.i2f x) (FP.i2f y)).toNat % 2 ^ 31 < 161 * 2 ^ 23 := by
  have b := FP.Core.i2f_big (FP.Core.int32_ne h)
  exact FP.Core.fdiv_mag (K := 160) (L := 127) (FP.Core.i2f_mag x) b.1 b.2 (by decide) (by decide)
theorem fl_n64 {x y : Int32} (h : y ≠ 0) : vf_n64 (FP.ddiv (FP.i2d x) (FP.i2d y)) := fl_vf64 (Nat.lt_trans (fl_m64 h) (by decide))
theorem fl_n32 {x y : Int32} (h : y ≠ 0) : vf_n32 (FP.fdiv (FP.i2f x) (FP.i2f y)) := fl_vf32 (Nat.lt_trans (fl_m32 h) (by decide))
theorem fl_fin64 {x y : Int32} (h : y ≠ 0) : FP.Core.DFin (FP.ddiv (FP.i2d x) (FP.i2d y)) := (FP.Core.fin_bits _).mpr (Nat.lt_trans (fl_m64 h) (by decide))
theorem fl_fin32 {x y : Int32} (h : y ≠ 0) : FP.Core.FFin (FP.fdiv (FP.i2f x) (FP.i2f y)) := (FP.Core.fin_bits32 _).mpr (Nat.lt_trans (fl_m32 h) (by decide))
theorem fl_d64 {x y : Int32} (h : y ≠ 0) : FP.dcmp (FP.ddiv (FP.i2d x) (FP.i2d y)) (FP.ddiv (FP.i2d x) (FP.i2d y)) = some .eq := FP.Core.dcmp_refl (fl_fin64 h).notNaN
theorem fl_f32 {x y : Int32} (h : y ≠ 0) : FP.fcmp (FP.fdiv (FP.i2f x) (FP.i2f y)) (FP.fdiv (FP.i2f x) (FP.i2f y)) = some .eq := FP.Core.fcmp_refl (fl_fin32 h).notNaN
set_option maxRecDepth 100000 in
set_option maxHeartbeats 4000000 in
theorem c_Jxe99ae_isNaN_b9ae7 (l : Launch) (D : va_G) (kA : Nat → ClassId) (H0 : Heap) (x : UInt64) (hx : FP.dcmp x x = some .eq)  : Ct l D kA yJxe99ae_isNaN_b9ae7 cJxe99ae_isNaN_b9ae7 2 (some .boolean) 0 0 0 0 H0 [.double x] (nof) (pI fun v9 H => v9 = 0 ∧ H = H0) := by
  refine Ct.of mi_Jxe99ae_isNaN_b9ae7 (Nat.le_of_ble_eq_true rfl) (ls0 := [(0, _)]) rfl ?_
  intro Pp Ee Ss Mm Ar Bl Me Cc Y hs hnm
  have sz : H0.size = H0.size := rfl
  refine V_dload_n Y.1 0 dJxe99ae_isNaN_b9ae7_0 (rfl : _ = 1) rfl rfl ?_
  refine V_dload_n Y.1 0 dJxe99ae_isNaN_b9ae7_1 (rfl : _ = 2) rfl rfl ?_
  refine V_dcmp Y.1 dJxe99ae_isNaN_b9ae7_2 (rfl : _ = 3) ?_
  refine V_nm (v := 0) (by rw [hx]; rfl) ?_
  refine V_if_eq Y.1 (tgt := 10) dJxe99ae_isNaN_b9ae7_3 (by decide) (rfl : _ = 6) (fun _ => ?_) (fun c_n => absurd rfl c_n)
  refine V_iconst Y.1 (v := 0) dJxe99ae_isNaN_b9ae7_10 (rfl : _ = 11) (by decide) ?_
  exact V_ret Y.1 dJxe99ae_isNaN_b9ae7_11 rfl (Nat.le_of_ble_eq_true rfl) (Nat.le_of_ble_eq_true rfl) ⟨rfl, rfl⟩

set_option maxRecDepth 100000 in
set_option maxHeartbeats 4000000 in
theorem c_Jxe99ae_doubleToLongBits_ccdee (l : Launch) (D : va_G) (kA : Nat → ClassId) (H0 : Heap) (x : UInt64) (hx : FP.dcmp x x = some .eq)  : Ct l D kA yJxe99ae_doubleToLongBits_ccdee cJxe99ae_doubleToLongBits_ccdee 2 (some .long) 1 24 0 0 H0 [.double x] (nof) (pL fun v9 H => v9 = x.toInt64 ∧ H = H0) := by
  refine Ct.of mi_Jxe99ae_doubleToLongBits_ccdee (Nat.le_of_ble_eq_true rfl) (ls0 := [(0, _)]) rfl ?_
  intro Pp Ee Ss Mm Ar Bl Me Cc Y hs hnm
  have sz : H0.size = H0.size := rfl
  refine V_dload_n Y.1 0 dJxe99ae_doubleToLongBits_ccdee_0 (rfl : _ = 1) rfl rfl ?_
  refine V_cP Y (rS Y (c_Jxe99ae_isNaN_b9ae7 l D kA _ x hx) mi_Jxe99ae_isNaN_b9ae7 si_Jxe99ae_122 rfl rfl (Nat.le_of_ble_eq_true rfl) ⟨Nat.le_of_ble_eq_true rfl, Nat.le_of_ble_eq_true rfl⟩ (Nat.le_of_ble_eq_true rfl) (Nat.le_of_ble_eq_true rfl) dJxe99ae_doubleToLongBits_ccdee_1) (rfl : _ = 4) ?_
  refine V_if_ne Y.1 (tgt := 12) dJxe99ae_doubleToLongBits_ccdee_4 (by decide) (rfl : _ = 7) (fun c_n => absurd rfl c_n) (fun _ => ?_)
  refine V_dload_n Y.1 0 dJxe99ae_doubleToLongBits_ccdee_7 (rfl : _ = 8) rfl rfl ?_
  refine V_d2bits Y.1 (tm 1347 (by decide +kernel) (by decide +kernel)) (tm 1349 (by decide +kernel) (by decide +kernel)) (tm 1348 (by decide +kernel) (by decide +kernel)) (tm 38 (by decide +kernel) (by decide +kernel)) (Nat.le_of_ble_eq_true rfl) (Nat.le_of_ble_eq_true rfl) dJxe99ae_doubleToLongBits_ccdee_8 rfl ?_
  exact V_retL Y.1 dJxe99ae_doubleToLongBits_ccdee_11 (Nat.le_of_ble_eq_true rfl) (Nat.le_of_ble_eq_true rfl) ⟨rfl, rfl⟩

set_option maxRecDepth 100000 in
set_option maxHeartbeats 4000000 in
theorem c_Jxf58ca_isNaN_12338 (l : Launch) (D : va_G) (kA : Nat → ClassId) (H0 : Heap) (x : UInt32) (hx : FP.fcmp x x = some .eq)  : Ct l D kA yJxf58ca_isNaN_12338 cJxf58ca_isNaN_12338 1 (some .boolean) 0 0 0 0 H0 [.float x] (nof) (pI fun v9 H => v9 = 0 ∧ H = H0) := by
  refine Ct.of mi_Jxf58ca_isNaN_12338 (Nat.le_of_ble_eq_true rfl) (ls0 := [(0, _)]) rfl ?_
  intro Pp Ee Ss Mm Ar Bl Me Cc Y hs hnm
  have sz : H0.size = H0.size := rfl
  refine V_fload_n Y.1 0 dJxf58ca_isNaN_12338_0 (rfl : _ = 1) rfl rfl ?_
  refine V_fload_n Y.1 0 dJxf58ca_isNaN_12338_1 (rfl : _ = 2) rfl rfl ?_
  refine V_fcmp Y.1 dJxf58ca_isNaN_12338_2 (rfl : _ = 3) ?_
  refine V_nm (v := 0) (by rw [hx]; rfl) ?_
  refine V_if_eq Y.1 (tgt := 10) dJxf58ca_isNaN_12338_3 (by decide) (rfl : _ = 6) (fun _ => ?_) (fun c_n => absurd rfl c_n)
  refine V_iconst Y.1 (v := 0) dJxf58ca_isNaN_12338_10 (rfl : _ = 11) (by decide) ?_
  exact V_ret Y.1 dJxf58ca_isNaN_12338_11 rfl (Nat.le_of_ble_eq_true rfl) (Nat.le_of_ble_eq_true rfl) ⟨rfl, rfl⟩

set_option maxRecDepth 100000 in
set_option maxHeartbeats 4000000 in
theorem c_Jxf58ca_floatToIntBits_5c35a (l : Launch) (D : va_G) (kA : Nat → ClassId) (H0 : Heap) (x : UInt32) (hx : FP.fcmp x x = some .eq)  : Ct l D kA yJxf58ca_floatToIntBits_5c35a cJxf58ca_floatToIntBits_5c35a 1 (some .int) 1 24 0 0 H0 [.float x] (nof) (pI fun v9 H => v9 = x.toInt32 ∧ H = H0) := by
  refine Ct.of mi_Jxf58ca_floatToIntBits_5c35a (Nat.le_of_ble_eq_true rfl) (ls0 := [(0, _)]) rfl ?_
  intro Pp Ee Ss Mm Ar Bl Me Cc Y hs hnm
  have sz : H0.size = H0.size := rfl
  refine V_fload_n Y.1 0 dJxf58ca_floatToIntBits_5c35a_0 (rfl : _ = 1) rfl rfl ?_
  refine V_cP Y (rS Y (c_Jxf58ca_isNaN_12338 l D kA _ x hx) mi_Jxf58ca_isNaN_12338 si_Jxf58ca_59 rfl rfl (Nat.le_of_ble_eq_true rfl) ⟨Nat.le_of_ble_eq_true rfl, Nat.le_of_ble_eq_true rfl⟩ (Nat.le_of_ble_eq_true rfl) (Nat.le_of_ble_eq_true rfl) dJxf58ca_floatToIntBits_5c35a_1) (rfl : _ = 4) ?_
  refine V_if_ne Y.1 (tgt := 12) dJxf58ca_floatToIntBits_5c35a_4 (by decide) (rfl : _ = 7) (fun c_n => absurd rfl c_n) (fun _ => ?_)
  refine V_fload_n Y.1 0 dJxf58ca_floatToIntBits_5c35a_7 (rfl : _ = 8) rfl rfl ?_
  refine V_f2bits Y.1 (tm 1370 (by decide +kernel) (by decide +kernel)) (tm 1372 (by decide +kernel) (by decide +kernel)) (tm 1371 (by decide +kernel) (by decide +kernel)) (tm 39 (by decide +kernel) (by decide +kernel)) (Nat.le_of_ble_eq_true rfl) (Nat.le_of_ble_eq_true rfl) dJxf58ca_floatToIntBits_5c35a_8 rfl ?_
  exact V_ret Y.1 dJxf58ca_floatToIntBits_5c35a_11 rfl (Nat.le_of_ble_eq_true rfl) (Nat.le_of_ble_eq_true rfl) ⟨rfl, rfl⟩
