/-! The bits of a double and of a float by doubling and halving. -/
theorem e_exp (E : Nat) : nI E - nI 1023 + 1023 = nI E := by rw [show nI 1023 = 1023 from rfl]; grind
theorem e_dn (E G : Nat) : nI E - nI G + Int32.ofInt (-1) = nI E - nI (G + 1) := by rw [nI_succ, show Int32.ofInt (-1) = -1 from by decide]; grind
theorem e_up (E G : Nat) : nI E - nI (G + 1) + Int32.ofInt 1 = nI E - nI G := by rw [nI_succ, show Int32.ofInt 1 = 1 from by decide]; grind
theorem cv_lt {o : Option Ordering} {op : CmpOp} (h : o = some .lt) : Op.cmpValue o op = -1 := by subst h; rfl
theorem cv_eq {o : Option Ordering} {op : CmpOp} (h : o = some .eq) : Op.cmpValue o op = 0 := by subst h; rfl
theorem cv_gt {o : Option Ordering} {op : CmpOp} (h : o = some .gt) : Op.cmpValue o op = 1 := by subst h; rfl
theorem cD_ge {op : CmpOp} {E T B : Nat} (h1 : 1 ≤ E) (h2 : E < 2047) (hT : T < 4503599627370496) (hB : 1 ≤ B) (h : B ≤ E) : 0 ≤ Op.cmpValue (FP.dcmp (mkD E T) (mkD B 0)) op := by
  obtain ⟨-, b, c⟩ := mkD_cmp h1 h2 hT hB (show B < 2047 by omega) (show 0 < 4503599627370496 by decide)
  by_cases e : E * 4503599627370496 + T = B * 4503599627370496 + 0
  · rw [cv_eq (b.mpr e)]; decide
  · rw [cv_gt (c.mpr (by omega))]; decide
theorem cD_lt {op : CmpOp} {E T B : Nat} (h1 : 1 ≤ E) (h2 : E < 2047) (hT : T < 4503599627370496) (hB : B < 2047) (h : E < B) : Op.cmpValue (FP.dcmp (mkD E T) (mkD B 0)) op < 0 := by
  obtain ⟨a, -, -⟩ := mkD_cmp h1 h2 hT (show 1 ≤ B by omega) hB (show 0 < 4503599627370496 by decide)
  rw [cv_lt (a.mpr (by omega))]; decide
theorem cD_ge1 {op : CmpOp} {E T : Nat} (h1 : 1 ≤ E) (h2 : E < 2047) (hT : T < 4503599627370496) (h : 1023 ≤ E) : 0 ≤ Op.cmpValue (FP.dcmp (mkD E T) FP.dconst1) op := by
  rw [show FP.dconst1 = mkD 1023 0 from by decide +kernel]; exact cD_ge h1 h2 hT (by decide) h
theorem cD_lt1 {op : CmpOp} {E T : Nat} (h1 : 1 ≤ E) (h2 : E < 2047) (hT : T < 4503599627370496) (h : E < 1023) : ¬ 0 ≤ Op.cmpValue (FP.dcmp (mkD E T) FP.dconst1) op := by
  rw [show FP.dconst1 = mkD 1023 0 from by decide +kernel]; exact Int32.not_le.mpr (cD_lt h1 h2 hT (by decide) h)
theorem cD_gt0 {op : CmpOp} {E T : Nat} (h1 : 1 ≤ E) (h2 : E < 2047) (hT : T < 4503599627370496) : 0 < Op.cmpValue (FP.dcmp (mkD E T) FP.dconst0) op := by
  have a := mkD_nat (E := E) (T := T) (by omega) hT
  have m := FP.Core.mono_bits (b := FP.dconst0) (mkD_ne h1 h2 hT) (by decide +kernel) (by rw [a]; omega) (by decide +kernel)
  have e : FP.dcmp (mkD E T) FP.dconst0 = some .gt := m.2.2.mpr (by rw [a, show (FP.dconst0).toNat = 0 from by decide +kernel]; omega)
  rw [cv_gt e]; decide
theorem cD_lt2 {op : CmpOp} {E T : Nat} (h1 : 1 ≤ E) (h2 : E < 2047) (hT : T < 4503599627370496) (h : E < 1024) : Op.cmpValue (FP.dcmp (mkD E T) 4611686018427387904) op < 0 := by
  rw [mkD_two]; exact cD_lt h1 h2 hT (by decide) h
theorem cD_ge2 {op : CmpOp} {E T : Nat} (h1 : 1 ≤ E) (h2 : E < 2047) (hT : T < 4503599627370496) (h : 1024 ≤ E) : ¬ Op.cmpValue (FP.dcmp (mkD E T) 4611686018427387904) op < 0 := by
  rw [mkD_two]; exact Int32.not_lt.mpr (cD_ge h1 h2 hT (by decide) h)
theorem bits_D {E T : Nat} (h2 : E < 2047) (hT : T < 4503599627370496) : (nI E).toInt64 <<< ((52 : Int32).toInt64 &&& 63) ||| Int64.ofNat T = (mkD E T).toInt64 := by
  apply Int64.toBitVec_inj.mp
  apply BitVec.eq_of_toNat_eq
  have e1 : (nI E).toInt64 = Int64.ofNat E := by
    apply Int64.toInt.inj
    rw [Int32.toInt_toInt64, nI_toInt (by omega), Int64.toInt_ofNat_of_lt (by show _ < 2 ^ 63; omega)]
  have e2 : (52 : Int32).toInt64 &&& 63 = 52 := by decide
  rw [e1, e2]
  have e3 : (Int64.ofNat E <<< 52).toBitVec.toNat = E <<< 52 := by
    have hs : (52 : Int64).toBitVec.smod 64 = 52#64 := by decide
    rw [Int64.toBitVec_shiftLeft, hs, BitVec.shiftLeft_eq', BitVec.toNat_shiftLeft, Int64.toBitVec_ofNat', BitVec.toNat_ofNat, show (52#64).toNat = 52 from by decide, Nat.mod_eq_of_lt (show E < 2 ^ 64 by omega), Nat.shiftLeft_eq, Nat.mod_eq_of_lt (by omega)]
  rw [Int64.toBitVec_or, BitVec.toNat_or, e3]
  have e4 : (Int64.ofNat T).toBitVec.toNat = T := by
    rw [Int64.toBitVec_ofNat', BitVec.toNat_ofNat, Nat.mod_eq_of_lt (show T < 2 ^ 64 by omega)]
  have e5 : (mkD E T).toInt64.toBitVec.toNat = (mkD E T).toNat := rfl
  rw [e4, e5, mkD_nat (by omega) hT, ← Nat.shiftLeft_add_eq_or_of_lt (show T < 2 ^ 52 from hT), Nat.shiftLeft_eq]
theorem cF_ge {op : CmpOp} {E T B : Nat} (h1 : 1 ≤ E) (h2 : E < 255) (hT : T < 8388608) (hB : 1 ≤ B) (h : B ≤ E) : 0 ≤ Op.cmpValue (FP.fcmp (mkF E T) (mkF B 0)) op := by
  obtain ⟨-, b, c⟩ := mkF_cmp h1 h2 hT hB (show B < 255 by omega) (show 0 < 8388608 by decide)
  by_cases e : E * 8388608 + T = B * 8388608 + 0
  · rw [cv_eq (b.mpr e)]; decide
  · rw [cv_gt (c.mpr (by omega))]; decide
theorem cF_lt {op : CmpOp} {E T B : Nat} (h1 : 1 ≤ E) (h2 : E < 255) (hT : T < 8388608) (hB : B < 255) (h : E < B) : Op.cmpValue (FP.fcmp (mkF E T) (mkF B 0)) op < 0 := by
  obtain ⟨a, -, -⟩ := mkF_cmp h1 h2 hT (show 1 ≤ B by omega) hB (show 0 < 8388608 by decide)
  rw [cv_lt (a.mpr (by omega))]; decide
theorem cF_ge1 {op : CmpOp} {E T : Nat} (h1 : 1 ≤ E) (h2 : E < 255) (hT : T < 8388608) (h : 127 ≤ E) : 0 ≤ Op.cmpValue (FP.fcmp (mkF E T) FP.fconst1) op := by
  rw [show FP.fconst1 = mkF 127 0 from by decide +kernel]; exact cF_ge h1 h2 hT (by decide) h
theorem cF_lt1 {op : CmpOp} {E T : Nat} (h1 : 1 ≤ E) (h2 : E < 255) (hT : T < 8388608) (h : E < 127) : ¬ 0 ≤ Op.cmpValue (FP.fcmp (mkF E T) FP.fconst1) op := by
  rw [show FP.fconst1 = mkF 127 0 from by decide +kernel]; exact Int32.not_le.mpr (cF_lt h1 h2 hT (by decide) h)
theorem cF_gt0 {op : CmpOp} {E T : Nat} (h1 : 1 ≤ E) (h2 : E < 255) (hT : T < 8388608) : 0 < Op.cmpValue (FP.fcmp (mkF E T) FP.fconst0) op := by
  have a := mkF_nat (E := E) (T := T) (by omega) hT
  have m := FP.Core.mono_bits32 (b := FP.fconst0) (mkF_ne h1 h2 hT) (by decide +kernel) (by rw [a]; omega) (by decide +kernel)
  have e : FP.fcmp (mkF E T) FP.fconst0 = some .gt := m.2.2.mpr (by rw [a, show (FP.fconst0).toNat = 0 from by decide +kernel]; omega)
  rw [cv_gt e]; decide
set_option maxRecDepth 100000 in
set_option maxHeartbeats 4000000 in
theorem c_X5_bitsOfDouble (l : Launch) (D : va_G) (kA : Nat → ClassId) (H0 : Heap) (E T : Nat) (h1 : 1 ≤ E) (h2 : E < 2047) (hT : T < 4503599627370496) : Ct l D kA yX5_bitsOfDouble cX5_bitsOfDouble 7 (some .long) 0 0 0 0 H0 [.double (mkD E T)] (nof) (pL fun v9 H => v9 = (mkD E T).toInt64 ∧ H = H0) := by
  refine Ct.of mi_X5_bitsOfDouble (Nat.le_of_ble_eq_true rfl) (ls0 := [(0, _)]) rfl ?_
  intro Pp Ee Ss Mm Ar Bl Me Cc Y hsH hnm
  have lp2 : ∀ (r i G : Nat), G + r = 1023 → 1 ≤ G → i + r ≤ 1999 → V Pp l Ee (rmO 0 0 0 0) Ss Mm Ar Bl Me Cc 7 (AA H0 (nof)) (QC Bl Ar Ss 0 0 H0 (nof) (pL fun v9 H => v9 = (mkD E T).toInt64 ∧ H = H0)) H0 0 0 50 [(5, .int (nI i)), (4, .int (nI E - nI G)), (2, .double (mkD G T)), (0, .double (mkD E T))] [] := by
    intro r
    induction r with
    | zero =>
      intro i G hr hG hi
      obtain rfl : G = 1023 := by omega
      refine V_iload Y.1 0 dX5_bitsOfDouble_50 (rfl : _ = 52) rfl ?_
      refine V_sipush Y.1 (v := 2000) dX5_bitsOfDouble_52 (rfl : _ = 55) (by decide) ?_
      refine V_icmp_ge Y.1 (tgt := 79) dX5_bitsOfDouble_55 (by decide) (rfl : _ = 58) (fun c_n => absurd c_n (by simp (disch := omega) only [Int32.lt_iff_toInt_lt, Int32.le_iff_toInt_le, ge_iff_le, gt_iff_lt, nI_toInt, Int32.reduceToInt] ; omega)) (fun _ => ?_)
      refine V_dload_n Y.1 2 dX5_bitsOfDouble_58 (rfl : _ = 59) rfl rfl ?_
      refine V_dconst1 Y.1 dX5_bitsOfDouble_59 (rfl : _ = 60) ?_
      refine V_dcmp Y.1 dX5_bitsOfDouble_60 (rfl : _ = 61) ?_
      refine V_if_ge Y.1 (tgt := 79) dX5_bitsOfDouble_61 (by decide) (rfl : _ = 64) (fun _ => ?_) (fun c_n => absurd (cD_ge1 (by decide) (by decide) hT (Nat.le_refl _)) c_n)
      refine V_dload_n Y.1 2 dX5_bitsOfDouble_79 (rfl : _ = 80) rfl rfl ?_
      refine V_dconst1 Y.1 dX5_bitsOfDouble_80 (rfl : _ = 81) ?_
      refine V_dsub Y.1 dX5_bitsOfDouble_81 (rfl : _ = 82) (mkD_frac hT).1 ?_
      refine V_ldc2d Y.1 cn_X5_338 dX5_bitsOfDouble_82 (rfl : _ = 85) ?_
      refine V_dmul Y.1 dX5_bitsOfDouble_85 (rfl : _ = 86) (mkD_frac hT).2.1 ?_
      refine V_d2l Y.1 dX5_bitsOfDouble_86 (rfl : _ = 87) ?_
      refine V_lstore Y.1 (ls' := [(5, _), (4, _), (2, _), (0, _)]) dX5_bitsOfDouble_87 (rfl : _ = 89) (by decide) rfl ?_
      refine V_iload Y.1 1 dX5_bitsOfDouble_89 (rfl : _ = 91) rfl ?_
      refine V_sipush Y.1 (v := 1023) dX5_bitsOfDouble_91 (rfl : _ = 94) (by decide) ?_
      refine V_iadd Y.1 dX5_bitsOfDouble_94 (rfl : _ = 95) ?_
      refine V_nm (v := nI E) (e_exp E) ?_
      refine V_i2l Y.1 (v := (nI E).toInt64) dX5_bitsOfDouble_95 (rfl : _ = 96) rfl ?_
      refine V_bipush Y.1 (v := 52) dX5_bitsOfDouble_96 (rfl : _ = 98) (by decide) ?_
      refine V_lshl Y.1 dX5_bitsOfDouble_98 (rfl : _ = 99) rfl ?_
      refine V_lload Y.1 0 dX5_bitsOfDouble_99 (rfl : _ = 101) rfl ?_
      refine V_lor Y.1 dX5_bitsOfDouble_101 (rfl : _ = 102) ?_
      exact V_retL Y.1 dX5_bitsOfDouble_102 (Nat.le_of_ble_eq_true rfl) (Nat.le_of_ble_eq_true rfl) ⟨by rw [show FP.dconst1 = 4607182418800017408 from by decide +kernel, (mkD_frac hT).2.2]; exact bits_D h2 hT, rfl⟩
    | succ r ih =>
      intro i G hr hG hi
      refine V_iload Y.1 0 dX5_bitsOfDouble_50 (rfl : _ = 52) rfl ?_
      refine V_sipush Y.1 (v := 2000) dX5_bitsOfDouble_52 (rfl : _ = 55) (by decide) ?_
      refine V_icmp_ge Y.1 (tgt := 79) dX5_bitsOfDouble_55 (by decide) (rfl : _ = 58) (fun c_n => absurd c_n (by simp (disch := omega) only [Int32.lt_iff_toInt_lt, Int32.le_iff_toInt_le, ge_iff_le, gt_iff_lt, nI_toInt, Int32.reduceToInt] ; omega)) (fun _ => ?_)
      refine V_dload_n Y.1 2 dX5_bitsOfDouble_58 (rfl : _ = 59) rfl rfl ?_
      refine V_dconst1 Y.1 dX5_bitsOfDouble_59 (rfl : _ = 60) ?_
      refine V_dcmp Y.1 dX5_bitsOfDouble_60 (rfl : _ = 61) ?_
      refine V_if_ge Y.1 (tgt := 79) dX5_bitsOfDouble_61 (by decide) (rfl : _ = 64) (fun c_n => absurd c_n (cD_lt1 hG (by omega) hT (by omega))) (fun _ => ?_)
      refine V_dload_n Y.1 2 dX5_bitsOfDouble_64 (rfl : _ = 65) rfl rfl ?_
      refine V_ldc2d Y.1 cn_X5_336 dX5_bitsOfDouble_65 (rfl : _ = 68) ?_
      refine V_dmul Y.1 dX5_bitsOfDouble_68 (rfl : _ = 69) (by rw [mkD_dbl hG (by omega) hT]; exact mkD_vf (by omega) hT) ?_
      rw [mkD_dbl hG (by omega) hT]
      refine V_dstore_n Y.1 (ls' := [(2, _), (5, _), (4, _), (0, _)]) dX5_bitsOfDouble_69 (rfl : _ = 70) rfl (by decide) rfl ?_
      refine V_iinc Y.1 (v := nI E - nI (G + 1)) (ls' := [(4, _), (2, _), (5, _), (0, _)]) 2 dX5_bitsOfDouble_70 (rfl : _ = 73) rfl (e_dn E G) (by decide) rfl ?_
      refine V_iinc Y.1 (v := nI (i + 1)) (ls' := [(5, _), (4, _), (2, _), (0, _)]) 2 dX5_bitsOfDouble_73 (rfl : _ = 76) rfl (nI_1 _) (by decide) rfl ?_
      refine V_goto Y.1 (tgt := 50) dX5_bitsOfDouble_76 (by decide) ?_
      exact V_forget (ls' := [(5, _), (4, _), (2, _), (0, _)]) [0, 1, 2, 3] rfl (ih (i + 1) (G + 1) (by omega) (by omega) (by omega))
  have lp1 : ∀ (r i G : Nat), G ≤ 1023 + r → (r = 0 ∨ G = 1023 + r) → 1 ≤ G → i + r ≤ 1999 → G < 2047 → V Pp l Ee (rmO 0 0 0 0) Ss Mm Ar Bl Me Cc 7 (AA H0 (nof)) (QC Bl Ar Ss 0 0 H0 (nof) (pL fun v9 H => v9 = (mkD E T).toInt64 ∧ H = H0)) H0 0 0 16 [(5, .int (nI i)), (4, .int (nI E - nI G)), (2, .double (mkD G T)), (0, .double (mkD E T))] [] := by
    intro r
    induction r with
    | zero =>
      intro i G hr hr2 hG hi hG7
      refine V_iload Y.1 0 dX5_bitsOfDouble_16 (rfl : _ = 18) rfl ?_
      refine V_sipush Y.1 (v := 2000) dX5_bitsOfDouble_18 (rfl : _ = 21) (by decide) ?_
      refine V_icmp_ge Y.1 (tgt := 47) dX5_bitsOfDouble_21 (by decide) (rfl : _ = 24) (fun c_n => absurd c_n (by simp (disch := omega) only [Int32.lt_iff_toInt_lt, Int32.le_iff_toInt_le, ge_iff_le, gt_iff_lt, nI_toInt, Int32.reduceToInt] ; omega)) (fun _ => ?_)
      refine V_dload_n Y.1 2 dX5_bitsOfDouble_24 (rfl : _ = 25) rfl rfl ?_
      refine V_ldc2d Y.1 cn_X5_336 dX5_bitsOfDouble_25 (rfl : _ = 28) ?_
      refine V_dcmp Y.1 dX5_bitsOfDouble_28 (rfl : _ = 29) ?_
      refine V_if_lt Y.1 (tgt := 47) dX5_bitsOfDouble_29 (by decide) (rfl : _ = 32) (fun _ => ?_) (fun c_n => absurd (cD_lt2 hG (by omega) hT (by omega)) c_n)
      refine V_iconst Y.1 (v := 0) dX5_bitsOfDouble_47 (rfl : _ = 48) (by decide) ?_
      refine V_istore Y.1 (ls' := [(5, _), (4, _), (2, _), (0, _)]) dX5_bitsOfDouble_48 (rfl : _ = 50) (by decide) rfl ?_
      exact V_forget (ls' := [(5, _), (4, _), (2, _), (0, _)]) [0, 1, 2, 3] rfl (lp2 (1023 - G) 0 G (by omega) hG (by omega))
    | succ r ih =>
      intro i G hr hr2 hG hi hG7
      obtain ⟨G, rfl⟩ : ∃ g, G = g + 1 := ⟨G - 1, by omega⟩
      refine V_iload Y.1 0 dX5_bitsOfDouble_16 (rfl : _ = 18) rfl ?_
      refine V_sipush Y.1 (v := 2000) dX5_bitsOfDouble_18 (rfl : _ = 21) (by decide) ?_
      refine V_icmp_ge Y.1 (tgt := 47) dX5_bitsOfDouble_21 (by decide) (rfl : _ = 24) (fun c_n => absurd c_n (by simp (disch := omega) only [Int32.lt_iff_toInt_lt, Int32.le_iff_toInt_le, ge_iff_le, gt_iff_lt, nI_toInt, Int32.reduceToInt] ; omega)) (fun _ => ?_)
      refine V_dload_n Y.1 2 dX5_bitsOfDouble_24 (rfl : _ = 25) rfl rfl ?_
      refine V_ldc2d Y.1 cn_X5_336 dX5_bitsOfDouble_25 (rfl : _ = 28) ?_
      refine V_dcmp Y.1 dX5_bitsOfDouble_28 (rfl : _ = 29) ?_
      refine V_if_lt Y.1 (tgt := 47) dX5_bitsOfDouble_29 (by decide) (rfl : _ = 32) (fun c_n => absurd c_n (cD_ge2 (by omega) (by omega) hT (by omega))) (fun _ => ?_)
      refine V_dload_n Y.1 2 dX5_bitsOfDouble_32 (rfl : _ = 33) rfl rfl ?_
      refine V_ldc2d Y.1 cn_X5_336 dX5_bitsOfDouble_33 (rfl : _ = 36) ?_
      refine V_ddiv Y.1 dX5_bitsOfDouble_36 (rfl : _ = 37) (by rw [mkD_half (by omega) (by omega) hT]; exact mkD_vf (by omega) hT) ?_
      rw [mkD_half (by omega) (by omega) hT]
      refine V_dstore_n Y.1 (ls' := [(2, _), (5, _), (4, _), (0, _)]) dX5_bitsOfDouble_37 (rfl : _ = 38) rfl (by decide) rfl ?_
      refine V_iinc Y.1 (v := nI E - nI G) (ls' := [(4, _), (2, _), (5, _), (0, _)]) 2 dX5_bitsOfDouble_38 (rfl : _ = 41) rfl (e_up E G) (by decide) rfl ?_
      refine V_iinc Y.1 (v := nI (i + 1)) (ls' := [(5, _), (4, _), (2, _), (0, _)]) 2 dX5_bitsOfDouble_41 (rfl : _ = 44) rfl (nI_1 _) (by decide) rfl ?_
      refine V_goto Y.1 (tgt := 16) dX5_bitsOfDouble_44 (by decide) ?_
      exact V_forget (ls' := [(5, _), (4, _), (2, _), (0, _)]) [0, 1, 2, 3] rfl (ih (i + 1) G (by omega) (by omega) (by omega) (by omega) (by omega))
  have sz : H0.size = H0.size := rfl
  refine V_dload_n Y.1 0 dX5_bitsOfDouble_0 (rfl : _ = 1) rfl rfl ?_
  refine V_dconst0 Y.1 dX5_bitsOfDouble_1 (rfl : _ = 2) ?_
  refine V_dcmp Y.1 dX5_bitsOfDouble_2 (rfl : _ = 3) ?_
  refine V_if_gt Y.1 (tgt := 8) dX5_bitsOfDouble_3 (by decide) (rfl : _ = 6) (fun _ => ?_) (fun c_n => absurd (cD_gt0 h1 h2 hT) c_n)
  refine V_dload_n Y.1 0 dX5_bitsOfDouble_8 (rfl : _ = 9) rfl rfl ?_
  refine V_dstore_n Y.1 (ls' := [(2, _), (0, _)]) dX5_bitsOfDouble_9 (rfl : _ = 10) rfl (by decide) rfl ?_
  refine V_iconst Y.1 (v := 0) dX5_bitsOfDouble_10 (rfl : _ = 11) (by decide) ?_
  refine V_istore Y.1 (ls' := [(4, _), (2, _), (0, _)]) dX5_bitsOfDouble_11 (rfl : _ = 13) (by decide) rfl ?_
  refine V_iconst Y.1 (v := 0) dX5_bitsOfDouble_13 (rfl : _ = 14) (by decide) ?_
  refine V_istore Y.1 (ls' := [(5, _), (4, _), (2, _), (0, _)]) dX5_bitsOfDouble_14 (rfl : _ = 16) (by decide) rfl ?_
  exact V_forget (ls' := [(5, _), (4, _), (2, _), (0, _)]) [0, 1, 2, 3] rfl (by have g9 := lp1 (E - 1023) 0 E (by omega) (by omega) h1 (by omega) h2; rw [Int32.sub_self] at g9; exact g9)

set_option maxRecDepth 100000 in
set_option maxHeartbeats 4000000 in
theorem c_X5_bitsOfDouble_z (l : Launch) (D : va_G) (kA : Nat → ClassId) (H0 : Heap)   : Ct l D kA yX5_bitsOfDouble cX5_bitsOfDouble 7 (some .long) 0 0 0 0 H0 [.double 0] (nof) (pL fun v9 H => v9 = 0 ∧ H = H0) := by
  refine Ct.of mi_X5_bitsOfDouble (Nat.le_of_ble_eq_true rfl) (ls0 := [(0, _)]) rfl ?_
  intro Pp Ee Ss Mm Ar Bl Me Cc Y hsH hnm
  have sz : H0.size = H0.size := rfl
  refine V_dload_n Y.1 0 dX5_bitsOfDouble_0 (rfl : _ = 1) rfl rfl ?_
  refine V_dconst0 Y.1 dX5_bitsOfDouble_1 (rfl : _ = 2) ?_
  refine V_dcmp Y.1 dX5_bitsOfDouble_2 (rfl : _ = 3) ?_
  refine V_if_gt Y.1 (tgt := 8) dX5_bitsOfDouble_3 (by decide) (rfl : _ = 6) (fun c_n => absurd c_n (by decide +kernel)) (fun _ => ?_)
  refine V_lconst Y.1 (v := 0) dX5_bitsOfDouble_6 (rfl : _ = 7) (by decide) ?_
  exact V_retL Y.1 dX5_bitsOfDouble_7 (Nat.le_of_ble_eq_true rfl) (Nat.le_of_ble_eq_true rfl) ⟨rfl, rfl⟩
