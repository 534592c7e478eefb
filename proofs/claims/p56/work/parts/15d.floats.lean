/-! Positive normal doubles and floats by exponent and fraction. -/
def mkD (E T : Nat) : UInt64 := UInt64.ofNat (E * 4503599627370496 + T)
theorem mkD_nat {E T : Nat} (hE : E < 2048) (hT : T < 4503599627370496) : (mkD E T).toNat = E * 4503599627370496 + T := UInt64.toNat_ofNat_of_lt' (by show _ < 2 ^ 64; omega)
theorem mkD_val {E T : Nat} (h1 : 1 ≤ E) (h2 : E < 2047) (hT : T < 4503599627370496) : FP.Core.val64 (mkD E T) = .fin false (4503599627370496 + T) ((E : Int) - 1075) := by
  have hn := mkD_nat (E := E) (T := T) (by omega) hT
  have e0 : FP.Core.Fmt.exps FP.Core.b64 = 2048 := by decide
  have e1 : FP.Core.fieldE FP.Core.b64 (E * 4503599627370496 + T) = E := by
    show (E * 4503599627370496 + T) / FP.Core.Fmt.tails FP.Core.b64 % FP.Core.Fmt.exps FP.Core.b64 = E
    rw [FP.Core.tails_b64, e0]; omega
  have e2 : FP.Core.fieldT FP.Core.b64 (E * 4503599627370496 + T) = T := by
    show (E * 4503599627370496 + T) % FP.Core.Fmt.tails FP.Core.b64 = T
    rw [FP.Core.tails_b64]; omega
  have e3 : FP.Core.fieldS FP.Core.b64 (E * 4503599627370496 + T) = false := by
    show ((E * 4503599627370496 + T) / FP.Core.Fmt.tails FP.Core.b64 / FP.Core.Fmt.exps FP.Core.b64 % 2 == 1) = false
    rw [FP.Core.tails_b64, e0, show (E * 4503599627370496 + T) / 2 ^ 52 / 2048 % 2 = 0 by omega]; rfl
  unfold FP.Core.val64 FP.Core.decode
  rw [hn, e1, e2, e3, if_neg (by rw [e0]; omega), if_neg (by omega), FP.Core.tails_b64, FP.Core.qmin_b64]
  congr 1
  omega
theorem mkD_ne {E T : Nat} (h1 : 1 ≤ E) (h2 : E < 2047) (hT : T < 4503599627370496) : FP.Core.val64 (mkD E T) ≠ .nan := by rw [mkD_val h1 h2 hT]; exact FP.Core.Datum.noConfusion
theorem mkD_fits {E T : Nat} (h1 : 1 ≤ E) (h2 : E < 2047) (hT : T < 4503599627370496) : FP.Core.fits FP.Core.b64 (.fin false (4503599627370496 + T) ((E : Int) - 1075)) := mkD_val h1 h2 hT ▸ FP.Core.val64_fits _
theorem mkD_of {x : UInt64} (h1 : 4503599627370496 ≤ x.toNat) (h2 : x.toNat < 2047 * 4503599627370496) : x = mkD (x.toNat / 4503599627370496) (x.toNat % 4503599627370496) := by
  apply UInt64.toNat.inj
  rw [mkD_nat (by omega) (by omega)]
  omega
theorem mkD_vf {E T : Nat} (h2 : E < 2047) (hT : T < 4503599627370496) : vf_n64 (mkD E T) := fl_vf64 (by rw [mkD_nat (by omega) hT]; omega)
theorem val_twoD : FP.Core.val64 4611686018427387904 = .fin false 4503599627370496 (-51) := by decide +kernel
theorem val_oneD : FP.Core.val64 4607182418800017408 = .fin false 4503599627370496 (-52) := by decide +kernel
theorem mkD_dbl {E T : Nat} (h1 : 1 ≤ E) (h2 : E + 1 < 2047) (hT : T < 4503599627370496) : FP.dmul (mkD E T) 4611686018427387904 = mkD (E + 1) T := by
  refine (FP.Core.val64_inj (mkD_ne (by omega) h2 hT) ?_).symm
  refine Eq.trans ?_ (FP.Core.val64_dmul _ _).symm
  rw [mkD_val (by omega) h2 hT, mkD_val h1 (by omega) hT, val_twoD]
  refine (FP.Core.roundRatio_exact FP.Core.good_b64 (by decide) (mkD_fits (by omega) h2 hT) ?_).symm
  rw [show ((E : Int) - 1075 + -51 - (((E + 1 : Nat) : Int) - 1075)).toNat = 0 by omega, show (((E + 1 : Nat) : Int) - 1075 - ((E : Int) - 1075 + -51)).toNat = 52 by omega]
  omega
theorem mkD_half {E T : Nat} (h1 : 1 ≤ E) (h2 : E + 1 < 2047) (hT : T < 4503599627370496) : FP.ddiv (mkD (E + 1) T) 4611686018427387904 = mkD E T := by
  refine (FP.Core.val64_inj (mkD_ne h1 (by omega) hT) ?_).symm
  refine Eq.trans ?_ (FP.Core.val64_ddiv _ _).symm
  rw [mkD_val (by omega) h2 hT, mkD_val h1 (by omega) hT, val_twoD]
  refine (FP.Core.roundRatio_exact FP.Core.good_b64 (by decide) (mkD_fits h1 (by omega) hT) ?_).symm
  rw [show (((E + 1 : Nat) : Int) - 1075 - (-51) - ((E : Int) - 1075)).toNat = 52 by omega, show ((E : Int) - 1075 - (((E + 1 : Nat) : Int) - 1075 - (-51))).toNat = 0 by omega]
  omega
theorem mkD_cmp {E T E1 T1 : Nat} (h1 : 1 ≤ E) (h2 : E < 2047) (hT : T < 4503599627370496) (g1 : 1 ≤ E1) (g2 : E1 < 2047) (gT : T1 < 4503599627370496) : (FP.dcmp (mkD E T) (mkD E1 T1) = some .lt ↔ E * 4503599627370496 + T < E1 * 4503599627370496 + T1) ∧ (FP.dcmp (mkD E T) (mkD E1 T1) = some .eq ↔ E * 4503599627370496 + T = E1 * 4503599627370496 + T1) ∧ (FP.dcmp (mkD E T) (mkD E1 T1) = some .gt ↔ E1 * 4503599627370496 + T1 < E * 4503599627370496 + T) := by
  have a := mkD_nat (E := E) (T := T) (by omega) hT
  have b := mkD_nat (E := E1) (T := T1) (by omega) gT
  have m := FP.Core.mono_bits (mkD_ne h1 h2 hT) (mkD_ne g1 g2 gT) (by rw [a]; omega) (by rw [b]; omega)
  rw [a, b] at m
  exact m
theorem mkD_two : (4611686018427387904 : UInt64) = mkD 1024 0 := by decide
theorem mkD_one : (4607182418800017408 : UInt64) = mkD 1023 0 := by decide
theorem vf_of64 {a : UInt64} (h : FP.Core.val64 a ≠ .nan) : vf_n64 a := by
  rw [FP.Core.ne_nan] at h
  unfold vf_n64
  rw [UInt64.le_iff_toNat_le, UInt64.toNat_and]
  have e : (0x7fffffffffffffff : UInt64).toNat = 2 ^ 63 - 1 := by decide
  rw [e, Nat.and_two_pow_sub_one_eq_mod]
  exact h
theorem val_kD : FP.Core.val64 4841369599423283200 = .fin false 4503599627370496 0 := by decide +kernel
theorem mkD_frac {T : Nat} (hT : T < 4503599627370496) : vf_n64 (FP.dsub (mkD 1023 T) 4607182418800017408) ∧ vf_n64 (FP.dmul (FP.dsub (mkD 1023 T) 4607182418800017408) 4841369599423283200) ∧ FP.d2l (FP.dmul (FP.dsub (mkD 1023 T) 4607182418800017408) 4841369599423283200) = Int64.ofNat T := by
  have v1 := FP.Core.val64_dsub (mkD 1023 T) 4607182418800017408
  rw [mkD_val (by decide) (by decide) hT, val_oneD] at v1
  have s1 : FP.Core.exactSum (.fin false (4503599627370496 + T) (((1023 : Nat) : Int) - 1075)) (FP.Core.negate (.fin false 4503599627370496 (-52))) = .fin false T (-52) := by
    show FP.Core.Datum.fin (FP.Core.sumSign false true (FP.Core.sumUnits false (4503599627370496 + T) (-52) true 4503599627370496 (-52) (-52))) (FP.Core.sumUnits false (4503599627370496 + T) (-52) true 4503599627370496 (-52) (-52)).natAbs (-52) = _
    have e : FP.Core.sumUnits false (4503599627370496 + T) (-52) true 4503599627370496 (-52) (-52) = (T : Int) := by
      show (((4503599627370496 + T) * 2 ^ 0 : Nat) : Int) + -(((4503599627370496 * 2 ^ 0 : Nat) : Int)) = (T : Int)
      omega
    rw [e]
    have e2 : FP.Core.sumSign false true (T : Int) = false := by
      unfold FP.Core.sumSign
      by_cases z : (T : Int) = 0
      · rw [if_pos z]; rfl
      · rw [if_neg z]; exact decide_eq_false (by omega)
    rw [e2]; rfl
  rw [s1] at v1
  obtain ⟨c, q, hr, hu⟩ := FP.Core.round_exact FP.Core.good_b64 false (c := T) (q := -52) (show T < 2 ^ 53 by omega) (by decide) (by decide)
  have hf := FP.Core.round_fits FP.Core.good_b64 (.fin false T (-52))
  rw [hr] at v1 hf
  have hq : FP.Core.Fmt.qmin FP.Core.b64 ≤ q := hf.2.1
  rw [FP.Core.qmin_b64] at hq hu
  have v2 := FP.Core.val64_dmul (FP.dsub (mkD 1023 T) 4607182418800017408) 4841369599423283200
  rw [show FP.Core.val64 (FP.dsub (mkD 1023 T) 4607182418800017408) = .fin false c q from v1, val_kD] at v2
  have w1 : FP.Core.Whole (T : Int) (FP.Core.exactProduct (.fin false c q) (.fin false 4503599627370496 0)) := by
    show ((c * 4503599627370496 * 2 ^ (q + 0).toNat : Nat) : Int) = (T : Int) * ((2 ^ (-(q + 0)).toNat : Nat) : Int)
    rw [Int.add_zero, ← Int.natCast_mul]
    congr 1
    have hu : c * 2 ^ (q - (-1074)).toNat = T * 2 ^ (-52 - (-1074)).toNat := hu
    rw [show ((-52 : Int) - (-1074)).toNat = 1022 by decide] at hu
    apply Nat.eq_of_mul_eq_mul_right (Nat.two_pow_pos (1022 + (-q).toNat))
    have k1 : (q - (-1074)).toNat + ((-q).toNat + (-q).toNat) = 52 + q.toNat + (1022 + (-q).toNat) := by omega
    calc c * 4503599627370496 * 2 ^ q.toNat * 2 ^ (1022 + (-q).toNat) = c * 2 ^ (52 + q.toNat + (1022 + (-q).toNat)) := by
          rw [show (4503599627370496 : Nat) = 2 ^ 52 from by decide, Nat.mul_assoc, Nat.mul_assoc, ← Nat.pow_add, ← Nat.pow_add, Nat.add_assoc]
      _ = c * 2 ^ (q - (-1074)).toNat * 2 ^ ((-q).toNat + (-q).toNat) := by rw [← k1, Nat.pow_add, Nat.mul_assoc]
      _ = T * 2 ^ 1022 * 2 ^ ((-q).toNat + (-q).toNat) := by rw [hu]
      _ = T * 2 ^ (-q).toNat * 2 ^ (1022 + (-q).toNat) := by
          rw [Nat.mul_assoc, Nat.mul_assoc, ← Nat.pow_add, ← Nat.pow_add]
          congr 2
          omega
  have w2 : FP.Core.Whole (T : Int) (FP.Core.val64 (FP.dmul (FP.dsub (mkD 1023 T) 4607182418800017408) 4841369599423283200)) := by
    have e : FP.Core.val64 (FP.dmul (FP.dsub (mkD 1023 T) 4607182418800017408) 4841369599423283200) = _ := v2
    rw [e]
    exact FP.Core.whole_round FP.Core.good_b64 FP.Core.wide_b64 (by show T ≤ 2 ^ 53; omega) w1
  refine ⟨vf_of64 (by rw [show FP.Core.val64 (FP.dsub (mkD 1023 T) 4607182418800017408) = .fin false c q from v1]; exact FP.Core.Datum.noConfusion), vf_of64 w2.ne_nan, ?_⟩
  exact FP.Core.d2l_int (a := Int64.ofNat T) (by rw [show (Int64.ofNat T).toInt = (T : Int) from Int64.toInt_ofNat_of_lt (by show _ < 2 ^ 63; omega)]; exact w2)
def mkF (E T : Nat) : UInt32 := UInt32.ofNat (E * 8388608 + T)
theorem mkF_nat {E T : Nat} (hE : E < 256) (hT : T < 8388608) : (mkF E T).toNat = E * 8388608 + T := UInt32.toNat_ofNat_of_lt' (by show _ < 2 ^ 32; omega)
theorem mkF_val {E T : Nat} (h1 : 1 ≤ E) (h2 : E < 255) (hT : T < 8388608) : FP.Core.val32 (mkF E T) = .fin false (8388608 + T) ((E : Int) - 150) := by
  have hn := mkF_nat (E := E) (T := T) (by omega) hT
  have e0 : FP.Core.Fmt.exps FP.Core.b32 = 256 := by decide
  have e1 : FP.Core.fieldE FP.Core.b32 (E * 8388608 + T) = E := by
    show (E * 8388608 + T) / FP.Core.Fmt.tails FP.Core.b32 % FP.Core.Fmt.exps FP.Core.b32 = E
    rw [FP.Core.tails_b32, e0]; omega
  have e2 : FP.Core.fieldT FP.Core.b32 (E * 8388608 + T) = T := by
    show (E * 8388608 + T) % FP.Core.Fmt.tails FP.Core.b32 = T
    rw [FP.Core.tails_b32]; omega
  have e3 : FP.Core.fieldS FP.Core.b32 (E * 8388608 + T) = false := by
    show ((E * 8388608 + T) / FP.Core.Fmt.tails FP.Core.b32 / FP.Core.Fmt.exps FP.Core.b32 % 2 == 1) = false
    rw [FP.Core.tails_b32, e0, show (E * 8388608 + T) / 2 ^ 23 / 256 % 2 = 0 by omega]; rfl
  unfold FP.Core.val32 FP.Core.decode
  rw [hn, e1, e2, e3, if_neg (by rw [e0]; omega), if_neg (by omega), FP.Core.tails_b32, FP.Core.qmin_b32]
  congr 1
  omega
theorem mkF_ne {E T : Nat} (h1 : 1 ≤ E) (h2 : E < 255) (hT : T < 8388608) : FP.Core.val32 (mkF E T) ≠ .nan := by rw [mkF_val h1 h2 hT]; exact FP.Core.Datum.noConfusion
theorem mkF_fits {E T : Nat} (h1 : 1 ≤ E) (h2 : E < 255) (hT : T < 8388608) : FP.Core.fits FP.Core.b32 (.fin false (8388608 + T) ((E : Int) - 150)) := mkF_val h1 h2 hT ▸ FP.Core.val32_fits _
theorem mkF_of {x : UInt32} (h1 : 8388608 ≤ x.toNat) (h2 : x.toNat < 255 * 8388608) : x = mkF (x.toNat / 8388608) (x.toNat % 8388608) := by
  apply UInt32.toNat.inj
  rw [mkF_nat (by omega) (by omega)]
  omega
theorem mkF_vf {E T : Nat} (h2 : E < 255) (hT : T < 8388608) : vf_n32 (mkF E T) := fl_vf32 (by rw [mkF_nat (by omega) hT]; omega)
theorem val_twoF : FP.Core.val32 1073741824 = .fin false 8388608 (-22) := by decide +kernel
theorem val_oneF : FP.Core.val32 1065353216 = .fin false 8388608 (-23) := by decide +kernel
theorem mkF_dbl {E T : Nat} (h1 : 1 ≤ E) (h2 : E + 1 < 255) (hT : T < 8388608) : FP.fmul (mkF E T) 1073741824 = mkF (E + 1) T := by
  refine (FP.Core.val32_inj (mkF_ne (by omega) h2 hT) ?_).symm
  refine Eq.trans ?_ (FP.Core.val32_fmul _ _).symm
  rw [mkF_val (by omega) h2 hT, mkF_val h1 (by omega) hT, val_twoF]
  refine (FP.Core.roundRatio_exact FP.Core.good_b32 (by decide) (mkF_fits (by omega) h2 hT) ?_).symm
  rw [show ((E : Int) - 150 + -22 - (((E + 1 : Nat) : Int) - 150)).toNat = 0 by omega, show (((E + 1 : Nat) : Int) - 150 - ((E : Int) - 150 + -22)).toNat = 23 by omega]
  omega
theorem mkF_half {E T : Nat} (h1 : 1 ≤ E) (h2 : E + 1 < 255) (hT : T < 8388608) : FP.fdiv (mkF (E + 1) T) 1073741824 = mkF E T := by
  refine (FP.Core.val32_inj (mkF_ne h1 (by omega) hT) ?_).symm
  refine Eq.trans ?_ (FP.Core.val32_fdiv _ _).symm
  rw [mkF_val (by omega) h2 hT, mkF_val h1 (by omega) hT, val_twoF]
  refine (FP.Core.roundRatio_exact FP.Core.good_b32 (by decide) (mkF_fits h1 (by omega) hT) ?_).symm
  rw [show (((E + 1 : Nat) : Int) - 150 - (-22) - ((E : Int) - 150)).toNat = 23 by omega, show ((E : Int) - 150 - (((E + 1 : Nat) : Int) - 150 - (-22))).toNat = 0 by omega]
  omega
theorem mkF_cmp {E T E1 T1 : Nat} (h1 : 1 ≤ E) (h2 : E < 255) (hT : T < 8388608) (g1 : 1 ≤ E1) (g2 : E1 < 255) (gT : T1 < 8388608) : (FP.fcmp (mkF E T) (mkF E1 T1) = some .lt ↔ E * 8388608 + T < E1 * 8388608 + T1) ∧ (FP.fcmp (mkF E T) (mkF E1 T1) = some .eq ↔ E * 8388608 + T = E1 * 8388608 + T1) ∧ (FP.fcmp (mkF E T) (mkF E1 T1) = some .gt ↔ E1 * 8388608 + T1 < E * 8388608 + T) := by
  have a := mkF_nat (E := E) (T := T) (by omega) hT
  have b := mkF_nat (E := E1) (T := T1) (by omega) gT
  have m := FP.Core.mono_bits32 (mkF_ne h1 h2 hT) (mkF_ne g1 g2 gT) (by rw [a]; omega) (by rw [b]; omega)
  rw [a, b] at m
  exact m
theorem mkF_two : (1073741824 : UInt32) = mkF 128 0 := by decide
theorem mkF_one : (1065353216 : UInt32) = mkF 127 0 := by decide
theorem vf_of32 {a : UInt32} (h : FP.Core.val32 a ≠ .nan) : vf_n32 a := by
  rw [FP.Core.ne_nan32] at h
  unfold vf_n32
  rw [UInt32.le_iff_toNat_le, UInt32.toNat_and]
  have e : (0x7fffffff : UInt32).toNat = 2 ^ 31 - 1 := by decide
  rw [e, Nat.and_two_pow_sub_one_eq_mod]
  exact h
theorem val_kF : FP.Core.val32 1258291200 = .fin false 8388608 0 := by decide +kernel
theorem mkF_frac {T : Nat} (hT : T < 8388608) : vf_n32 (FP.fsub (mkF 127 T) 1065353216) ∧ vf_n32 (FP.fmul (FP.fsub (mkF 127 T) 1065353216) 1258291200) ∧ FP.f2i (FP.fmul (FP.fsub (mkF 127 T) 1065353216) 1258291200) = nI T := by
  have v1 := FP.Core.val32_fsub (mkF 127 T) 1065353216
  rw [mkF_val (by decide) (by decide) hT, val_oneF] at v1
  have s1 : FP.Core.exactSum (.fin false (8388608 + T) (((127 : Nat) : Int) - 150)) (FP.Core.negate (.fin false 8388608 (-23))) = .fin false T (-23) := by
    show FP.Core.Datum.fin (FP.Core.sumSign false true (FP.Core.sumUnits false (8388608 + T) (-23) true 8388608 (-23) (-23))) (FP.Core.sumUnits false (8388608 + T) (-23) true 8388608 (-23) (-23)).natAbs (-23) = _
    have e : FP.Core.sumUnits false (8388608 + T) (-23) true 8388608 (-23) (-23) = (T : Int) := by
      show (((8388608 + T) * 2 ^ 0 : Nat) : Int) + -(((8388608 * 2 ^ 0 : Nat) : Int)) = (T : Int)
      omega
    rw [e]
    have e2 : FP.Core.sumSign false true (T : Int) = false := by
      unfold FP.Core.sumSign
      by_cases z : (T : Int) = 0
      · rw [if_pos z]; rfl
      · rw [if_neg z]; exact decide_eq_false (by omega)
    rw [e2]; rfl
  rw [s1] at v1
  obtain ⟨c, q, hr, hu⟩ := FP.Core.round_exact FP.Core.good_b32 false (c := T) (q := -23) (show T < 2 ^ 24 by omega) (by decide) (by decide)
  have hf := FP.Core.round_fits FP.Core.good_b32 (.fin false T (-23))
  rw [hr] at v1 hf
  have hq : FP.Core.Fmt.qmin FP.Core.b32 ≤ q := hf.2.1
  rw [FP.Core.qmin_b32] at hq hu
  have v2 := FP.Core.val32_fmul (FP.fsub (mkF 127 T) 1065353216) 1258291200
  rw [show FP.Core.val32 (FP.fsub (mkF 127 T) 1065353216) = .fin false c q from v1, val_kF] at v2
  have w1 : FP.Core.Whole (T : Int) (FP.Core.exactProduct (.fin false c q) (.fin false 8388608 0)) := by
    show ((c * 8388608 * 2 ^ (q + 0).toNat : Nat) : Int) = (T : Int) * ((2 ^ (-(q + 0)).toNat : Nat) : Int)
    rw [Int.add_zero, ← Int.natCast_mul]
    congr 1
    have hu : c * 2 ^ (q - (-149)).toNat = T * 2 ^ (-23 - (-149)).toNat := hu
    rw [show ((-23 : Int) - (-149)).toNat = 126 by decide] at hu
    apply Nat.eq_of_mul_eq_mul_right (Nat.two_pow_pos (126 + (-q).toNat))
    have k1 : (q - (-149)).toNat + ((-q).toNat + (-q).toNat) = 23 + q.toNat + (126 + (-q).toNat) := by omega
    calc c * 8388608 * 2 ^ q.toNat * 2 ^ (126 + (-q).toNat) = c * 2 ^ (23 + q.toNat + (126 + (-q).toNat)) := by
          rw [show (8388608 : Nat) = 2 ^ 23 from by decide, Nat.mul_assoc, Nat.mul_assoc, ← Nat.pow_add, ← Nat.pow_add, Nat.add_assoc]
      _ = c * 2 ^ (q - (-149)).toNat * 2 ^ ((-q).toNat + (-q).toNat) := by rw [← k1, Nat.pow_add, Nat.mul_assoc]
      _ = T * 2 ^ 126 * 2 ^ ((-q).toNat + (-q).toNat) := by rw [hu]
      _ = T * 2 ^ (-q).toNat * 2 ^ (126 + (-q).toNat) := by
          rw [Nat.mul_assoc, Nat.mul_assoc, ← Nat.pow_add, ← Nat.pow_add]
          congr 2
          omega
  have w2 : FP.Core.Whole (T : Int) (FP.Core.val32 (FP.fmul (FP.fsub (mkF 127 T) 1065353216) 1258291200)) := by
    have e : FP.Core.val32 (FP.fmul (FP.fsub (mkF 127 T) 1065353216) 1258291200) = _ := v2
    rw [e]
    exact FP.Core.whole_round FP.Core.good_b32 FP.Core.wide_b32 (by show T ≤ 2 ^ 24; omega) w1
  refine ⟨vf_of32 (by rw [show FP.Core.val32 (FP.fsub (mkF 127 T) 1065353216) = .fin false c q from v1]; exact FP.Core.Datum.noConfusion), vf_of32 w2.ne_nan, ?_⟩
  exact FP.Core.f2i_int (a := nI T) (by rw [show (nI T).toInt = (T : Int) from nI_toInt (by omega)]; exact w2)
