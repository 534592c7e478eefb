/-! Quotients of small whole numbers. -/
theorem i2D_val {a : Nat} (ha : a ≤ 2147483647) : ∃ c q, FP.Core.val64 (FP.i2d (nI a)) = .fin false c q ∧ a * 2 ^ (-q).toNat = c * 2 ^ q.toNat := by
  obtain ⟨c, q, hf, hv⟩ := FP.Core.natFit FP.Core.good_b64 FP.Core.wide_b64 false (n := a) (show a ≤ 2 ^ 53 by omega)
  refine ⟨c, q, ?_, ?_⟩
  · refine Eq.trans (FP.Core.val64_i2d _) ?_
    rw [nI_toInt (by omega)]
    have e : FP.Core.ofInt (a : Int) = .fin false a 0 := by
      unfold FP.Core.ofInt
      rw [decide_eq_false (by omega), Int.natAbs_natCast]
    rw [e]
    exact FP.Core.roundRatio_exact FP.Core.good_b64 (by decide) hf hv
  · rw [show (0 - q).toNat = (-q).toNat by omega, show (q - 0).toNat = q.toNat by omega, Nat.mul_one] at hv
    exact hv
theorem quoD {a m : Nat} (ha : a ≤ 2147483647) (hm : m ≤ 2147483647) (h0 : 0 < m) : FP.Core.val64 (FP.ddiv (FP.i2d (nI a)) (FP.i2d (nI m))) = FP.Core.roundRatio FP.Core.b64 false a m 0 := by
  obtain ⟨c, q, v1, w1⟩ := i2D_val ha
  obtain ⟨d, r, v2, w2⟩ := i2D_val hm
  have hd : d ≠ 0 := fun e => by
    rw [e, Nat.zero_mul] at w2
    have := Nat.mul_pos h0 (Nat.two_pow_pos (-r).toNat)
    omega
  refine Eq.trans (FP.Core.val64_ddiv _ _) ?_
  refine Eq.trans (congr (congrArg (FP.Core.quotient FP.Core.b64) v1) v2) ?_
  show (if d = 0 then _ else FP.Core.roundRatio FP.Core.b64 (false != false) c d (q - r)) = _
  rw [if_neg hd]
  refine FP.Core.roundRatio_congr (by omega) h0 ?_
  apply Nat.eq_of_mul_eq_mul_right (Nat.two_pow_pos (q.toNat + (-r).toNat))
  have k : (-q).toNat + r.toNat + (q - r - 0).toNat = (0 - (q - r)).toNat + (q.toNat + (-r).toNat) := by omega
  calc c * m * 2 ^ (q - r - 0).toNat * 2 ^ (q.toNat + (-r).toNat) = (c * 2 ^ q.toNat) * (m * 2 ^ (-r).toNat) * 2 ^ (q - r - 0).toNat := by rw [Nat.pow_add]; ac_rfl
    _ = a * d * 2 ^ ((-q).toNat + r.toNat + (q - r - 0).toNat) := by rw [← w1, w2, Nat.pow_add, Nat.pow_add]; ac_rfl
    _ = a * d * 2 ^ (0 - (q - r)).toNat * 2 ^ (q.toNat + (-r).toNat) := by rw [k, Nat.pow_add]; ac_rfl
theorem quoD_0 {m : Nat} (hm : m ≤ 2147483647) (h0 : 0 < m) : FP.ddiv (FP.i2d (nI 0)) (FP.i2d (nI m)) = 0 := by
  have e := quoD (a := 0) (by decide) hm h0
  have e2 : FP.Core.roundRatio FP.Core.b64 false 0 m 0 = .fin false 0 (FP.Core.Fmt.qmin FP.Core.b64) := rfl
  refine (FP.Core.val64_inj (a := 0) (by rw [FP.Core.val64_zero]; exact FP.Core.Datum.noConfusion) ?_).symm
  rw [e, FP.Core.val64_zero]
  rfl
theorem quoD_mk {a m : Nat} (ha : a ≤ 2147483647) (hm : m ≤ 2147483647) (h1 : 0 < a) (h0 : 0 < m) : ∃ E T, 1 ≤ E ∧ E < 2047 ∧ T < 4503599627370496 ∧ FP.ddiv (FP.i2d (nI a)) (FP.i2d (nI m)) = mkD E T := by
  have e := quoD ha hm h0
  generalize FP.ddiv (FP.i2d (nI a)) (FP.i2d (nI m)) = x at e
  have hn : FP.Core.val64 x ≠ .nan := by rw [e]; exact FP.Core.roundRatio_ne_nan _ _ _ _ _
  have sg := FP.Core.sgn_bits hn
  rw [e, FP.Core.sgn_roundRatio] at sg
  have hs : x.toNat < 2 ^ 63 := by
    have := of_decide_eq_false sg.symm
    omega
  have lo := FP.Core.mag_ge FP.Core.good_b64 (n := x.toNat) (m := 992 * 4503599627370496) e h0 (Int.le_refl _) (by decide) (by decide) (by
    have u := FP.Core.unitsOf_start (f := FP.Core.b64) (K := 992) (by decide)
    rw [FP.Core.tails_b64] at u
    rw [show (992 * 4503599627370496 : Nat) = 992 * 2 ^ 52 from by decide, u]
    unfold FP.Core.inUnits
    rw [Int.sub_self, FP.Core.qmin_b64, show ((0 : Int) - (-1074)).toNat = 1074 from by decide, show (0 : Int).toNat = 0 from rfl, ← Nat.pow_add, Nat.pow_zero, Nat.mul_one]
    calc 2 ^ (52 + (992 - 1)) * m ≤ 2 ^ (52 + (992 - 1)) * 2 ^ 31 := Nat.mul_le_mul_left _ (Nat.le_trans hm (by decide))
      _ = 2 ^ 1074 := by rw [← Nat.pow_add]
      _ = 1 * 2 ^ 1074 := (Nat.one_mul _).symm
      _ ≤ a * 2 ^ 1074 := Nat.mul_le_mul_right _ h1)
  have hi := FP.Core.mag_le FP.Core.good_b64 (n := x.toNat) (m := 1054 * 4503599627370496) e h0 (Int.le_refl _) (by decide) (by
    have u := FP.Core.unitsOf_start (f := FP.Core.b64) (K := 1054) (by decide)
    rw [FP.Core.tails_b64] at u
    rw [show (1054 * 4503599627370496 : Nat) = 1054 * 2 ^ 52 from by decide, u]
    unfold FP.Core.inUnits
    rw [Int.sub_self, FP.Core.qmin_b64, show ((0 : Int) - (-1074)).toNat = 1074 from by decide, show (0 : Int).toNat = 0 from rfl, ← Nat.pow_add, Nat.pow_zero, Nat.mul_one]
    calc a * 2 ^ 1074 ≤ 2 ^ 31 * 2 ^ 1074 := Nat.mul_le_mul_right _ (Nat.le_trans ha (by decide))
      _ = 2 ^ (52 + (1054 - 1)) := by rw [← Nat.pow_add]
      _ = 2 ^ (52 + (1054 - 1)) * 1 := (Nat.mul_one _).symm
      _ ≤ 2 ^ (52 + (1054 - 1)) * m := Nat.mul_le_mul_left _ h0)
  rw [FP.Core.mag_toNat64, Nat.mod_eq_of_lt hs] at lo hi
  exact ⟨x.toNat / 4503599627370496, x.toNat % 4503599627370496, by omega, by omega, Nat.mod_lt _ (by decide), mkD_of (by omega) (by omega)⟩
theorem i2F_val {a : Nat} (ha : a ≤ 16777215) : ∃ c q, FP.Core.val32 (FP.i2f (nI a)) = .fin false c q ∧ a * 2 ^ (-q).toNat = c * 2 ^ q.toNat := by
  obtain ⟨c, q, hf, hv⟩ := FP.Core.natFit FP.Core.good_b32 FP.Core.wide_b32 false (n := a) (show a ≤ 2 ^ 24 by omega)
  refine ⟨c, q, ?_, ?_⟩
  · refine Eq.trans (FP.Core.val32_i2f _) ?_
    rw [nI_toInt (by omega)]
    have e : FP.Core.ofInt (a : Int) = .fin false a 0 := by
      unfold FP.Core.ofInt
      rw [decide_eq_false (by omega), Int.natAbs_natCast]
    rw [e]
    exact FP.Core.roundRatio_exact FP.Core.good_b32 (by decide) hf hv
  · rw [show (0 - q).toNat = (-q).toNat by omega, show (q - 0).toNat = q.toNat by omega, Nat.mul_one] at hv
    exact hv
theorem quoF {a m : Nat} (ha : a ≤ 16777215) (hm : m ≤ 16777215) (h0 : 0 < m) : FP.Core.val32 (FP.fdiv (FP.i2f (nI a)) (FP.i2f (nI m))) = FP.Core.roundRatio FP.Core.b32 false a m 0 := by
  obtain ⟨c, q, v1, w1⟩ := i2F_val ha
  obtain ⟨d, r, v2, w2⟩ := i2F_val hm
  have hd : d ≠ 0 := fun e => by
    rw [e, Nat.zero_mul] at w2
    have := Nat.mul_pos h0 (Nat.two_pow_pos (-r).toNat)
    omega
  refine Eq.trans (FP.Core.val32_fdiv _ _) ?_
  refine Eq.trans (congr (congrArg (FP.Core.quotient FP.Core.b32) v1) v2) ?_
  show (if d = 0 then _ else FP.Core.roundRatio FP.Core.b32 (false != false) c d (q - r)) = _
  rw [if_neg hd]
  refine FP.Core.roundRatio_congr (by omega) h0 ?_
  apply Nat.eq_of_mul_eq_mul_right (Nat.two_pow_pos (q.toNat + (-r).toNat))
  have k : (-q).toNat + r.toNat + (q - r - 0).toNat = (0 - (q - r)).toNat + (q.toNat + (-r).toNat) := by omega
  calc c * m * 2 ^ (q - r - 0).toNat * 2 ^ (q.toNat + (-r).toNat) = (c * 2 ^ q.toNat) * (m * 2 ^ (-r).toNat) * 2 ^ (q - r - 0).toNat := by rw [Nat.pow_add]; ac_rfl
    _ = a * d * 2 ^ ((-q).toNat + r.toNat + (q - r - 0).toNat) := by rw [← w1, w2, Nat.pow_add, Nat.pow_add]; ac_rfl
    _ = a * d * 2 ^ (0 - (q - r)).toNat * 2 ^ (q.toNat + (-r).toNat) := by rw [k, Nat.pow_add]; ac_rfl
theorem quoF_0 {m : Nat} (hm : m ≤ 16777215) (h0 : 0 < m) : FP.fdiv (FP.i2f (nI 0)) (FP.i2f (nI m)) = 0 := by
  have e := quoF (a := 0) (by decide) hm h0
  have e2 : FP.Core.roundRatio FP.Core.b32 false 0 m 0 = .fin false 0 (FP.Core.Fmt.qmin FP.Core.b32) := rfl
  refine (FP.Core.val32_inj (a := 0) (by rw [FP.Core.val32_zero]; exact FP.Core.Datum.noConfusion) ?_).symm
  rw [e, FP.Core.val32_zero]
  rfl
theorem quoF_mk {a m : Nat} (ha : a ≤ 16777215) (hm : m ≤ 16777215) (h1 : 0 < a) (h0 : 0 < m) (hle : a ≤ m) : ∃ E T, 1 ≤ E ∧ E ≤ 127 ∧ T < 8388608 ∧ FP.fdiv (FP.i2f (nI a)) (FP.i2f (nI m)) = mkF E T := by
  have e := quoF ha hm h0
  generalize FP.fdiv (FP.i2f (nI a)) (FP.i2f (nI m)) = x at e
  have hn : FP.Core.val32 x ≠ .nan := by rw [e]; exact FP.Core.roundRatio_ne_nan _ _ _ _ _
  have sg := FP.Core.sgn_bits32 hn
  rw [e, FP.Core.sgn_roundRatio] at sg
  have hs : x.toNat < 2 ^ 31 := by
    have := of_decide_eq_false sg.symm
    omega
  have lo := FP.Core.mag_ge FP.Core.good_b32 (n := x.toNat) (m := 103 * 8388608) e h0 (Int.le_refl _) (by decide) (by decide) (by
    have u := FP.Core.unitsOf_start (f := FP.Core.b32) (K := 103) (by decide)
    rw [FP.Core.tails_b32] at u
    rw [show (103 * 8388608 : Nat) = 103 * 2 ^ 23 from by decide, u]
    unfold FP.Core.inUnits
    rw [Int.sub_self, FP.Core.qmin_b32, show ((0 : Int) - (-149)).toNat = 149 from by decide, show (0 : Int).toNat = 0 from rfl, ← Nat.pow_add, Nat.pow_zero, Nat.mul_one]
    calc 2 ^ (23 + (103 - 1)) * m ≤ 2 ^ (23 + (103 - 1)) * 2 ^ 24 := Nat.mul_le_mul_left _ (Nat.le_trans hm (by decide))
      _ = 2 ^ 149 := by rw [← Nat.pow_add]
      _ = 1 * 2 ^ 149 := (Nat.one_mul _).symm
      _ ≤ a * 2 ^ 149 := Nat.mul_le_mul_right _ h1)
  have hi := FP.Core.mag_le FP.Core.good_b32 (n := x.toNat) (m := 127 * 8388608) e h0 (Int.le_refl _) (by decide) (by
    have u := FP.Core.unitsOf_start (f := FP.Core.b32) (K := 127) (by decide)
    rw [FP.Core.tails_b32] at u
    rw [show (127 * 8388608 : Nat) = 127 * 2 ^ 23 from by decide, u]
    unfold FP.Core.inUnits
    rw [Int.sub_self, FP.Core.qmin_b32, show ((0 : Int) - (-149)).toNat = 149 from by decide, show (0 : Int).toNat = 0 from rfl, ← Nat.pow_add, Nat.pow_zero, Nat.mul_one]
    rw [Nat.mul_comm]
    exact Nat.mul_le_mul_left _ hle)
  rw [FP.Core.mag_toNat32, Nat.mod_eq_of_lt hs] at lo hi
  exact ⟨x.toNat / 8388608, x.toNat % 8388608, by omega, by omega, Nat.mod_lt _ (by decide), mkF_of (by omega) (by omega)⟩
