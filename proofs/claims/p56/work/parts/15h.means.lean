/-! The means' bits; the law's own methods for them. -/
theorem c_X5_bitsOfDouble_u (l : Launch) (D : va_G) (kA : Nat → ClassId) (H0 : Heap) (x : UInt64) (hx : x = 0 ∨ ∃ E T, 1 ≤ E ∧ E < 2047 ∧ T < 4503599627370496 ∧ x = mkD E T) : Ct l D kA yX5_bitsOfDouble cX5_bitsOfDouble 7 (some .long) 0 0 0 0 H0 [.double x] (nof) (pL fun v9 H => v9 = x.toInt64 ∧ H = H0) := by
  rcases hx with rfl | ⟨E, T, h1, h2, hT, rfl⟩
  · exact c_X5_bitsOfDouble_z l D kA H0
  · exact c_X5_bitsOfDouble l D kA H0 E T h1 h2 hT
theorem c_X5_bitsOfShare_u (l : Launch) (D : va_G) (kA : Nat → ClassId) (H0 : Heap) (x : UInt32) (hx : x = 0 ∨ ∃ E T, 1 ≤ E ∧ E ≤ 127 ∧ T < 8388608 ∧ x = mkF E T) : Ct l D kA yX5_bitsOfShare cX5_bitsOfShare 4 (some .int) 0 0 0 0 H0 [.float x] (nof) (pI fun v9 H => v9 = x.toInt32 ∧ H = H0) := by
  rcases hx with rfl | ⟨E, T, h1, h2, hT, rfl⟩
  · exact c_X5_bitsOfShare_z l D kA H0
  · exact c_X5_bitsOfShare l D kA H0 E T h1 h2 hT
theorem mean_ok {g3 g56 : Int32} {A N : Nat} (hA : g3 = nI A) (hN : g56 = nI N) (hA1 : A ≤ 2147483647) (hN1 : N ≤ 2147483647) (hne : ¬ g56 = 0) : FP.ddiv (FP.i2d g3) (FP.i2d g56) = 0 ∨ ∃ E T, 1 ≤ E ∧ E < 2047 ∧ T < 4503599627370496 ∧ FP.ddiv (FP.i2d g3) (FP.i2d g56) = mkD E T := by
  subst hA hN
  have h0 : 0 < N := Nat.pos_of_ne_zero (fun e => hne (by rw [e]; rfl))
  by_cases z : A = 0
  · subst z; exact Or.inl (quoD_0 hN1 h0)
  · exact Or.inr (quoD_mk hA1 hN1 (Nat.pos_of_ne_zero z) h0)
theorem share_ok {g6 g56 : Int32} {A N : Nat} (hA : g6 = nI A) (hN : g56 = nI N) (hA1 : A ≤ N) (hN1 : N ≤ 16777215) (hne : ¬ g56 = 0) : FP.fdiv (FP.i2f g6) (FP.i2f g56) = 0 ∨ ∃ E T, 1 ≤ E ∧ E ≤ 127 ∧ T < 8388608 ∧ FP.fdiv (FP.i2f g6) (FP.i2f g56) = mkF E T := by
  subst hA hN
  have h0 : 0 < N := Nat.pos_of_ne_zero (fun e => hne (by rw [e]; rfl))
  by_cases z : A = 0
  · subst z; exact Or.inl (quoF_0 hN1 h0)
  · exact Or.inr (quoF_mk (by omega) hN1 (Nat.pos_of_ne_zero z) h0 hA1)
set_option maxRecDepth 100000 in
set_option maxHeartbeats 4000000 in
theorem c_X5_meanChargeBits (l : Launch) (D : va_G) (kA : Nat → ClassId) (Hs : Heap) (σ : SG) (H0 : Heap) (hg : Ag Hs H0) (a : Nat) (W : Nat → MS) (π : Nat → Nat) (ES : Nat → Prop) (u : Nat) (hs ep fc : Int32) (no : Nat) (go : Nat → Int32) (vs cs ns : Nat) (gs : Nat → Int32) (A N : Nat) (hF : Fs D kA H0 a W π ES u hs ep fc no go vs cs ns gs) (hnt : l.stackTraces = false) (hA : (W (π 0)).1 3 = nI A) (hN : (W (π 0)).1 5 + (W (π 0)).1 6 = nI N) (hA1 : A ≤ 2147483647) (hN1 : N ≤ 2147483647) : CtSX l D kA Hs σ yX5_meanChargeBits cX5_meanChargeBits 1 (some .long) 9 141 4 24 H0 [.ref a] (nof) (pL fun v9 H => v9 = (FP.ddiv (FP.i2d ((W (π 0)).1 3)) (FP.i2d ((W (π 0)).1 5 + (W (π 0)).1 6))).toInt64 ∧ H = H0 ∧ ¬ (W (π 0)).1 5 + (W (π 0)).1 6 = 0) (fun E H => E = "java/lang/ArithmeticException" ∧ (W (π 0)).1 5 + (W (π 0)).1 6 = 0) := by
  refine CtSX.of mi_X5_meanChargeBits (by decide +kernel) (Nat.le_of_ble_eq_true rfl) (ls0 := [(0, _)]) rfl hg (fun _ z => z.elim) ?_
  intro Pp Ee Ss Mm Ar Bl Me Cc Z hsH hnm
  have Y := Z.1
  obtain ⟨E0, hE⟩ := hF.now
  refine V_aload_n Y.1 0 dX5_meanChargeBits_0 (rfl : _ = 1) rfl rfl ?_
  refine V_xD Y (sxV Z (c_X5_meanCharge l D kA Hs σ _ hg _ _ _ _ _ _ _ _ _ _ _ _ _ _ hF hnt) mi_X5_meanCharge vi_X5_192 rfl hF.1.1 rfl rfl (Nat.le_of_ble_eq_true rfl) ⟨Nat.le_of_ble_eq_true rfl, Nat.le_of_ble_eq_true rfl⟩ (Nat.le_of_ble_eq_true rfl) (Nat.le_of_ble_eq_true rfl) dX5_meanChargeBits_1) (fun _ z => z.elim) (rfl : _ = 4) (fun E_1 H1_1 hx_1 o_1 => ?_) (fun v_1 H1_1 hq_1 o_1 => ?_)
  · exact VX_out Y.1 hnm (Nat.le_of_ble_eq_true rfl) (Nat.le_of_ble_eq_true rfl) hx_1
  obtain ⟨rfl, rfl, hne9⟩ := hq_1
  refine V_cL Y (rS Y (c_X5_bitsOfDouble_u l D kA _ (FP.ddiv (FP.i2d ((W (π 0)).1 3)) (FP.i2d ((W (π 0)).1 5 + (W (π 0)).1 6))) (mean_ok hA hN hA1 hN1 hne9)) mi_X5_bitsOfDouble si_X5_196 rfl rfl (Nat.le_of_ble_eq_true rfl) ⟨Nat.le_of_ble_eq_true rfl, Nat.le_of_ble_eq_true rfl⟩ (Nat.le_of_ble_eq_true rfl) (Nat.le_of_ble_eq_true rfl) dX5_meanChargeBits_4) (fun _ z => z.elim) (rfl : _ = 7) (fun v_4 H4_4 hq_4 o_4 => ?_)
  obtain ⟨rfl, rfl⟩ := hq_4
  exact V_X (V_retL Y.1 dX5_meanChargeBits_7 (Nat.le_of_ble_eq_true rfl) (Nat.le_of_ble_eq_true rfl) ⟨rfl, rfl, hne9⟩)

set_option maxRecDepth 100000 in
set_option maxHeartbeats 4000000 in
theorem c_X5_incompleteShareBits (l : Launch) (D : va_G) (kA : Nat → ClassId) (Hs : Heap) (σ : SG) (H0 : Heap) (hg : Ag Hs H0) (a : Nat) (W : Nat → MS) (π : Nat → Nat) (ES : Nat → Prop) (u : Nat) (hs ep fc : Int32) (no : Nat) (go : Nat → Int32) (vs cs ns : Nat) (gs : Nat → Int32) (A N : Nat) (hF : Fs D kA H0 a W π ES u hs ep fc no go vs cs ns gs) (hnt : l.stackTraces = false) (hA : (W (π 0)).1 6 = nI A) (hN : (W (π 0)).1 5 + (W (π 0)).1 6 = nI N) (hA1 : A ≤ N) (hN1 : N ≤ 16777215) : CtSX l D kA Hs σ yX5_incompleteShareBits cX5_incompleteShareBits 1 (some .int) 9 141 4 24 H0 [.ref a] (nof) (pI fun v9 H => v9 = (FP.fdiv (FP.i2f ((W (π 0)).1 6)) (FP.i2f ((W (π 0)).1 5 + (W (π 0)).1 6))).toInt32 ∧ H = H0 ∧ ¬ (W (π 0)).1 5 + (W (π 0)).1 6 = 0) (fun E H => E = "java/lang/ArithmeticException" ∧ (W (π 0)).1 5 + (W (π 0)).1 6 = 0) := by
  refine CtSX.of mi_X5_incompleteShareBits (by decide +kernel) (Nat.le_of_ble_eq_true rfl) (ls0 := [(0, _)]) rfl hg (fun _ z => z.elim) ?_
  intro Pp Ee Ss Mm Ar Bl Me Cc Z hsH hnm
  have Y := Z.1
  obtain ⟨E0, hE⟩ := hF.now
  refine V_aload_n Y.1 0 dX5_incompleteShareBits_0 (rfl : _ = 1) rfl rfl ?_
  refine V_xF Y (sxV Z (c_X5_incompleteShare l D kA Hs σ _ hg _ _ _ _ _ _ _ _ _ _ _ _ _ _ hF hnt) mi_X5_incompleteShare vi_X5_200 rfl hF.1.1 rfl rfl (Nat.le_of_ble_eq_true rfl) ⟨Nat.le_of_ble_eq_true rfl, Nat.le_of_ble_eq_true rfl⟩ (Nat.le_of_ble_eq_true rfl) (Nat.le_of_ble_eq_true rfl) dX5_incompleteShareBits_1) (fun _ z => z.elim) (rfl : _ = 4) (fun E_1 H1_1 hx_1 o_1 => ?_) (fun v_1 H1_1 hq_1 o_1 => ?_)
  · exact VX_out Y.1 hnm (Nat.le_of_ble_eq_true rfl) (Nat.le_of_ble_eq_true rfl) hx_1
  obtain ⟨rfl, rfl, hne9⟩ := hq_1
  refine V_cP Y (rS Y (c_X5_bitsOfShare_u l D kA _ (FP.fdiv (FP.i2f ((W (π 0)).1 6)) (FP.i2f ((W (π 0)).1 5 + (W (π 0)).1 6))) (share_ok hA hN hA1 hN1 hne9)) mi_X5_bitsOfShare si_X5_204 rfl rfl (Nat.le_of_ble_eq_true rfl) ⟨Nat.le_of_ble_eq_true rfl, Nat.le_of_ble_eq_true rfl⟩ (Nat.le_of_ble_eq_true rfl) (Nat.le_of_ble_eq_true rfl) dX5_incompleteShareBits_4) (rfl : _ = 7) ?_
  exact V_X (V_ret Y.1 dX5_incompleteShareBits_7 rfl (Nat.le_of_ble_eq_true rfl) (Nat.le_of_ble_eq_true rfl) ⟨rfl, rfl, hne9⟩)
