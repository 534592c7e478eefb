/-! The means' bits; the law's own methods for them. -/
theorem c_X5_bitsOfDouble_u (l : Launch) (D : va_G) (kA : Nat → ClassId) (H0 : Heap) (x : UInt64) (hx : x = 0 ∨ ∃ E T, 1 ≤ E ∧ E < 2047 ∧ T < 4503599627370496 ∧ x = mkD E T) : Ct l D kA yX5_bitsOfDouble cX5_bitsOfDouble 7 (some .long) 0 0 0 0 H0 [.double x] (nof) (pL fun v9 H => v9 = x.toInt64 ∧ H = H0) := by
  rcases hx with rfl | ⟨E, T, h1, h2, hT, rfl⟩
  · exact c_X5_bitsOfDouble_z l D kA H0
  · exact c_X5_bitsOfDouble l D kA H0 E T h1 h2 hT
theorem c_X5_bitsOfShare_u (l : Launch) (D : va_G) (kA : Nat → ClassId) (H0 : Heap) (x : UInt32) (hx : x = 0 ∨ ∃ E T, 1 ≤ E ∧ E ≤ 127 ∧ T < 8388608 ∧ x = mkF E T) : Ct l D kA yX5_bitsOfShare cX5_bitsOfShare 4 (some .int) 0 0 0 0 H0 [.float x] (nof) (pI fun v9 H => v9 = x.toInt32 ∧ H = H0) := by
  rcases hx with rfl | ⟨E, T, h1, h2, hT, rfl⟩
  · exact c_X5_bitsOfShare_z l D kA H0
  · exact c_X5_bitsOfShare l D kA H0 E T h1 h2 hT
theorem mean_ok {g3 g56 : Int32} {A N : Nat} (hA : g3 = nI A) (hN : g56 = nI N) (hA1 : A ≤ 2147483647) (hN1 : N ≤ 2147483647) (hne : ¬ g56 = 0) : FP.ddiv (FP.i2d g3) (FP.i2d g56) = 0 ∨ ∃ E T, 1 ≤ E ∧ E < 2047 ∧ T < 4503599627370496 ∧ FP.ddiv (FP.i2d g3) (FP.i2d g56) = mkD E T := by
  subst hA hN
  have h0 : 0 < N := Nat.pos_of_ne_zero (fun e => hne (by rw [e]; rfl))
  by_cases z : A = 0
  · subst z; exact Or.inl (quoD_0 hN1 h0)
  · exact Or.inr (quoD_mk hA1 hN1 (Nat.pos_of_ne_zero z) h0)
theorem share_ok {g6 g56 : Int32} {A N : Nat} (hA : g6 = nI A) (hN : g56 = nI N) (hA1 : A ≤ N) (hN1 : N ≤ 16777215) (hne : ¬ g56 = 0) : FP.fdiv (FP.i2f g6) (FP.i2f g56) = 0 ∨ ∃ E T, 1 ≤ E ∧ E ≤ 127 ∧ T < 8388608 ∧ FP.fdiv (FP.i2f g6) (FP.i2f g56) = mkF E T := by
  subst hA hN
  have h0 : 0 < N := Nat.pos_of_ne_zero (fun e => hne (by rw [e]; rfl))
  by_cases z : A = 0
  · subst z; exact Or.inl (quoF_0 hN1 h0)
  · exact Or.inr (quoF_mk (by omega) hN1 (Nat.pos_of_ne_zero z) h0 hA1)
set_option maxRecDepth 100000 in
set_option maxHeartbeats 4000000 in
theorem c_X5_meanChargeBits (l : Launch) (D : va_G) (kA : Nat → ClassId) (Hs : Heap) (σ : SG) (H0 : Heap) (hg : Ag Hs H0) (a : Nat) (W : Nat → MS) (π : Nat → Nat) (ES : Nat → Prop) (u : Nat) (hs ep fc : Int32) (no : Nat) (go : Nat → Int32) (vs cs ns : Nat) (gs : Nat → Int32) (A N : Nat) (hF : Fs D kA H0 a W π ES u hs ep fc no go vs cs ns gs) (hnt : l.stackTraces = false) (hA : (W (π 0)).1 3 = nI A) (hN : (W (π 0)).1 5 + (W (π 0)).1 6 = nI N) (hA1 : A ≤ 2147483647) (hN1 : N ≤ 2147483647) : CtSX l D kA Hs σ yX5_meanChargeBits cX5_meanChargeBits 1 (some .long) 9 141 4 24 H0 [.ref a] (nof) (pL fun v9 H => v9 = (FP.ddiv (FP.i2d ((W (π 0)).1 3)) (FP.i2d ((W (π 0)).1 5 + (W (π 0)).1 6))).toInt64 ∧ H = H0 ∧ ¬ (W (π 0)).1 5 + (W (π 0)).1 6 = 0) (fun E H => E = "java/lang/ArithmeticException" ∧ (W (π 0)).1 5 + (W (π 0)).1 6 = 0) := by
  refine CtSX.of mi_X5_meanChargeBits (by decide +kernel) (Nat.le_of_ble_eq_true rfl) (ls0 := [(0, _)]) rfl hg (fun _ z => z.elim) ?_
  intro Pp Ee Ss Mm Ar Bl Me Cc Z hsH hnm
  have Y := Z.1
  obtain ⟨E0, hE⟩ := hF.now
  refine V_aload_n Y.1 0 dX5_meanChargeBits_0 (rfl : _ = 1) rfl rfl ?_
  refine V_xD Y (sxV Z (c_X5_meanCharge l D kA Hs σ _ hg _ _ _ _ _ _ _ _ _ _ _ _ _ _ hF hnt) mi_X5_meanCharge vi_X5_192 rfl hF.1.1 rfl rfl (Nat.le_of_ble_eq_true rfl) ⟨Nat.le_of_ble_eq_true rfl, Nat.le_of_ble_eq_true rfl⟩ (Nat.le_of_ble_eq_true rfl) (Nat.le_of_ble_eq_true rfl) dX5_meanChargeBits_1) (fun _ z => z.elim) (rfl : _ = 4) (fun E_1 H1_1 hx_1 o_1 => ?_) (fun v_1 H1_1 hq_1 o_1 => ?_)
  · exact VX_out Y.1 hnm (Nat.le_of_ble_eq_true rfl) (Nat.le_of_ble_eq_true rfl) hx_1
  obtain ⟨rfl, rfl, hne9⟩ := hq_1
  refine V_cL Y (rS Y (c_X5_bitsOfDouble_u l D kA _ (FP.ddiv (FP.i2d ((W (π 0)).1 3)) (FP.i2d ((W (π 0)).1 5 + (W (π 0)).1 6))) (mean_ok hA hN hA1 hN1 hne9)) mi_X5_bitsOfDouble si_X5_196 rfl rfl (Nat.le_of_ble_eq_true rfl) ⟨Nat.le_of_ble_eq_true rfl, Nat.le_of_ble_eq_true rfl⟩ (Nat.le_of_ble_eq_true rfl) (Nat.le_of_ble_eq_true rfl) dX5_meanChargeBits_4) (fun _ z => z.elim) (rfl : _ = 7) (fun v_4 H4_4 hq_4 o_4 => ?_)
  obtain ⟨rfl, rfl⟩ := hq_4
  exact V_X (V_retL Y.1 dX5_meanChargeBits_7 (Nat.le_of_ble_eq_true rfl) (Nat.le_of_ble_eq_true rfl) ⟨rfl, rfl, hne9⟩)

set_option maxRecDepth 100000 in
set_option maxHeartbeats 4000000 in
theorem c_X5_incompleteShareBits (l : Launch) (D : va_G) (kA : Nat → ClassId) (Hs : Heap) (σ : SG) (H0 : Heap) (hg : Ag Hs H0) (a : Nat) (W : Nat → MS) (π : Nat → Nat) (ES : Nat → Prop) (u : Nat) (hs ep fc : Int32) (no : Nat) (go : Nat → Int32) (vs cs ns : Nat) (gs : Nat → Int32) (A N : Nat) (hF : Fs D kA H0 a W π ES u hs ep fc no go vs cs ns gs) (hnt : l.stackTraces = false) (hA : (W (π 0)).1 6 = nI A) (hN : (W (π 0)).1 5 + (W (π 0)).1 6 = nI N) (hA1 : A ≤ N) (hN1 : N ≤ 16777215) : CtSX l D kA Hs σ yX5_incompleteShareBits cX5_incompleteShareBits 1 (some .int) 9 141 4 24 H0 [.ref a] (nof) (pI fun v9 H => v9 = (FP.fdiv (FP.i2f ((W (π 0)).1 6)) (FP.i2f ((W (π 0)).1 5 + (W (π 0)).1 6))).toInt32 ∧ H = H0 ∧ ¬ (W (π 0)).1 5 + (W (π 0)).1 6 = 0) (fun E H => E = "java/lang/ArithmeticException" ∧ (W (π 0)).1 5 + (W (π 0)).1 6 = 0) := by
  refine CtSX.of mi_X5_incompleteShareBits (by decide +kernel) (Nat.le_of_ble_eq_true rfl) (ls0 := [(0, _)]) rfl hg (fun _ z => z.elim) ?_
  intro Pp Ee Ss Mm Ar Bl Me Cc Z hsH hnm
  have Y := Z.1
  obtain ⟨E0, hE⟩ := hF.now
  refine V_aload_n Y.1 0 dX5_incompleteShareBits_0 (rfl : _ = 1) rfl rfl ?_
  refine V_xF Y (sxV Z (c_X5_incompleteShare l D kA Hs σ _ hg _ _ _ _ _ _ _ _ _ _ _ _ _ _ hF hnt) mi_X5_incompleteShare vi_X5_200 rfl hF.1.1 rfl rfl (Nat.le_of_ble_eq_true rfl) ⟨Nat.le_of_ble_eq_true rfl, Nat.le_of_ble_eq_true rfl⟩ (Nat.le_of_ble_eq_true rfl) (Nat.le_of_ble_eq_true rfl) dX5_incompleteShareBits_1) (fun _ z => z.elim) (rfl : _ = 4) (fun E_1 H1_1 hx_1 o_1 => ?_) (fun v_1 H1_1 hq_1 o_1 => ?_)
  · exact VX_out Y.1 hnm (Nat.le_of_ble_eq_true rfl) (Nat.le_of_ble_eq_true rfl) hx_1
  obtain ⟨rfl, rfl, hne9⟩ := hq_1
  refine V_cP Y (rS Y (c_X5_bitsOfShare_u l D kA _ (FP.fdiv (FP.i2f ((W (π 0)).1 6)) (FP.i2f ((W (π 0)).1 5 + (W (π 0)).1 6))) (share_ok hA hN hA1 hN1 hne9)) mi_X5_bitsOfShare si_X5_204 rfl rfl (Nat.le_of_ble_eq_true rfl) ⟨Nat.le_of_ble_eq_true rfl, Nat.le_of_ble_eq_true rfl⟩ (Nat.le_of_ble_eq_true rfl) (Nat.le_of_ble_eq_true rfl) dX5_incompleteShareBits_4) (rfl : _ = 7) ?_
  exact V_X (V_ret Y.1 dX5_incompleteShareBits_7 rfl (Nat.le_of_ble_eq_true rfl) (Nat.le_of_ble_eq_true rfl) ⟨rfl, rfl, hne9⟩)

theorem mh_L_meanChargeBits : Mw yL_meanChargeBits cL_meanChargeBits 3 (some .int) [(0, 7, 10, 109)] 2 := ⟨(tm 1286 (by decide +kernel) (by decide +kernel)), (tm 43 (by decide +kernel) (by decide +kernel)), by decide +kernel, by decide +kernel, by decide +kernel⟩
theorem mh_L_incompleteShareBits : Mw yL_incompleteShareBits cL_incompleteShareBits 3 (some .int) [(0, 8, 11, 109)] 2 := ⟨(tm 1306 (by decide +kernel) (by decide +kernel)), (tm 43 (by decide +kernel) (by decide +kernel)), by decide +kernel, by decide +kernel, by decide +kernel⟩

set_option maxRecDepth 100000 in
set_option maxHeartbeats 4000000 in
theorem c_L_meanChargeBits (l : Launch) (D : va_G) (kA : Nat → ClassId) (Hs : Heap) (σ : SG) (H0 : Heap) (hg : Ag Hs H0) (a : Nat) (W : Nat → MS) (π : Nat → Nat) (ES : Nat → Prop) (u : Nat) (hs ep fc : Int32) (no : Nat) (go : Nat → Int32) (vs cs ns : Nat) (gs : Nat → Int32) (A N : Nat) (o : Nat) (w0 : Nat → Int64) (hF : Fs D kA H0 a W π ES u hs ep fc no go vs cs ns gs) (hnt : l.stackTraces = false) (hA : (W (π 0)).1 3 = nI A) (hN : (W (π 0)).1 5 + (W (π 0)).1 6 = nI N) (hA1 : A ≤ 2147483647) (hN1 : N ≤ 2147483647) (ho : hp D H0 o (eL kA 1 w0)) (ho1 : a + 329 ≤ o) (ho2 : o ≠ vs) (ho3 : Hs.size ≤ o) : CtW l D kA Hs σ yL_meanChargeBits cL_meanChargeBits 3 (some .int) [(0, 7, 10, 109)] 10 161 4 24 H0 [.ref a, .ref o] (fun q => q = o) (pI fun k9 H9 => (k9 = 0 ∧ ∃ r H1 w, (fun (v9 : Int64) (H : Heap) => v9 = (FP.ddiv (FP.i2d ((W (π 0)).1 3)) (FP.i2d ((W (π 0)).1 5 + (W (π 0)).1 6))).toInt64 ∧ H = H0 ∧ ¬ (W (π 0)).1 5 + (W (π 0)).1 6 = 0) r H1 ∧ sto o H1 H9 ∧ hp D H9 o (eL kA 1 w) ∧ w 0 = r) ∨ (∃ E, (fun (E : String) (H : Heap) => E = "java/lang/ArithmeticException" ∧ (W (π 0)).1 5 + (W (π 0)).1 6 = 0) E H9 ∧ k9 = (1) ∧ hp D H9 o (eL kA 1 w0))) := by
  refine CtW.of mh_L_meanChargeBits (Nat.le_of_ble_eq_true rfl) (ls0 := [(0, _), (1, _)]) rfl hg (fun q z => z ▸ ho3) ?_
  intro Pp Ee Ss Mm Ar Bl Me Cc Z hsH htab
  have Y := Z.1
  refine V_aload_n Y.1 1 dL_meanChargeBits_0 (rfl : _ = 1) rfl rfl ?_
  refine V_iconst Y.1 (v := 0) dL_meanChargeBits_1 (rfl : _ = 2) (by decide) ?_
  refine V_aload_n Y.1 0 dL_meanChargeBits_2 (rfl : _ = 3) rfl rfl ?_
  refine V_xL Y (sxV Z (c_X5_meanChargeBits l D kA Hs σ _ hg a W π ES u hs ep fc no go vs cs ns gs A N hF hnt hA hN hA1 hN1) mi_X5_meanChargeBits vi_L_111 rfl hF.1.1 rfl rfl (Nat.le_of_ble_eq_true rfl) ⟨Nat.le_of_ble_eq_true rfl, Nat.le_of_ble_eq_true rfl⟩ (Nat.le_of_ble_eq_true rfl) (Nat.le_of_ble_eq_true rfl) dL_meanChargeBits_3) (fun _ z => z.elim) (rfl : _ = 6) (fun E_3 H3_3 hx_3 o_3 => ?_) (fun v_3 H3_3 hq_3 o_3 => ?_)
  · have ho := ho.off o_3 (fun z => z)
    obtain rfl : E_3 = "java/lang/ArithmeticException" := (by first | exact hx_3.1 | exact hx_3.elim (fun z => Or.inl z.1) (fun z => Or.inr z.1) | exact hx_3.1.elim (fun z => Or.inl z.1) (fun z => Or.inr z.1))
    refine VX_catch Z (pre := []) (x := ⟨0, 7, 10, 109⟩) (suf := []) (htab.trans rfl) (fun z hz => nomatch hz) (by decide) (by decide) (by decide) (tm 1263 (by decide +kernel) (by decide +kernel)) (by decide +kernel) rfl (fun q9 => ?_)
    refine V_astore_n Y.1 (ls' := [(2, _), (0, _), (1, _)]) dL_meanChargeBits_10 (rfl : _ = 11) rfl (by decide) rfl ?_
    refine V_iconst Y.1 (v := 1) dL_meanChargeBits_11 (rfl : _ = 12) (by decide) ?_
    exact V_ret Y.1 dL_meanChargeBits_12 rfl (Nat.le_of_ble_eq_true rfl) (Nat.le_of_ble_eq_true rfl) (Or.inr ⟨_, hx_3, by rfl, ho⟩)
  have ho := ho.off o_3 (fun z => z)
  refine V_last Y.1 ho (Or.inl rfl) (show ¬ ((0 : Int32) < 0 ∨ 1 ≤ (0 : Int32).toNatClampNeg) by decide) dL_meanChargeBits_6 (rfl : _ = 7) (fun H6_6 h_new o_6 => ?_)
  have ho := h_new
  clear h_new
  refine V_goto Y.1 (tgt := 13) dL_meanChargeBits_7 (by decide) ?_
  refine V_iconst Y.1 (v := 0) dL_meanChargeBits_13 (rfl : _ = 14) (by decide) ?_
  exact V_ret Y.1 dL_meanChargeBits_14 rfl (Nat.le_of_ble_eq_true rfl) (Nat.le_of_ble_eq_true rfl) (Or.inl ⟨rfl, _, _, _, hq_3, o_6, ho, rfl⟩)

set_option maxRecDepth 100000 in
set_option maxHeartbeats 4000000 in
theorem c_L_incompleteShareBits (l : Launch) (D : va_G) (kA : Nat → ClassId) (Hs : Heap) (σ : SG) (H0 : Heap) (hg : Ag Hs H0) (a : Nat) (W : Nat → MS) (π : Nat → Nat) (ES : Nat → Prop) (u : Nat) (hs ep fc : Int32) (no : Nat) (go : Nat → Int32) (vs cs ns : Nat) (gs : Nat → Int32) (A N : Nat) (o : Nat) (w0 : Nat → Int64) (hF : Fs D kA H0 a W π ES u hs ep fc no go vs cs ns gs) (hnt : l.stackTraces = false) (hA : (W (π 0)).1 6 = nI A) (hN : (W (π 0)).1 5 + (W (π 0)).1 6 = nI N) (hA1 : A ≤ N) (hN1 : N ≤ 16777215) (ho : hp D H0 o (eL kA 1 w0)) (ho1 : a + 329 ≤ o) (ho2 : o ≠ vs) (ho3 : Hs.size ≤ o) : CtW l D kA Hs σ yL_incompleteShareBits cL_incompleteShareBits 3 (some .int) [(0, 8, 11, 109)] 10 161 4 24 H0 [.ref a, .ref o] (fun q => q = o) (pI fun k9 H9 => (k9 = 0 ∧ ∃ r H1 w, (fun (v9 : Int32) (H : Heap) => v9 = (FP.fdiv (FP.i2f ((W (π 0)).1 6)) (FP.i2f ((W (π 0)).1 5 + (W (π 0)).1 6))).toInt32 ∧ H = H0 ∧ ¬ (W (π 0)).1 5 + (W (π 0)).1 6 = 0) r H1 ∧ sto o H1 H9 ∧ hp D H9 o (eL kA 1 w) ∧ w 0 = r.toInt64) ∨ (∃ E, (fun (E : String) (H : Heap) => E = "java/lang/ArithmeticException" ∧ (W (π 0)).1 5 + (W (π 0)).1 6 = 0) E H9 ∧ k9 = (1) ∧ hp D H9 o (eL kA 1 w0))) := by
  refine CtW.of mh_L_incompleteShareBits (Nat.le_of_ble_eq_true rfl) (ls0 := [(0, _), (1, _)]) rfl hg (fun q z => z ▸ ho3) ?_
  intro Pp Ee Ss Mm Ar Bl Me Cc Z hsH htab
  have Y := Z.1
  refine V_aload_n Y.1 1 dL_incompleteShareBits_0 (rfl : _ = 1) rfl rfl ?_
  refine V_iconst Y.1 (v := 0) dL_incompleteShareBits_1 (rfl : _ = 2) (by decide) ?_
  refine V_aload_n Y.1 0 dL_incompleteShareBits_2 (rfl : _ = 3) rfl rfl ?_
  refine V_xI Y (sxV Z (c_X5_incompleteShareBits l D kA Hs σ _ hg a W π ES u hs ep fc no go vs cs ns gs A N hF hnt hA hN hA1 hN1) mi_X5_incompleteShareBits vi_L_119 rfl hF.1.1 rfl rfl (Nat.le_of_ble_eq_true rfl) ⟨Nat.le_of_ble_eq_true rfl, Nat.le_of_ble_eq_true rfl⟩ (Nat.le_of_ble_eq_true rfl) (Nat.le_of_ble_eq_true rfl) dL_incompleteShareBits_3) (fun _ z => z.elim) (rfl : _ = 6) (fun E_3 H3_3 hx_3 o_3 => ?_) (fun v_3 H3_3 hq_3 o_3 => ?_)
  · have ho := ho.off o_3 (fun z => z)
    obtain rfl : E_3 = "java/lang/ArithmeticException" := (by first | exact hx_3.1 | exact hx_3.elim (fun z => Or.inl z.1) (fun z => Or.inr z.1) | exact hx_3.1.elim (fun z => Or.inl z.1) (fun z => Or.inr z.1))
    refine VX_catch Z (pre := []) (x := ⟨0, 8, 11, 109⟩) (suf := []) (htab.trans rfl) (fun z hz => nomatch hz) (by decide) (by decide) (by decide) (tm 1263 (by decide +kernel) (by decide +kernel)) (by decide +kernel) rfl (fun q9 => ?_)
    refine V_astore_n Y.1 (ls' := [(2, _), (0, _), (1, _)]) dL_incompleteShareBits_11 (rfl : _ = 12) rfl (by decide) rfl ?_
    refine V_iconst Y.1 (v := 1) dL_incompleteShareBits_12 (rfl : _ = 13) (by decide) ?_
    exact V_ret Y.1 dL_incompleteShareBits_13 rfl (Nat.le_of_ble_eq_true rfl) (Nat.le_of_ble_eq_true rfl) (Or.inr ⟨_, hx_3, by rfl, ho⟩)
  have ho := ho.off o_3 (fun z => z)
  refine V_i2l Y.1 dL_incompleteShareBits_6 (rfl : _ = 7) rfl ?_
  refine V_last Y.1 ho (Or.inl rfl) (show ¬ ((0 : Int32) < 0 ∨ 1 ≤ (0 : Int32).toNatClampNeg) by decide) dL_incompleteShareBits_7 (rfl : _ = 8) (fun H7_7 h_new o_7 => ?_)
  have ho := h_new
  clear h_new
  refine V_goto Y.1 (tgt := 14) dL_incompleteShareBits_8 (by decide) ?_
  refine V_iconst Y.1 (v := 0) dL_incompleteShareBits_14 (rfl : _ = 15) (by decide) ?_
  exact V_ret Y.1 dL_incompleteShareBits_15 rfl (Nat.le_of_ble_eq_true rfl) (Nat.le_of_ble_eq_true rfl) (Or.inl ⟨rfl, _, _, _, hq_3, o_7, ho, rfl⟩)

