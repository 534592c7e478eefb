/-! The law's cases: the means. -/
theorem ne_f2d {r : UInt32} (h : r.toNat % 2 ^ 31 < 161 * 2 ^ 23) : FP.Core.val64 (FP.f2d r) ≠ .nan := by
  intro e
  have hz : FP.Core.val32 r ≠ .nan := (FP.Core.ne_nan32 r).mpr (Nat.le_trans (Nat.le_of_lt h) (by decide))
  unfold FP.f2d at e
  rw [if_neg (by rw [(FP.Core.notNaN_iff32 r).mpr hz]; decide)] at e
  have e1 : FP.Core.round FP.Core.b64 (FP.Core.val32 r) = .nan := (FP.Core.val64_f2d r).symm.trans e
  exact hz (FP.Core.round_nan.mp e1)
theorem vf_f2d {r : UInt32} (h : r.toNat % 2 ^ 31 < 161 * 2 ^ 23) : vf_n64 (FP.f2d r) := vf_of64 (ne_f2d h)
theorem Co.outD {D : va_G} {kA : Nat → ClassId} {Hs H H1 : Heap} {a : Nat} {W : Nat → MS} {π : Nat → Nat} {ES : Nat → Prop} {u : Nat} {hs ep fc : Int32} {no : Nat} {go : Nat → Int32} {vs cs ns : Nat} {gs F s b v p uu tt cc : Nat → Int32} (h : Co D kA Hs a H W π ES u hs ep fc no go vs cs ns gs F s b v p uu tt cc) (o : off (fun q => q = a + 338) H H1) (ho : ∃ w, hp D H1 (a + 338) (eD kA 1 w)) : Co D kA Hs a H1 W π ES u hs ep fc no go vs cs ns gs F s b v p uu tt cc := by
  obtain ⟨h1, h2, ⟨w3, h3⟩, h4, h5, h6, h7, h8⟩ := h
  refine ⟨h1.kept o (fun q z e => ?_) (fun e => ?_) (fun q z e => ?_), h2.keep o (fun q z e => ?_), ⟨w3, h3.off o (fun e => ?_)⟩, ho, h5.keep o (fun q e => ?_), h6, h7, h8⟩
  · have e : q = a + 338 := e; have := z.2; omega
  · have e : vs = a + 338 := e; omega
  · have e : q = a + 338 := e; have := h7 q z; omega
  · have e : q = a + 338 := e; have := z.2; omega
  · have e : a + 337 = a + 338 := e; omega
  · have e : q = a + 338 := e; omega
set_option maxRecDepth 100000 in
set_option maxHeartbeats 4000000 in
theorem c_L_incompleteShare (l : Launch) (D : va_G) (kA : Nat → ClassId) (Hs : Heap) (σ : SG) (H0 : Heap) (hg : Ag Hs H0) (a : Nat) (W : Nat → MS) (π : Nat → Nat) (ES : Nat → Prop) (u : Nat) (hs ep fc : Int32) (no : Nat) (go : Nat → Int32) (vs cs ns : Nat) (gs : Nat → Int32)  (o : Nat) (w0 : Nat → UInt64) (hF : Fs D kA H0 a W π ES u hs ep fc no go vs cs ns gs) (hnt : l.stackTraces = false)  (ho : hp D H0 o (eD kA 1 w0)) (ho1 : a + 329 ≤ o) (ho2 : o ≠ vs) (ho3 : Hs.size ≤ o) : CtW l D kA Hs σ yL_incompleteShare cL_incompleteShare 3 (some .int) [(0, 8, 11, 109)] 9 141 4 24 H0 [.ref a, .ref o] (fun q => q = o) (pI fun k9 H9 => (k9 = 0 ∧ ∃ r H1 w, (fun (v9 : UInt32) (H : Heap) => v9 = FP.fdiv (FP.i2f ((W (π 0)).1 6)) (FP.i2f ((W (π 0)).1 5 + (W (π 0)).1 6)) ∧ H = H0 ∧ ¬ (W (π 0)).1 5 + (W (π 0)).1 6 = 0) r H1 ∧ sto o H1 H9 ∧ hp D H9 o (eD kA 1 w) ∧ w 0 = FP.f2d r) ∨ (∃ E, (fun (E : String) (H : Heap) => E = "java/lang/ArithmeticException" ∧ (W (π 0)).1 5 + (W (π 0)).1 6 = 0) E H9 ∧ k9 = (1) ∧ hp D H9 o (eD kA 1 w0))) := by
  refine CtW.of mh_L_incompleteShare (Nat.le_of_ble_eq_true rfl) (ls0 := [(0, _), (1, _)]) rfl hg (fun q z => z ▸ ho3) ?_
  intro Pp Ee Ss Mm Ar Bl Me Cc Z hsH htab
  have Y := Z.1
  refine V_aload_n Y.1 1 dL_incompleteShare_0 (rfl : _ = 1) rfl rfl ?_
  refine V_iconst Y.1 (v := 0) dL_incompleteShare_1 (rfl : _ = 2) (by decide) ?_
  refine V_aload_n Y.1 0 dL_incompleteShare_2 (rfl : _ = 3) rfl rfl ?_
  refine V_xF Y (sxV Z (c_X5_incompleteShare l D kA Hs σ _ hg a W π ES u hs ep fc no go vs cs ns gs hF hnt) mi_X5_incompleteShare vi_L_115 rfl hF.1.1 rfl rfl (Nat.le_of_ble_eq_true rfl) ⟨Nat.le_of_ble_eq_true rfl, Nat.le_of_ble_eq_true rfl⟩ (Nat.le_of_ble_eq_true rfl) (Nat.le_of_ble_eq_true rfl) dL_incompleteShare_3) (fun _ z => z.elim) (rfl : _ = 6) (fun E_3 H3_3 hx_3 o_3 => ?_) (fun v_3 H3_3 hq_3 o_3 => ?_)
  · have ho := ho.off o_3 (fun z => z)
    obtain rfl : E_3 = "java/lang/ArithmeticException" := (by first | exact hx_3.1 | exact hx_3.elim (fun z => Or.inl z.1) (fun z => Or.inr z.1) | exact hx_3.1.elim (fun z => Or.inl z.1) (fun z => Or.inr z.1))
    refine VX_catch Z (pre := []) (x := ⟨0, 8, 11, 109⟩) (suf := []) (htab.trans rfl) (fun z hz => nomatch hz) (by decide) (by decide) (by decide) (tm 1263 (by decide +kernel) (by decide +kernel)) (by decide +kernel) rfl (fun q9 => ?_)
    refine V_astore_n Y.1 (ls' := [(2, _), (0, _), (1, _)]) dL_incompleteShare_11 (rfl : _ = 12) rfl (by decide) rfl ?_
    refine V_iconst Y.1 (v := 1) dL_incompleteShare_12 (rfl : _ = 13) (by decide) ?_
    exact V_ret Y.1 dL_incompleteShare_13 rfl (Nat.le_of_ble_eq_true rfl) (Nat.le_of_ble_eq_true rfl) (Or.inr ⟨_, hx_3, by rfl, ho⟩)
  have ho := ho.off o_3 (fun z => z)
  refine V_f2d Y.1 dL_incompleteShare_6 (rfl : _ = 7) (by rw [hq_3.1]; exact vf_f2d (fl_m32 hq_3.2.2)) ?_
  refine V_dast Y.1 ho (Or.inl rfl) (show ¬ ((0 : Int32) < 0 ∨ 1 ≤ (0 : Int32).toNatClampNeg) by decide) dL_incompleteShare_7 (rfl : _ = 8) (fun H7_7 h_new o_7 => ?_)
  have ho := h_new
  clear h_new
  refine V_goto Y.1 (tgt := 14) dL_incompleteShare_8 (by decide) ?_
  refine V_iconst Y.1 (v := 0) dL_incompleteShare_14 (rfl : _ = 15) (by decide) ?_
  exact V_ret Y.1 dL_incompleteShare_15 rfl (Nat.le_of_ble_eq_true rfl) (Nat.le_of_ble_eq_true rfl) (Or.inl ⟨rfl, _, _, _, hq_3, o_7, ho, rfl⟩)

set_option maxRecDepth 100000 in
set_option maxHeartbeats 4000000 in
theorem lc_38 (l : Launch) (D : va_G) (kA : Nat → ClassId) (Hs : Heap) (σ : SG) (hnt : l.stackTraces = false) {Pp : Program} {Ee : Env} {Ss : State} {Mm : MethodId} {Ar : Array Value} {Bl : List Frame} {Me : Method} {Cc : Code} {Q : State → Prop} (Z : Ys Pp Ss Mm Ar Me Cc cL_law 9 (some .boolean) "MetroFaresLaw" D kA (AA Hs nof) Hs σ) (sa N : Nat) (f : Nat → Int32) (hsa : va_X sa N f Ss Ss.heap ∧ sa < Ss.heap.size ∧ ¬ AA Hs nof sa) (hN : N ≤ 1536) (a j : Nat) (hj : 3 * j + 3 ≤ N) (H : Heap) (hI : Inv D kA Hs a H (61 * j)) (kk : ∀ H1, Inv D kA Hs a H1 (61 * (j + 1)) → V Pp l Ee (rmO 2048 94400 603072 7194730) Ss Mm Ar Bl Me Cc 9 (AA Hs nof) Q H1 (400 + 200 * (j + 1)) (6000 + 400 * (j + 1)) 2781 [(5, .int (nI (3 * j))), (4, .ref (a + 338)), (3, .ref (a + 337)), (2, .ref (a + 329)), (1, .ref a), (0, .ref sa)] []) : V Pp l Ee (rmO 2048 94400 603072 7194730) Ss Mm Ar Bl Me Cc 9 (AA Hs nof) Q H (400 + 200 * (j)) (6000 + 400 * (j)) 2134 [(5, .int (nI (3 * j))), (4, .ref (a + 338)), (3, .ref (a + 337)), (2, .ref (a + 329)), (1, .ref a), (0, .ref sa)] [] := by
  obtain ⟨W, π, ES, u, hs, ep, fc, no, go, vs, cs, ns, gs, F, s, b, v, p, uu, tt, cc, n, t, hC, hG⟩ := hI
  have Y := Z.1
  have hS := hG.1.1.1
  have hM9 := hG.1.1
  have hjq : j ≤ 512 := by omega
  have hu8 := hC.1.2.2.2.2.2.2.2.1
  obtain ⟨w1, ho1⟩ := hC.2.2.1
  obtain ⟨x, hx⟩ : ∃ x, f (3 * j + 1) = x := ⟨_, rfl⟩
  obtain ⟨y, hy⟩ : ∃ y, f (3 * j + 2) = y := ⟨_, rfl⟩
  obtain ⟨a9, b9, d9, ha9, ea9, hb9, eb9, hd9, ed9⟩ := hS.2.2.2.2.2.1
  have f3 := hS.2.1.2.2.2.1
  have f5 := hS.2.1.2.2.2.2.2.1
  have f6 := hS.2.1.2.2.2.2.2.2.1
  have e78 : s 7 + s 8 = nI (b9 + d9) := by rw [eb9, ed9]; exact nI_add b9 d9
  have e56 : (W (π 0)).1 5 + (W (π 0)).1 6 = nI (b9 + d9) := by rw [f5, f6]; exact e78
  obtain ⟨w2, ho2⟩ := hC.2.2.2.1
  refine V_aload_n Y.1 4 dL_law_2134 (rfl : _ = 2135) rfl rfl ?_
  refine V_aload Y.1 1 dL_law_2135 (rfl : _ = 2137) rfl ?_
  refine V_cI Y (sW Z (c_L_meanCharge l D kA Hs σ _ hC.2.2.2.2.1 a W π ES u hs ep fc no go vs cs ns gs (a + 338) w2 hC.1 hnt ho2 (by omega) (by have := hC.2.2.2.2.2.2.2; omega) (by have := hC.2.2.2.2.2.1; omega)) mh_L_meanCharge si_L_286 rfl rfl (Nat.le_of_ble_eq_true rfl) ⟨Nat.le_of_ble_eq_true rfl, Nat.le_of_ble_eq_true rfl⟩ (by show _ ≤ 603072; omega) (by show _ ≤ 7194730; omega) dL_law_2137) (fun q z => Or.inr (by have z : q = a + 338 := z; have h9 := hC.2.2.2.2.1.1; have := hC.2.2.2.2.2.1; omega)) (rfl : _ = 2140) (fun v_2137 H2137_2 hq_2137 o_2137 => ?_)
  rcases hq_2137 with ⟨hk9, r9, H9, w9, hP9, hst9, ho9, hw9⟩ | ⟨E9, hX9, hk9, ho9⟩
  · have hk8 := hk9.symm
    subst hk8
    obtain ⟨hr9, -, hc9⟩ := hP9
    have hn9 : FP.Core.val64 r9 ≠ .nan := by rw [hr9]; exact (FP.Core.ne_nan _).mpr (Nat.le_trans (Nat.le_of_lt (fl_m64 hc9)) (by decide))
    have hC := hC.outD o_2137 ⟨_, ho9⟩
    refine V_istore Y.1 (ls' := [(6, _), (5, _), (4, _), (3, _), (2, _), (1, _), (0, _)]) dL_law_2140 (rfl : _ = 2142) (by decide) rfl ?_
    refine V_aload_n Y.1 4 dL_law_2142 (rfl : _ = 2143) rfl rfl ?_
    refine V_cD Y (rV Y (c_X6_meanCharge_y l D kA _ (a + 329) F s b v p uu tt cc hC.2.1 (by rw [e78]; exact nI_nle (Nat.pos_of_ne_zero (fun z => hc9 (by rw [e56, z]; rfl))) (by omega))) mi_X6_meanCharge vi_L_289 rfl hC.2.1.1 rfl rfl (Nat.le_of_ble_eq_true rfl) ⟨Nat.le_of_ble_eq_true rfl, Nat.le_of_ble_eq_true rfl⟩ (by show _ ≤ 603072; omega) (by show _ ≤ 7194730; omega) dL_law_2143) (fun q z => Or.inr (by have z := z.1; have := hC.2.2.2.2.2.1; omega)) (rfl : _ = 2146) (fun v_2143 H2143_7 hq_2143 o_2143 => ?_)
    obtain ⟨hb2, hR2⟩ := hq_2143
    have hb3 := (hr9.trans (by rw [f3, f5, f6])).trans hb2.symm
    subst hb3
    have ho9 := ho9.off o_2143 (fun e => by have := e.2; omega)
    have hC := hC.mod o_2143 hR2
    refine V_dstore Y.1 (ls' := [(7, _), (6, _), (5, _), (4, _), (3, _), (2, _), (1, _), (0, _)]) dL_law_2146 (rfl : _ = 2148) (by decide) rfl ?_
    refine V_aload_n Y.1 5 dL_law_2148 (rfl : _ = 2149) rfl rfl ?_
    refine V_cP Y (rV Y (c_X6_thrown l D kA _ (a + 329) _ _ _ _ _ _ _ _ hC.2.1) mi_X6_thrown vi_L_159 rfl hC.2.1.1 rfl rfl (Nat.le_of_ble_eq_true rfl) ⟨Nat.le_of_ble_eq_true rfl, Nat.le_of_ble_eq_true rfl⟩ (by show _ ≤ 603072; omega) (by show _ ≤ 7194730; omega) dL_law_2149) (rfl : _ = 2152) ?_
    refine V_iload Y.1 1 dL_law_2152 (rfl : _ = 2154) rfl ?_
    refine V_icmp_eq Y.1 (tgt := 2159) dL_law_2154 (by decide) (rfl : _ = 2157) (fun _ => ?_) (fun c_n => absurd pk_us c_n)
    refine V_iload Y.1 1 dL_law_2159 (rfl : _ = 2161) rfl ?_
    refine V_if_ne Y.1 (tgt := 2196) dL_law_2161 (by decide) (rfl : _ = 2164) (fun c_n => absurd rfl c_n) (fun _ => ?_)
    refine V_aload Y.1 3 dL_law_2164 (rfl : _ = 2166) rfl ?_
    refine V_iconst Y.1 (v := 0) dL_law_2166 (rfl : _ = 2167) (by decide) ?_
    refine V_dald Y.1 (v := r9) ho9 (show ¬ ((0 : Int32) < 0 ∨ 1 ≤ (0 : Int32).toNatClampNeg) by decide) hw9 dL_law_2167 (rfl : _ = 2168) ?_
    refine V_dload Y.1 0 dL_law_2168 (rfl : _ = 2170) rfl ?_
    refine V_dcmp Y.1 dL_law_2170 (rfl : _ = 2171) ?_
    refine V_if_eq Y.1 (tgt := 2196) dL_law_2171 (by decide) (rfl : _ = 2174) (fun _ => ?_) (fun c_n => absurd (cv_eq (FP.Core.dcmp_self hn9)) c_n)
    refine V_goto Y.1 (tgt := 2781) dL_law_2196 (by decide) ?_
    exact V_forget (ls' := [(5, _), (4, _), (3, _), (2, _), (1, _), (0, _)]) [2, 3, 4, 5, 6, 7] rfl (V_widen (by omega) (by omega) (kk _ ⟨_, _, _, _, _, _, _, _, _, _, _, _, _, _, _, _, _, _, _, _, _, _, _, hC, (hG.f6 _).more (by omega)⟩))
  · obtain ⟨rfl, hc9⟩ := hX9
    have hk7 : v_2137 = 1 := hk9
    have hk8 := hk7.symm
    subst hk8
    have hC := hC.outD o_2137 ⟨_, ho9⟩
    refine V_istore Y.1 (ls' := [(6, _), (5, _), (4, _), (3, _), (2, _), (1, _), (0, _)]) dL_law_2140 (rfl : _ = 2142) (by decide) rfl ?_
    refine V_aload_n Y.1 4 dL_law_2142 (rfl : _ = 2143) rfl rfl ?_
    refine V_cD Y (rV Y (c_X6_meanCharge_n l D kA _ (a + 329) F s b v p uu tt cc hC.2.1 (by rw [e78, ← e56, hc9]; decide)) mi_X6_meanCharge vi_L_289 rfl hC.2.1.1 rfl rfl (Nat.le_of_ble_eq_true rfl) ⟨Nat.le_of_ble_eq_true rfl, Nat.le_of_ble_eq_true rfl⟩ (by show _ ≤ 603072; omega) (by show _ ≤ 7194730; omega) dL_law_2143) (fun q z => Or.inr (by have z := z.1; have := hC.2.2.2.2.2.1; omega)) (rfl : _ = 2146) (fun v_2143 H2143_6 hq_2143 o_2143 => ?_)
    obtain ⟨hb2, hR2⟩ := hq_2143
    have hC := hC.mod o_2143 hR2
    refine V_dstore Y.1 (ls' := [(7, _), (6, _), (5, _), (4, _), (3, _), (2, _), (1, _), (0, _)]) dL_law_2146 (rfl : _ = 2148) (by decide) rfl ?_
    refine V_aload_n Y.1 5 dL_law_2148 (rfl : _ = 2149) rfl rfl ?_
    refine V_cP Y (rV Y (c_X6_thrown l D kA _ (a + 329) _ _ _ _ _ _ _ _ hC.2.1) mi_X6_thrown vi_L_159 rfl hC.2.1.1 rfl rfl (Nat.le_of_ble_eq_true rfl) ⟨Nat.le_of_ble_eq_true rfl, Nat.le_of_ble_eq_true rfl⟩ (by show _ ≤ 603072; omega) (by show _ ≤ 7194730; omega) dL_law_2149) (rfl : _ = 2152) ?_
    refine V_iload Y.1 1 dL_law_2152 (rfl : _ = 2154) rfl ?_
    refine V_icmp_eq Y.1 (tgt := 2159) dL_law_2154 (by decide) (rfl : _ = 2157) (fun _ => ?_) (fun c_n => absurd pk_us c_n)
    refine V_iload Y.1 1 dL_law_2159 (rfl : _ = 2161) rfl ?_
    refine V_if_ne Y.1 (tgt := 2196) dL_law_2161 (by decide) (rfl : _ = 2164) (fun _ => ?_) (fun c_n => absurd c_n (by decide))
    refine V_goto Y.1 (tgt := 2781) dL_law_2196 (by decide) ?_
    exact V_forget (ls' := [(5, _), (4, _), (3, _), (2, _), (1, _), (0, _)]) [2, 3, 4, 5, 6, 7] rfl (V_widen (by omega) (by omega) (kk _ ⟨_, _, _, _, _, _, _, _, _, _, _, _, _, _, _, _, _, _, _, _, _, _, _, hC, (hG.f6 _).more (by omega)⟩))

set_option maxRecDepth 100000 in
set_option maxHeartbeats 4000000 in
theorem lc_40 (l : Launch) (D : va_G) (kA : Nat → ClassId) (Hs : Heap) (σ : SG) (hnt : l.stackTraces = false) {Pp : Program} {Ee : Env} {Ss : State} {Mm : MethodId} {Ar : Array Value} {Bl : List Frame} {Me : Method} {Cc : Code} {Q : State → Prop} (Z : Ys Pp Ss Mm Ar Me Cc cL_law 9 (some .boolean) "MetroFaresLaw" D kA (AA Hs nof) Hs σ) (sa N : Nat) (f : Nat → Int32) (hsa : va_X sa N f Ss Ss.heap ∧ sa < Ss.heap.size ∧ ¬ AA Hs nof sa) (hN : N ≤ 1536) (a j : Nat) (hj : 3 * j + 3 ≤ N) (H : Heap) (hI : Inv D kA Hs a H (61 * j)) (kk : ∀ H1, Inv D kA Hs a H1 (61 * (j + 1)) → V Pp l Ee (rmO 2048 94400 603072 7194730) Ss Mm Ar Bl Me Cc 9 (AA Hs nof) Q H1 (400 + 200 * (j + 1)) (6000 + 400 * (j + 1)) 2781 [(5, .int (nI (3 * j))), (4, .ref (a + 338)), (3, .ref (a + 337)), (2, .ref (a + 329)), (1, .ref a), (0, .ref sa)] []) : V Pp l Ee (rmO 2048 94400 603072 7194730) Ss Mm Ar Bl Me Cc 9 (AA Hs nof) Q H (400 + 200 * (j)) (6000 + 400 * (j)) 2242 [(5, .int (nI (3 * j))), (4, .ref (a + 338)), (3, .ref (a + 337)), (2, .ref (a + 329)), (1, .ref a), (0, .ref sa)] [] := by
  obtain ⟨W, π, ES, u, hs, ep, fc, no, go, vs, cs, ns, gs, F, s, b, v, p, uu, tt, cc, n, t, hC, hG⟩ := hI
  have Y := Z.1
  have hS := hG.1.1.1
  have hM9 := hG.1.1
  have hjq : j ≤ 512 := by omega
  have hu8 := hC.1.2.2.2.2.2.2.2.1
  obtain ⟨w1, ho1⟩ := hC.2.2.1
  obtain ⟨x, hx⟩ : ∃ x, f (3 * j + 1) = x := ⟨_, rfl⟩
  obtain ⟨y, hy⟩ : ∃ y, f (3 * j + 2) = y := ⟨_, rfl⟩
  obtain ⟨a9, b9, d9, ha9, ea9, hb9, eb9, hd9, ed9⟩ := hS.2.2.2.2.2.1
  have f3 := hS.2.1.2.2.2.1
  have f5 := hS.2.1.2.2.2.2.2.1
  have f6 := hS.2.1.2.2.2.2.2.2.1
  have e78 : s 7 + s 8 = nI (b9 + d9) := by rw [eb9, ed9]; exact nI_add b9 d9
  have e56 : (W (π 0)).1 5 + (W (π 0)).1 6 = nI (b9 + d9) := by rw [f5, f6]; exact e78
  obtain ⟨w2, ho2⟩ := hC.2.2.2.1
  refine V_aload_n Y.1 4 dL_law_2242 (rfl : _ = 2243) rfl rfl ?_
  refine V_aload Y.1 1 dL_law_2243 (rfl : _ = 2245) rfl ?_
  refine V_cI Y (sW Z (c_L_incompleteShare l D kA Hs σ _ hC.2.2.2.2.1 a W π ES u hs ep fc no go vs cs ns gs (a + 338) w2 hC.1 hnt ho2 (by omega) (by have := hC.2.2.2.2.2.2.2; omega) (by have := hC.2.2.2.2.2.1; omega)) mh_L_incompleteShare si_L_294 rfl rfl (Nat.le_of_ble_eq_true rfl) ⟨Nat.le_of_ble_eq_true rfl, Nat.le_of_ble_eq_true rfl⟩ (by show _ ≤ 603072; omega) (by show _ ≤ 7194730; omega) dL_law_2245) (fun q z => Or.inr (by have z : q = a + 338 := z; have h9 := hC.2.2.2.2.1.1; have := hC.2.2.2.2.2.1; omega)) (rfl : _ = 2248) (fun v_2245 H2245_2 hq_2245 o_2245 => ?_)
  rcases hq_2245 with ⟨hk9, r9, H9, w9, hP9, hst9, ho9, hw9⟩ | ⟨E9, hX9, hk9, ho9⟩
  · have hk8 := hk9.symm
    subst hk8
    obtain ⟨hr9, -, hc9⟩ := hP9
    have hn9 : FP.Core.val64 (FP.f2d r9) ≠ .nan := by rw [hr9]; exact ne_f2d (fl_m32 hc9)
    have hC := hC.outD o_2245 ⟨_, ho9⟩
    refine V_istore Y.1 (ls' := [(6, _), (5, _), (4, _), (3, _), (2, _), (1, _), (0, _)]) dL_law_2248 (rfl : _ = 2250) (by decide) rfl ?_
    refine V_aload_n Y.1 4 dL_law_2250 (rfl : _ = 2251) rfl rfl ?_
    refine V_cF Y (rV Y (c_X6_incompleteShare_y l D kA _ (a + 329) F s b v p uu tt cc hC.2.1 (by rw [e78]; exact nI_nle (Nat.pos_of_ne_zero (fun z => hc9 (by rw [e56, z]; rfl))) (by omega))) mi_X6_incompleteShare vi_L_296 rfl hC.2.1.1 rfl rfl (Nat.le_of_ble_eq_true rfl) ⟨Nat.le_of_ble_eq_true rfl, Nat.le_of_ble_eq_true rfl⟩ (by show _ ≤ 603072; omega) (by show _ ≤ 7194730; omega) dL_law_2251) (fun q z => Or.inr (by have z := z.1; have := hC.2.2.2.2.2.1; omega)) (rfl : _ = 2254) (fun v_2251 H2251_7 hq_2251 o_2251 => ?_)
    obtain ⟨hb2, hR2⟩ := hq_2251
    have hb3 := (hr9.trans (by rw [f5, f6])).trans hb2.symm
    subst hb3
    have ho9 := ho9.off o_2251 (fun e => by have := e.2; omega)
    have hC := hC.mod o_2251 hR2
    refine V_fstore Y.1 (ls' := [(7, _), (6, _), (5, _), (4, _), (3, _), (2, _), (1, _), (0, _)]) dL_law_2254 (rfl : _ = 2256) (by decide) rfl ?_
    refine V_aload_n Y.1 5 dL_law_2256 (rfl : _ = 2257) rfl rfl ?_
    refine V_cP Y (rV Y (c_X6_thrown l D kA _ (a + 329) _ _ _ _ _ _ _ _ hC.2.1) mi_X6_thrown vi_L_159 rfl hC.2.1.1 rfl rfl (Nat.le_of_ble_eq_true rfl) ⟨Nat.le_of_ble_eq_true rfl, Nat.le_of_ble_eq_true rfl⟩ (by show _ ≤ 603072; omega) (by show _ ≤ 7194730; omega) dL_law_2257) (rfl : _ = 2260) ?_
    refine V_iload Y.1 1 dL_law_2260 (rfl : _ = 2262) rfl ?_
    refine V_icmp_eq Y.1 (tgt := 2267) dL_law_2262 (by decide) (rfl : _ = 2265) (fun _ => ?_) (fun c_n => absurd pk_us c_n)
    refine V_iload Y.1 1 dL_law_2267 (rfl : _ = 2269) rfl ?_
    refine V_if_ne Y.1 (tgt := 2305) dL_law_2269 (by decide) (rfl : _ = 2272) (fun c_n => absurd rfl c_n) (fun _ => ?_)
    refine V_aload Y.1 3 dL_law_2272 (rfl : _ = 2274) rfl ?_
    refine V_iconst Y.1 (v := 0) dL_law_2274 (rfl : _ = 2275) (by decide) ?_
    refine V_dald Y.1 (v := (FP.f2d r9)) ho9 (show ¬ ((0 : Int32) < 0 ∨ 1 ≤ (0 : Int32).toNatClampNeg) by decide) hw9 dL_law_2275 (rfl : _ = 2276) ?_
    refine V_fload Y.1 0 dL_law_2276 (rfl : _ = 2278) rfl ?_
    refine V_f2d Y.1 dL_law_2278 (rfl : _ = 2279) (vf_of64 hn9) ?_
    refine V_dcmp Y.1 dL_law_2279 (rfl : _ = 2280) ?_
    refine V_if_eq Y.1 (tgt := 2305) dL_law_2280 (by decide) (rfl : _ = 2283) (fun _ => ?_) (fun c_n => absurd (cv_eq (FP.Core.dcmp_self hn9)) c_n)
    refine V_goto Y.1 (tgt := 2781) dL_law_2305 (by decide) ?_
    exact V_forget (ls' := [(5, _), (4, _), (3, _), (2, _), (1, _), (0, _)]) [2, 3, 4, 5, 6, 7] rfl (V_widen (by omega) (by omega) (kk _ ⟨_, _, _, _, _, _, _, _, _, _, _, _, _, _, _, _, _, _, _, _, _, _, _, hC, (hG.f6 _).more (by omega)⟩))
  · obtain ⟨rfl, hc9⟩ := hX9
    have hk7 : v_2245 = 1 := hk9
    have hk8 := hk7.symm
    subst hk8
    have hC := hC.outD o_2245 ⟨_, ho9⟩
    refine V_istore Y.1 (ls' := [(6, _), (5, _), (4, _), (3, _), (2, _), (1, _), (0, _)]) dL_law_2248 (rfl : _ = 2250) (by decide) rfl ?_
    refine V_aload_n Y.1 4 dL_law_2250 (rfl : _ = 2251) rfl rfl ?_
    refine V_cF Y (rV Y (c_X6_incompleteShare_n l D kA _ (a + 329) F s b v p uu tt cc hC.2.1 (by rw [e78, ← e56, hc9]; decide)) mi_X6_incompleteShare vi_L_296 rfl hC.2.1.1 rfl rfl (Nat.le_of_ble_eq_true rfl) ⟨Nat.le_of_ble_eq_true rfl, Nat.le_of_ble_eq_true rfl⟩ (by show _ ≤ 603072; omega) (by show _ ≤ 7194730; omega) dL_law_2251) (fun q z => Or.inr (by have z := z.1; have := hC.2.2.2.2.2.1; omega)) (rfl : _ = 2254) (fun v_2251 H2251_6 hq_2251 o_2251 => ?_)
    obtain ⟨hb2, hR2⟩ := hq_2251
    have hC := hC.mod o_2251 hR2
    refine V_fstore Y.1 (ls' := [(7, _), (6, _), (5, _), (4, _), (3, _), (2, _), (1, _), (0, _)]) dL_law_2254 (rfl : _ = 2256) (by decide) rfl ?_
    refine V_aload_n Y.1 5 dL_law_2256 (rfl : _ = 2257) rfl rfl ?_
    refine V_cP Y (rV Y (c_X6_thrown l D kA _ (a + 329) _ _ _ _ _ _ _ _ hC.2.1) mi_X6_thrown vi_L_159 rfl hC.2.1.1 rfl rfl (Nat.le_of_ble_eq_true rfl) ⟨Nat.le_of_ble_eq_true rfl, Nat.le_of_ble_eq_true rfl⟩ (by show _ ≤ 603072; omega) (by show _ ≤ 7194730; omega) dL_law_2257) (rfl : _ = 2260) ?_
    refine V_iload Y.1 1 dL_law_2260 (rfl : _ = 2262) rfl ?_
    refine V_icmp_eq Y.1 (tgt := 2267) dL_law_2262 (by decide) (rfl : _ = 2265) (fun _ => ?_) (fun c_n => absurd pk_us c_n)
    refine V_iload Y.1 1 dL_law_2267 (rfl : _ = 2269) rfl ?_
    refine V_if_ne Y.1 (tgt := 2305) dL_law_2269 (by decide) (rfl : _ = 2272) (fun _ => ?_) (fun c_n => absurd c_n (by decide))
    refine V_goto Y.1 (tgt := 2781) dL_law_2305 (by decide) ?_
    exact V_forget (ls' := [(5, _), (4, _), (3, _), (2, _), (1, _), (0, _)]) [2, 3, 4, 5, 6, 7] rfl (V_widen (by omega) (by omega) (kk _ ⟨_, _, _, _, _, _, _, _, _, _, _, _, _, _, _, _, _, _, _, _, _, _, _, hC, (hG.f6 _).more (by omega)⟩))

