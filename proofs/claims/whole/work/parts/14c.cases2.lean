/-! The law's cases: changes. -/
theorem r_fd_0 {F : Nat → Int32} {k : Nat} : r_fd F k 0 = upd (upd F 6 0) 5 (nI (r_ok k)) := if_pos rfl
theorem r_fd_n {F : Nat → Int32} {k z : Nat} (h : ¬ z = 0) : r_fd F k z = upd F 6 (nI z) := if_neg h
theorem kz_0 {M : MS} {x y : Int32} (h2 : ¬ m_prob M 0 x y = 0) : m_prob M 0 x y = 3 := by
  have h3 : m_prob M 0 x y = 0 ∨ m_prob M 0 x y = 3 := by
    rw [mp_0]
    (repeat' split) <;> simp
  exact h3.resolve_left h2
theorem kz_1 {M : MS} {x y : Int32} (h2 : ¬ m_prob M 1 x y = 0) : m_prob M 1 x y = 1 ∨ m_prob M 1 x y = 2 ∨ m_prob M 1 x y = 5 := by
  have h3 : m_prob M 1 x y = 0 ∨ m_prob M 1 x y = 1 ∨ m_prob M 1 x y = 2 ∨ m_prob M 1 x y = 5 := by
    rw [mp_1]
    unfold m_pLoad
    (repeat' split) <;> simp
  exact h3.resolve_left h2
theorem kz_2 {M : MS} {x y : Int32} (h2 : ¬ m_prob M 2 x y = 0) : m_prob M 2 x y = 1 ∨ m_prob M 2 x y = 3 := by
  have h3 : m_prob M 2 x y = 0 ∨ m_prob M 2 x y = 1 ∨ m_prob M 2 x y = 3 := by
    rw [mp_2]
    unfold m_pIn
    (repeat' split) <;> simp
  exact h3.resolve_left h2
theorem kz_3 {M : MS} {x y : Int32} (h2 : ¬ m_prob M 3 x y = 0) : m_prob M 3 x y = 1 ∨ m_prob M 3 x y = 3 := by
  have h3 : m_prob M 3 x y = 0 ∨ m_prob M 3 x y = 1 ∨ m_prob M 3 x y = 3 := by
    rw [mp_3]
    unfold m_pOut
    (repeat' split) <;> simp
  exact h3.resolve_left h2
theorem kz_4 {M : MS} {x y : Int32} (h2 : ¬ m_prob M 4 x y = 0) : m_prob M 4 x y = 1 ∨ m_prob M 4 x y = 4 ∨ m_prob M 4 x y = 3 := by
  have h3 : m_prob M 4 x y = 0 ∨ m_prob M 4 x y = 1 ∨ m_prob M 4 x y = 4 ∨ m_prob M 4 x y = 3 := by
    rw [mp_4]
    unfold m_pRep
    (repeat' split) <;> simp
  exact h3.resolve_left h2
theorem kz_5 {M : MS} {x y : Int32} (h2 : ¬ m_prob M 5 x y = 0) : m_prob M 5 x y = 1 ∨ m_prob M 5 x y = 2 := by
  have h3 : m_prob M 5 x y = 0 ∨ m_prob M 5 x y = 1 ∨ m_prob M 5 x y = 2 := by
    rw [mp_5]
    unfold m_pZone
    (repeat' split) <;> simp
  exact h3.resolve_left h2
theorem kz_6 {M : MS} {x y : Int32} (h2 : ¬ m_prob M 6 x y = 0) : m_prob M 6 x y = 2 := by
  have h3 : m_prob M 6 x y = 0 ∨ m_prob M 6 x y = 2 := by
    rw [mp_6]
    unfold m_pFares
    (repeat' split) <;> simp
  exact h3.resolve_left h2
theorem kz_7 {M : MS} {x y : Int32} (h2 : ¬ m_prob M 7 x y = 0) : m_prob M 7 x y = 2 := by
  have h3 : m_prob M 7 x y = 0 ∨ m_prob M 7 x y = 2 := by
    rw [mp_7]
    (repeat' split) <;> simp
  exact h3.resolve_left h2
set_option maxRecDepth 100000 in
set_option maxHeartbeats 4000000 in
theorem lc_0 (l : Launch) (D : va_G) (kA : Nat → ClassId) (Hs : Heap) (σ : SG) (hnt : l.stackTraces = false) {Pp : Program} {Ee : Env} {Ss : State} {Mm : MethodId} {Ar : Array Value} {Bl : List Frame} {Me : Method} {Cc : Code} {Q : State → Prop} (Z : Ys Pp Ss Mm Ar Me Cc cL_law 9 (some .boolean) "MetroFaresLaw" D kA (AA Hs nof) Hs σ) (sa N : Nat) (f : Nat → Int32) (hsa : va_X sa N f Ss Ss.heap ∧ sa < Ss.heap.size ∧ ¬ AA Hs nof sa) (hN : N ≤ 1536) (a j : Nat) (hj : 3 * j + 3 ≤ N) (H : Heap) (hI : Inv D kA Hs a H (61 * j)) (kk : ∀ H1, Inv D kA Hs a H1 (61 * (j + 1)) → V Pp l Ee (rmO 2048 94400 603072 7194730) Ss Mm Ar Bl Me Cc 9 (AA Hs nof) Q H1 (400 + 200 * (j + 1)) (6000 + 400 * (j + 1)) 2781 [(5, .int (nI (3 * j))), (4, .ref (a + 338)), (3, .ref (a + 337)), (2, .ref (a + 329)), (1, .ref a), (0, .ref sa)] []) : V Pp l Ee (rmO 2048 94400 603072 7194730) Ss Mm Ar Bl Me Cc 9 (AA Hs nof) Q H (400 + 200 * (j)) (6000 + 400 * (j)) 272 [(5, .int (nI (3 * j))), (4, .ref (a + 338)), (3, .ref (a + 337)), (2, .ref (a + 329)), (1, .ref a), (0, .ref sa)] [] := by
  obtain ⟨W, π, ES, u, hs, ep, fc, no, go, vs, cs, ns, gs, F, s, b, v, p, uu, tt, cc, n, t, hC, hG⟩ := hI
  have Y := Z.1
  have hS := hG.1.1.1
  have hM9 := hG.1.1
  have hjq : j ≤ 512 := by omega
  have hu8 := hC.1.2.2.2.2.2.2.2.1
  obtain ⟨w1, ho1⟩ := hC.2.2.1
  obtain ⟨x, hx⟩ : ∃ x, f (3 * j + 1) = x := ⟨_, rfl⟩
  obtain ⟨y, hy⟩ : ∃ y, f (3 * j + 2) = y := ⟨_, rfl⟩
  by_cases hx0 : x = 0
  · refine V_aload_n Y.1 4 dL_law_272 (rfl : _ = 273) rfl rfl ?_
    refine V_aload_n Y.1 5 dL_law_273 (rfl : _ = 274) rfl rfl ?_
    refine V_iload Y.1 0 dL_law_274 (rfl : _ = 276) rfl ?_
    refine V_iconst Y.1 (v := 1) dL_law_276 (rfl : _ = 277) (by decide) ?_
    refine V_iadd Y.1 dL_law_277 (rfl : _ = 278) ?_
    refine V_nm (v := nI (3 * j + 1)) (nI_add _ 1) ?_
    refine V_sld Y.1 (v := x) hsa (vp_in_nI (by omega) (by omega)) (by rw [nI_clamp (by omega)]; exact hx) dL_law_278 (rfl : _ = 279) ?_
    refine V_if_eq Y.1 (tgt := 286) dL_law_279 (by decide) (rfl : _ = 282) (fun _ => ?_) (fun c_n => absurd hx0 c_n)
    refine V_iconst Y.1 (v := 0) dL_law_286 (rfl : _ = 287) (by decide) ?_
    refine V_aload_n Y.1 2 dL_law_287 (rfl : _ = 288) rfl rfl ?_
    refine V_cI Y (sW Z (c_L_issueCard l D kA Hs σ _ hC.2.2.2.2.1 a W π ES u hs ep fc no go vs cs ns gs 0 n (t / 1440) (a + 337) w1 hC.1 hnt hM9.mi hC.2.2.2.2.2.1 (Or.inl rfl) ho1 (by omega) (by have := hC.2.2.2.2.2.2.2; omega) (by have := hC.2.2.2.2.2.1; omega)) mh_L_issueCard si_L_153 rfl rfl (Nat.le_of_ble_eq_true rfl) ⟨Nat.le_of_ble_eq_true rfl, Nat.le_of_ble_eq_true rfl⟩ (by show _ ≤ 603072; omega) (by show _ ≤ 7194730; omega) dL_law_288) (fun q z => Or.inr (by have h9 := hC.2.2.2.2.2.1; rcases z with z | z; exact (by have := z.1; omega); exact (by have z : q = a + 337 := z; omega))) (rfl : _ = 291) (fun v_288 H288_10 hq_288 o_288 => ?_)
    obtain ⟨st1, st2⟩ := hG.1.step (by omega) (k := 0) (by decide) 0 0
    rw [show Q8 s n t 0 0 0 = q_issue s 0 from Q8_0] at st1 st2
    rcases hq_288 with ⟨hk9, r9, H9, w9, hP9, hst9, ho9, hw9⟩ | ⟨E9, hX9, hk9, ho9⟩
    · have hPm := hC.1.2.2.2.2.2.1
      have hk8 := hk9.symm
      subst hk8
      obtain ⟨hz9, hr9, hF9⟩ := hP9
      obtain ⟨a1, a2, n9, t9, a3⟩ := st1 hz9
      have hF8 := hF9.kept (hst9.off (F := fun q => q = a + 337) rfl) (fun q z e => by have e : q = a + 337 := e; have := z.2; omega) (fun e => by have e : vs = a + 337 := e; have := hC.2.2.2.2.2.2.2; omega) (fun q z e => by have e : q = a + 337 := e; have := hC.gro q z; omega)
      have hC := hC.cls o_288 (fun q z => z.elim Or.inl (fun e => Or.inr (Or.inr e))) hF8 ⟨_, ho9⟩ hC.gro hC.2.2.2.2.2.2.2
      rw [a2] at hr9
      refine V_istore Y.1 (ls' := [(6, _), (5, _), (4, _), (3, _), (2, _), (1, _), (0, _)]) dL_law_291 (rfl : _ = 293) (by decide) rfl ?_
      refine V_aload_n Y.1 4 dL_law_293 (rfl : _ = 294) rfl rfl ?_
      refine V_aload_n Y.1 6 dL_law_294 (rfl : _ = 295) rfl rfl ?_
      refine V_iload Y.1 1 dL_law_295 (rfl : _ = 297) rfl ?_
      refine V_iconst Y.1 (v := 1) dL_law_297 (rfl : _ = 298) (by decide) ?_
      refine V_iadd Y.1 dL_law_298 (rfl : _ = 299) ?_
      refine V_nm (v := nI (3 * j + 1)) (nI_add _ 1) ?_
      refine V_sld Y.1 (v := x) hsa (vp_in_nI (by omega) (by omega)) (by rw [nI_clamp (by omega)]; exact hx) dL_law_299 (rfl : _ = 300) ?_
      refine V_if_eq Y.1 (tgt := 307) dL_law_300 (by decide) (rfl : _ = 303) (fun _ => ?_) (fun c_n => absurd hx0 c_n)
      refine V_iconst Y.1 (v := 0) dL_law_307 (rfl : _ = 308) (by decide) ?_
      refine V_cI Y (rV Y (c_X6_issueCard l D kA _ (a + 329) F s b v p uu tt cc n t 0 u hu8 hC.2.1 hS.1 hG.2.1.1) mi_X6_issueCard vi_L_158 rfl hC.2.1.1 rfl rfl (Nat.le_of_ble_eq_true rfl) ⟨Nat.le_of_ble_eq_true rfl, Nat.le_of_ble_eq_true rfl⟩ (by show _ ≤ 603072; omega) (by show _ ≤ 7194730; omega) dL_law_308) (fun q z => Or.inr (by have z := z.1; have := hC.2.2.2.2.2.1; omega)) (rfl : _ = 311) (fun v_308 H308_18 hq_308 o_308 => ?_)
      obtain ⟨hb2, hR2⟩ := hq_308
      rw [a1, if_pos rfl] at hb2
      rw [a1, if_pos rfl, if_pos rfl, r_fd_0] at hR2
      have hb3 := hr9.trans hb2.symm
      subst hb3
      have ho9 := ho9.off o_308 (fun e => by have := e.2; omega)
      have hC := hC.mod o_308 hR2
      refine V_istore Y.1 (ls' := [(7, _), (6, _), (5, _), (4, _), (3, _), (2, _), (1, _), (0, _)]) dL_law_311 (rfl : _ = 313) (by decide) rfl ?_
      refine V_aload_n Y.1 5 dL_law_313 (rfl : _ = 314) rfl rfl ?_
      refine V_cP Y (rV Y (c_X6_thrown l D kA _ (a + 329) _ _ _ _ _ _ _ _ hC.2.1) mi_X6_thrown vi_L_159 rfl hC.2.1.1 rfl rfl (Nat.le_of_ble_eq_true rfl) ⟨Nat.le_of_ble_eq_true rfl, Nat.le_of_ble_eq_true rfl⟩ (by show _ ≤ 603072; omega) (by show _ ≤ 7194730; omega) dL_law_314) (rfl : _ = 317) ?_
      refine V_iload Y.1 1 dL_law_317 (rfl : _ = 319) rfl ?_
      refine V_icmp_eq Y.1 (tgt := 324) dL_law_319 (by decide) (rfl : _ = 322) (fun _ => ?_) (fun c_n => absurd (by rw [pk_un (by decide), pk_us]) c_n)
      refine V_iload Y.1 1 dL_law_324 (rfl : _ = 326) rfl ?_
      refine V_if_ne Y.1 (tgt := 341) dL_law_326 (by decide) (rfl : _ = 329) (fun c_n => absurd rfl c_n) (fun _ => ?_)
      refine V_aload_n Y.1 4 dL_law_329 (rfl : _ = 330) rfl rfl ?_
      refine V_iconst Y.1 (v := 0) dL_law_330 (rfl : _ = 331) (by decide) ?_
      refine V_lald Y.1 (v := r9.toInt64) ho9 (show ¬ ((0 : Int32) < 0 ∨ 1 ≤ (0 : Int32).toNatClampNeg) by decide) hw9 dL_law_331 (rfl : _ = 332) ?_
      refine V_iload Y.1 0 dL_law_332 (rfl : _ = 334) rfl ?_
      refine V_i2l Y.1 dL_law_334 (rfl : _ = 335) rfl ?_
      refine V_lcmp Y.1 dL_law_335 (rfl : _ = 336) ?_
      refine V_if_eq Y.1 (tgt := 341) dL_law_336 (by decide) (rfl : _ = 339) (fun _ => ?_) (fun c_n => absurd (lg_self _) c_n)
      refine V_goto Y.1 (tgt := 2781) dL_law_341 (by decide) ?_
      exact V_forget (ls' := [(5, _), (4, _), (3, _), (2, _), (1, _), (0, _)]) [2, 3, 4, 5, 6, 7] rfl (V_widen (by omega) (by omega) (kk _ ⟨_, _, _, _, _, _, _, _, _, _, _, _, _, _, _, _, _, _, _, _, _, _, _, hC, hG.push hPm hu8 (by omega) (a3.more (by omega)) ⟨pk_us, by rw [pk_un (by decide), pk_un (by decide)], by rw [pk_un (by decide), pk_un (by decide)], by rw [pk_un (by decide), pk_un (by decide)], by rw [pk_un (by decide), pk_un (by decide)], by rw [pk_un (by decide), pk_un (by decide)]⟩⟩))
    · obtain ⟨hE9, hn9, hF8⟩ := hX9
      have hC := hC.cls o_288 (fun q z => z.elim Or.inl (fun e => Or.inr (Or.inr e))) hF8 ⟨_, ho9⟩ hC.2.2.2.2.2.2.1 hC.2.2.2.2.2.2.2
      have hq9 := st2 hn9
      have hz8 := kz_0 hn9
      rw [hz8] at hE9
      subst hE9
      rw [hz8, pm_03] at hq9
      have hk7 : v_288 = 1 := hk9
      have hk8 := hk7.symm
      subst hk8
      refine V_istore Y.1 (ls' := [(6, _), (5, _), (4, _), (3, _), (2, _), (1, _), (0, _)]) dL_law_291 (rfl : _ = 293) (by decide) rfl ?_
      refine V_aload_n Y.1 4 dL_law_293 (rfl : _ = 294) rfl rfl ?_
      refine V_aload_n Y.1 6 dL_law_294 (rfl : _ = 295) rfl rfl ?_
      refine V_iload Y.1 1 dL_law_295 (rfl : _ = 297) rfl ?_
      refine V_iconst Y.1 (v := 1) dL_law_297 (rfl : _ = 298) (by decide) ?_
      refine V_iadd Y.1 dL_law_298 (rfl : _ = 299) ?_
      refine V_nm (v := nI (3 * j + 1)) (nI_add _ 1) ?_
      refine V_sld Y.1 (v := x) hsa (vp_in_nI (by omega) (by omega)) (by rw [nI_clamp (by omega)]; exact hx) dL_law_299 (rfl : _ = 300) ?_
      refine V_if_eq Y.1 (tgt := 307) dL_law_300 (by decide) (rfl : _ = 303) (fun _ => ?_) (fun c_n => absurd hx0 c_n)
      refine V_iconst Y.1 (v := 0) dL_law_307 (rfl : _ = 308) (by decide) ?_
      refine V_cI Y (rV Y (c_X6_issueCard l D kA _ (a + 329) F s b v p uu tt cc n t 0 u hu8 hC.2.1 hS.1 hG.2.1.1) mi_X6_issueCard vi_L_158 rfl hC.2.1.1 rfl rfl (Nat.le_of_ble_eq_true rfl) ⟨Nat.le_of_ble_eq_true rfl, Nat.le_of_ble_eq_true rfl⟩ (by show _ ≤ 603072; omega) (by show _ ≤ 7194730; omega) dL_law_308) (fun q z => Or.inr (by have z := z.1; have := hC.2.2.2.2.2.1; omega)) (rfl : _ = 311) (fun v_308 H308_16 hq_308 o_308 => ?_)
      obtain ⟨hb2, hR2⟩ := hq_308
      rw [hq9, if_neg (by decide), if_neg (by decide), r_fd_n (by decide)] at hR2
      have hC := hC.mod o_308 hR2
      refine V_istore Y.1 (ls' := [(7, _), (6, _), (5, _), (4, _), (3, _), (2, _), (1, _), (0, _)]) dL_law_311 (rfl : _ = 313) (by decide) rfl ?_
      refine V_aload_n Y.1 5 dL_law_313 (rfl : _ = 314) rfl rfl ?_
      refine V_cP Y (rV Y (c_X6_thrown l D kA _ (a + 329) _ _ _ _ _ _ _ _ hC.2.1) mi_X6_thrown vi_L_159 rfl hC.2.1.1 rfl rfl (Nat.le_of_ble_eq_true rfl) ⟨Nat.le_of_ble_eq_true rfl, Nat.le_of_ble_eq_true rfl⟩ (by show _ ≤ 603072; omega) (by show _ ≤ 7194730; omega) dL_law_314) (rfl : _ = 317) ?_
      refine V_iload Y.1 1 dL_law_317 (rfl : _ = 319) rfl ?_
      refine V_icmp_eq Y.1 (tgt := 324) dL_law_319 (by decide) (rfl : _ = 322) (fun _ => ?_) (fun c_n => absurd pk_us c_n)
      refine V_iload Y.1 1 dL_law_324 (rfl : _ = 326) rfl ?_
      refine V_if_ne Y.1 (tgt := 341) dL_law_326 (by decide) (rfl : _ = 329) (fun _ => ?_) (fun c_n => absurd c_n (by decide))
      refine V_goto Y.1 (tgt := 2781) dL_law_341 (by decide) ?_
      exact V_forget (ls' := [(5, _), (4, _), (3, _), (2, _), (1, _), (0, _)]) [2, 3, 4, 5, 6, 7] rfl (V_widen (by omega) (by omega) (kk _ ⟨_, _, _, _, _, _, _, _, _, _, _, _, _, _, _, _, _, _, _, _, _, _, _, hC, (hG.f6 _).more (by omega)⟩))
  · refine V_aload_n Y.1 4 dL_law_272 (rfl : _ = 273) rfl rfl ?_
    refine V_aload_n Y.1 5 dL_law_273 (rfl : _ = 274) rfl rfl ?_
    refine V_iload Y.1 0 dL_law_274 (rfl : _ = 276) rfl ?_
    refine V_iconst Y.1 (v := 1) dL_law_276 (rfl : _ = 277) (by decide) ?_
    refine V_iadd Y.1 dL_law_277 (rfl : _ = 278) ?_
    refine V_nm (v := nI (3 * j + 1)) (nI_add _ 1) ?_
    refine V_sld Y.1 (v := x) hsa (vp_in_nI (by omega) (by omega)) (by rw [nI_clamp (by omega)]; exact hx) dL_law_278 (rfl : _ = 279) ?_
    refine V_if_eq Y.1 (tgt := 286) dL_law_279 (by decide) (rfl : _ = 282) (fun c_n => absurd c_n hx0) (fun _ => ?_)
    refine V_iconst Y.1 (v := 1) dL_law_282 (rfl : _ = 283) (by decide) ?_
    refine V_goto Y.1 (tgt := 287) dL_law_283 (by decide) ?_
    refine V_aload_n Y.1 2 dL_law_287 (rfl : _ = 288) rfl rfl ?_
    refine V_cI Y (sW Z (c_L_issueCard l D kA Hs σ _ hC.2.2.2.2.1 a W π ES u hs ep fc no go vs cs ns gs 1 n (t / 1440) (a + 337) w1 hC.1 hnt hM9.mi hC.2.2.2.2.2.1 (Or.inr rfl) ho1 (by omega) (by have := hC.2.2.2.2.2.2.2; omega) (by have := hC.2.2.2.2.2.1; omega)) mh_L_issueCard si_L_153 rfl rfl (Nat.le_of_ble_eq_true rfl) ⟨Nat.le_of_ble_eq_true rfl, Nat.le_of_ble_eq_true rfl⟩ (by show _ ≤ 603072; omega) (by show _ ≤ 7194730; omega) dL_law_288) (fun q z => Or.inr (by have h9 := hC.2.2.2.2.2.1; rcases z with z | z; exact (by have := z.1; omega); exact (by have z : q = a + 337 := z; omega))) (rfl : _ = 291) (fun v_288 H288_11 hq_288 o_288 => ?_)
    obtain ⟨st1, st2⟩ := hG.1.step (by omega) (k := 0) (by decide) 1 0
    rw [show Q8 s n t 0 1 0 = q_issue s 1 from Q8_0] at st1 st2
    rcases hq_288 with ⟨hk9, r9, H9, w9, hP9, hst9, ho9, hw9⟩ | ⟨E9, hX9, hk9, ho9⟩
    · have hPm := hC.1.2.2.2.2.2.1
      have hk8 := hk9.symm
      subst hk8
      obtain ⟨hz9, hr9, hF9⟩ := hP9
      obtain ⟨a1, a2, n9, t9, a3⟩ := st1 hz9
      have hF8 := hF9.kept (hst9.off (F := fun q => q = a + 337) rfl) (fun q z e => by have e : q = a + 337 := e; have := z.2; omega) (fun e => by have e : vs = a + 337 := e; have := hC.2.2.2.2.2.2.2; omega) (fun q z e => by have e : q = a + 337 := e; have := hC.gro q z; omega)
      have hC := hC.cls o_288 (fun q z => z.elim Or.inl (fun e => Or.inr (Or.inr e))) hF8 ⟨_, ho9⟩ hC.gro hC.2.2.2.2.2.2.2
      rw [a2] at hr9
      refine V_istore Y.1 (ls' := [(6, _), (5, _), (4, _), (3, _), (2, _), (1, _), (0, _)]) dL_law_291 (rfl : _ = 293) (by decide) rfl ?_
      refine V_aload_n Y.1 4 dL_law_293 (rfl : _ = 294) rfl rfl ?_
      refine V_aload_n Y.1 6 dL_law_294 (rfl : _ = 295) rfl rfl ?_
      refine V_iload Y.1 1 dL_law_295 (rfl : _ = 297) rfl ?_
      refine V_iconst Y.1 (v := 1) dL_law_297 (rfl : _ = 298) (by decide) ?_
      refine V_iadd Y.1 dL_law_298 (rfl : _ = 299) ?_
      refine V_nm (v := nI (3 * j + 1)) (nI_add _ 1) ?_
      refine V_sld Y.1 (v := x) hsa (vp_in_nI (by omega) (by omega)) (by rw [nI_clamp (by omega)]; exact hx) dL_law_299 (rfl : _ = 300) ?_
      refine V_if_eq Y.1 (tgt := 307) dL_law_300 (by decide) (rfl : _ = 303) (fun c_n => absurd c_n hx0) (fun _ => ?_)
      refine V_iconst Y.1 (v := 1) dL_law_303 (rfl : _ = 304) (by decide) ?_
      refine V_goto Y.1 (tgt := 308) dL_law_304 (by decide) ?_
      refine V_cI Y (rV Y (c_X6_issueCard l D kA _ (a + 329) F s b v p uu tt cc n t 1 u hu8 hC.2.1 hS.1 hG.2.1.1) mi_X6_issueCard vi_L_158 rfl hC.2.1.1 rfl rfl (Nat.le_of_ble_eq_true rfl) ⟨Nat.le_of_ble_eq_true rfl, Nat.le_of_ble_eq_true rfl⟩ (by show _ ≤ 603072; omega) (by show _ ≤ 7194730; omega) dL_law_308) (fun q z => Or.inr (by have z := z.1; have := hC.2.2.2.2.2.1; omega)) (rfl : _ = 311) (fun v_308 H308_19 hq_308 o_308 => ?_)
      obtain ⟨hb2, hR2⟩ := hq_308
      rw [a1, if_pos rfl] at hb2
      rw [a1, if_pos rfl, if_pos rfl, r_fd_0] at hR2
      have hb3 := hr9.trans hb2.symm
      subst hb3
      have ho9 := ho9.off o_308 (fun e => by have := e.2; omega)
      have hC := hC.mod o_308 hR2
      refine V_istore Y.1 (ls' := [(7, _), (6, _), (5, _), (4, _), (3, _), (2, _), (1, _), (0, _)]) dL_law_311 (rfl : _ = 313) (by decide) rfl ?_
      refine V_aload_n Y.1 5 dL_law_313 (rfl : _ = 314) rfl rfl ?_
      refine V_cP Y (rV Y (c_X6_thrown l D kA _ (a + 329) _ _ _ _ _ _ _ _ hC.2.1) mi_X6_thrown vi_L_159 rfl hC.2.1.1 rfl rfl (Nat.le_of_ble_eq_true rfl) ⟨Nat.le_of_ble_eq_true rfl, Nat.le_of_ble_eq_true rfl⟩ (by show _ ≤ 603072; omega) (by show _ ≤ 7194730; omega) dL_law_314) (rfl : _ = 317) ?_
      refine V_iload Y.1 1 dL_law_317 (rfl : _ = 319) rfl ?_
      refine V_icmp_eq Y.1 (tgt := 324) dL_law_319 (by decide) (rfl : _ = 322) (fun _ => ?_) (fun c_n => absurd (by rw [pk_un (by decide), pk_us]) c_n)
      refine V_iload Y.1 1 dL_law_324 (rfl : _ = 326) rfl ?_
      refine V_if_ne Y.1 (tgt := 341) dL_law_326 (by decide) (rfl : _ = 329) (fun c_n => absurd rfl c_n) (fun _ => ?_)
      refine V_aload_n Y.1 4 dL_law_329 (rfl : _ = 330) rfl rfl ?_
      refine V_iconst Y.1 (v := 0) dL_law_330 (rfl : _ = 331) (by decide) ?_
      refine V_lald Y.1 (v := r9.toInt64) ho9 (show ¬ ((0 : Int32) < 0 ∨ 1 ≤ (0 : Int32).toNatClampNeg) by decide) hw9 dL_law_331 (rfl : _ = 332) ?_
      refine V_iload Y.1 0 dL_law_332 (rfl : _ = 334) rfl ?_
      refine V_i2l Y.1 dL_law_334 (rfl : _ = 335) rfl ?_
      refine V_lcmp Y.1 dL_law_335 (rfl : _ = 336) ?_
      refine V_if_eq Y.1 (tgt := 341) dL_law_336 (by decide) (rfl : _ = 339) (fun _ => ?_) (fun c_n => absurd (lg_self _) c_n)
      refine V_goto Y.1 (tgt := 2781) dL_law_341 (by decide) ?_
      exact V_forget (ls' := [(5, _), (4, _), (3, _), (2, _), (1, _), (0, _)]) [2, 3, 4, 5, 6, 7] rfl (V_widen (by omega) (by omega) (kk _ ⟨_, _, _, _, _, _, _, _, _, _, _, _, _, _, _, _, _, _, _, _, _, _, _, hC, hG.push hPm hu8 (by omega) (a3.more (by omega)) ⟨pk_us, by rw [pk_un (by decide), pk_un (by decide)], by rw [pk_un (by decide), pk_un (by decide)], by rw [pk_un (by decide), pk_un (by decide)], by rw [pk_un (by decide), pk_un (by decide)], by rw [pk_un (by decide), pk_un (by decide)]⟩⟩))
    · obtain ⟨hE9, hn9, hF8⟩ := hX9
      have hC := hC.cls o_288 (fun q z => z.elim Or.inl (fun e => Or.inr (Or.inr e))) hF8 ⟨_, ho9⟩ hC.2.2.2.2.2.2.1 hC.2.2.2.2.2.2.2
      have hq9 := st2 hn9
      have hz8 := kz_0 hn9
      rw [hz8] at hE9
      subst hE9
      rw [hz8, pm_03] at hq9
      have hk7 : v_288 = 1 := hk9
      have hk8 := hk7.symm
      subst hk8
      refine V_istore Y.1 (ls' := [(6, _), (5, _), (4, _), (3, _), (2, _), (1, _), (0, _)]) dL_law_291 (rfl : _ = 293) (by decide) rfl ?_
      refine V_aload_n Y.1 4 dL_law_293 (rfl : _ = 294) rfl rfl ?_
      refine V_aload_n Y.1 6 dL_law_294 (rfl : _ = 295) rfl rfl ?_
      refine V_iload Y.1 1 dL_law_295 (rfl : _ = 297) rfl ?_
      refine V_iconst Y.1 (v := 1) dL_law_297 (rfl : _ = 298) (by decide) ?_
      refine V_iadd Y.1 dL_law_298 (rfl : _ = 299) ?_
      refine V_nm (v := nI (3 * j + 1)) (nI_add _ 1) ?_
      refine V_sld Y.1 (v := x) hsa (vp_in_nI (by omega) (by omega)) (by rw [nI_clamp (by omega)]; exact hx) dL_law_299 (rfl : _ = 300) ?_
      refine V_if_eq Y.1 (tgt := 307) dL_law_300 (by decide) (rfl : _ = 303) (fun c_n => absurd c_n hx0) (fun _ => ?_)
      refine V_iconst Y.1 (v := 1) dL_law_303 (rfl : _ = 304) (by decide) ?_
      refine V_goto Y.1 (tgt := 308) dL_law_304 (by decide) ?_
      refine V_cI Y (rV Y (c_X6_issueCard l D kA _ (a + 329) F s b v p uu tt cc n t 1 u hu8 hC.2.1 hS.1 hG.2.1.1) mi_X6_issueCard vi_L_158 rfl hC.2.1.1 rfl rfl (Nat.le_of_ble_eq_true rfl) ⟨Nat.le_of_ble_eq_true rfl, Nat.le_of_ble_eq_true rfl⟩ (by show _ ≤ 603072; omega) (by show _ ≤ 7194730; omega) dL_law_308) (fun q z => Or.inr (by have z := z.1; have := hC.2.2.2.2.2.1; omega)) (rfl : _ = 311) (fun v_308 H308_17 hq_308 o_308 => ?_)
      obtain ⟨hb2, hR2⟩ := hq_308
      rw [hq9, if_neg (by decide), if_neg (by decide), r_fd_n (by decide)] at hR2
      have hC := hC.mod o_308 hR2
      refine V_istore Y.1 (ls' := [(7, _), (6, _), (5, _), (4, _), (3, _), (2, _), (1, _), (0, _)]) dL_law_311 (rfl : _ = 313) (by decide) rfl ?_
      refine V_aload_n Y.1 5 dL_law_313 (rfl : _ = 314) rfl rfl ?_
      refine V_cP Y (rV Y (c_X6_thrown l D kA _ (a + 329) _ _ _ _ _ _ _ _ hC.2.1) mi_X6_thrown vi_L_159 rfl hC.2.1.1 rfl rfl (Nat.le_of_ble_eq_true rfl) ⟨Nat.le_of_ble_eq_true rfl, Nat.le_of_ble_eq_true rfl⟩ (by show _ ≤ 603072; omega) (by show _ ≤ 7194730; omega) dL_law_314) (rfl : _ = 317) ?_
      refine V_iload Y.1 1 dL_law_317 (rfl : _ = 319) rfl ?_
      refine V_icmp_eq Y.1 (tgt := 324) dL_law_319 (by decide) (rfl : _ = 322) (fun _ => ?_) (fun c_n => absurd pk_us c_n)
      refine V_iload Y.1 1 dL_law_324 (rfl : _ = 326) rfl ?_
      refine V_if_ne Y.1 (tgt := 341) dL_law_326 (by decide) (rfl : _ = 329) (fun _ => ?_) (fun c_n => absurd c_n (by decide))
      refine V_goto Y.1 (tgt := 2781) dL_law_341 (by decide) ?_
      exact V_forget (ls' := [(5, _), (4, _), (3, _), (2, _), (1, _), (0, _)]) [2, 3, 4, 5, 6, 7] rfl (V_widen (by omega) (by omega) (kk _ ⟨_, _, _, _, _, _, _, _, _, _, _, _, _, _, _, _, _, _, _, _, _, _, _, hC, (hG.f6 _).more (by omega)⟩))

set_option maxRecDepth 100000 in
set_option maxHeartbeats 4000000 in
theorem lc_1 (l : Launch) (D : va_G) (kA : Nat → ClassId) (Hs : Heap) (σ : SG) (hnt : l.stackTraces = false) {Pp : Program} {Ee : Env} {Ss : State} {Mm : MethodId} {Ar : Array Value} {Bl : List Frame} {Me : Method} {Cc : Code} {Q : State → Prop} (Z : Ys Pp Ss Mm Ar Me Cc cL_law 9 (some .boolean) "MetroFaresLaw" D kA (AA Hs nof) Hs σ) (sa N : Nat) (f : Nat → Int32) (hsa : va_X sa N f Ss Ss.heap ∧ sa < Ss.heap.size ∧ ¬ AA Hs nof sa) (hN : N ≤ 1536) (a j : Nat) (hj : 3 * j + 3 ≤ N) (H : Heap) (hI : Inv D kA Hs a H (61 * j)) (kk : ∀ H1, Inv D kA Hs a H1 (61 * (j + 1)) → V Pp l Ee (rmO 2048 94400 603072 7194730) Ss Mm Ar Bl Me Cc 9 (AA Hs nof) Q H1 (400 + 200 * (j + 1)) (6000 + 400 * (j + 1)) 2781 [(5, .int (nI (3 * j))), (4, .ref (a + 338)), (3, .ref (a + 337)), (2, .ref (a + 329)), (1, .ref a), (0, .ref sa)] []) : V Pp l Ee (rmO 2048 94400 603072 7194730) Ss Mm Ar Bl Me Cc 9 (AA Hs nof) Q H (400 + 200 * (j)) (6000 + 400 * (j)) 344 [(5, .int (nI (3 * j))), (4, .ref (a + 338)), (3, .ref (a + 337)), (2, .ref (a + 329)), (1, .ref a), (0, .ref sa)] [] := by
  obtain ⟨W, π, ES, u, hs, ep, fc, no, go, vs, cs, ns, gs, F, s, b, v, p, uu, tt, cc, n, t, hC, hG⟩ := hI
  have Y := Z.1
  have hS := hG.1.1.1
  have hM9 := hG.1.1
  have hjq : j ≤ 512 := by omega
  have hu8 := hC.1.2.2.2.2.2.2.2.1
  obtain ⟨w1, ho1⟩ := hC.2.2.1
  obtain ⟨x, hx⟩ : ∃ x, f (3 * j + 1) = x := ⟨_, rfl⟩
  obtain ⟨y, hy⟩ : ∃ y, f (3 * j + 2) = y := ⟨_, rfl⟩
  refine V_aload_n Y.1 4 dL_law_344 (rfl : _ = 345) rfl rfl ?_
  refine V_aload_n Y.1 5 dL_law_345 (rfl : _ = 346) rfl rfl ?_
  refine V_iload Y.1 0 dL_law_346 (rfl : _ = 348) rfl ?_
  refine V_iconst Y.1 (v := 1) dL_law_348 (rfl : _ = 349) (by decide) ?_
  refine V_iadd Y.1 dL_law_349 (rfl : _ = 350) ?_
  refine V_nm (v := nI (3 * j + 1)) (nI_add _ 1) ?_
  refine V_sld Y.1 (v := x) hsa (vp_in_nI (by omega) (by omega)) (by rw [nI_clamp (by omega)]; exact hx) dL_law_350 (rfl : _ = 351) ?_
  refine V_aload_n Y.1 5 dL_law_351 (rfl : _ = 352) rfl rfl ?_
  refine V_iload Y.1 0 dL_law_352 (rfl : _ = 354) rfl ?_
  refine V_iconst Y.1 (v := 2) dL_law_354 (rfl : _ = 355) (by decide) ?_
  refine V_iadd Y.1 dL_law_355 (rfl : _ = 356) ?_
  refine V_nm (v := nI (3 * j + 2)) (nI_add _ 2) ?_
  refine V_sld Y.1 (v := y) hsa (vp_in_nI (by omega) (by omega)) (by rw [nI_clamp (by omega)]; exact hy) dL_law_356 (rfl : _ = 357) ?_
  refine V_aload_n Y.1 2 dL_law_357 (rfl : _ = 358) rfl rfl ?_
  refine V_cI Y (sW Z (c_L_load l D kA Hs σ _ hC.2.2.2.2.1 a W π ES u hs ep fc no go vs cs ns gs x y n (t / 1440) (a + 337) w1 hC.1 hnt hM9.mi hC.2.2.2.2.2.1 ho1 (by omega) (by have := hC.2.2.2.2.2.2.2; omega) (by have := hC.2.2.2.2.2.1; omega)) mh_L_load si_L_162 rfl rfl (Nat.le_of_ble_eq_true rfl) ⟨Nat.le_of_ble_eq_true rfl, Nat.le_of_ble_eq_true rfl⟩ (by show _ ≤ 603072; omega) (by show _ ≤ 7194730; omega) dL_law_358) (fun q z => Or.inr (by have h9 := hC.2.2.2.2.2.1; rcases z with z | z; exact (by have := z.1; omega); exact (by have z : q = a + 337 := z; omega))) (rfl : _ = 361) (fun v_358 H358_14 hq_358 o_358 => ?_)
  obtain ⟨st1, st2⟩ := hG.1.step (by omega) (k := 1) (by decide) x y
  rw [show Q8 s n t 1 x y = q_load s x y from Q8_1] at st1 st2
  rcases hq_358 with ⟨hk9, r9, H9, w9, hP9, hst9, ho9, hw9⟩ | ⟨E9, hX9, hk9, ho9⟩
  · have hPm := hC.1.2.2.2.2.2.1
    have hk8 := hk9.symm
    subst hk8
    obtain ⟨hz9, hr9, hF9⟩ := hP9
    obtain ⟨a1, a2, n9, t9, a3⟩ := st1 hz9
    have hF8 := hF9.kept (hst9.off (F := fun q => q = a + 337) rfl) (fun q z e => by have e : q = a + 337 := e; have := z.2; omega) (fun e => by have e : vs = a + 337 := e; have := hC.2.2.2.2.2.2.2; omega) (fun q z e => by have e : q = a + 337 := e; have := hC.gro q z; omega)
    have hC := hC.cls o_358 (fun q z => z.elim Or.inl (fun e => Or.inr (Or.inr e))) hF8 ⟨_, ho9⟩ hC.gro hC.2.2.2.2.2.2.2
    rw [a2] at hr9
    refine V_istore Y.1 (ls' := [(6, _), (5, _), (4, _), (3, _), (2, _), (1, _), (0, _)]) dL_law_361 (rfl : _ = 363) (by decide) rfl ?_
    refine V_aload_n Y.1 4 dL_law_363 (rfl : _ = 364) rfl rfl ?_
    refine V_aload_n Y.1 6 dL_law_364 (rfl : _ = 365) rfl rfl ?_
    refine V_iload Y.1 1 dL_law_365 (rfl : _ = 367) rfl ?_
    refine V_iconst Y.1 (v := 1) dL_law_367 (rfl : _ = 368) (by decide) ?_
    refine V_iadd Y.1 dL_law_368 (rfl : _ = 369) ?_
    refine V_nm (v := nI (3 * j + 1)) (nI_add _ 1) ?_
    refine V_sld Y.1 (v := x) hsa (vp_in_nI (by omega) (by omega)) (by rw [nI_clamp (by omega)]; exact hx) dL_law_369 (rfl : _ = 370) ?_
    refine V_aload_n Y.1 6 dL_law_370 (rfl : _ = 371) rfl rfl ?_
    refine V_iload Y.1 1 dL_law_371 (rfl : _ = 373) rfl ?_
    refine V_iconst Y.1 (v := 2) dL_law_373 (rfl : _ = 374) (by decide) ?_
    refine V_iadd Y.1 dL_law_374 (rfl : _ = 375) ?_
    refine V_nm (v := nI (3 * j + 2)) (nI_add _ 2) ?_
    refine V_sld Y.1 (v := y) hsa (vp_in_nI (by omega) (by omega)) (by rw [nI_clamp (by omega)]; exact hy) dL_law_375 (rfl : _ = 376) ?_
    refine V_cI Y (rV Y (c_X6_load l D kA _ (a + 329) F s b v p uu tt cc n t x y u hu8 hC.2.1 hS.1 hG.2.1.1) mi_X6_load vi_L_165 rfl hC.2.1.1 rfl rfl (Nat.le_of_ble_eq_true rfl) ⟨Nat.le_of_ble_eq_true rfl, Nat.le_of_ble_eq_true rfl⟩ (by show _ ≤ 603072; omega) (by show _ ≤ 7194730; omega) dL_law_376) (fun q z => Or.inr (by have z := z.1; have := hC.2.2.2.2.2.1; omega)) (rfl : _ = 379) (fun v_376 H376_22 hq_376 o_376 => ?_)
    obtain ⟨hb2, hR2⟩ := hq_376
    rw [a1, if_pos rfl] at hb2
    rw [a1, if_pos rfl, if_pos rfl, r_fd_0] at hR2
    have hb3 := hr9.trans hb2.symm
    subst hb3
    have ho9 := ho9.off o_376 (fun e => by have := e.2; omega)
    have hC := hC.mod o_376 hR2
    refine V_istore Y.1 (ls' := [(7, _), (6, _), (5, _), (4, _), (3, _), (2, _), (1, _), (0, _)]) dL_law_379 (rfl : _ = 381) (by decide) rfl ?_
    refine V_aload_n Y.1 5 dL_law_381 (rfl : _ = 382) rfl rfl ?_
    refine V_cP Y (rV Y (c_X6_thrown l D kA _ (a + 329) _ _ _ _ _ _ _ _ hC.2.1) mi_X6_thrown vi_L_159 rfl hC.2.1.1 rfl rfl (Nat.le_of_ble_eq_true rfl) ⟨Nat.le_of_ble_eq_true rfl, Nat.le_of_ble_eq_true rfl⟩ (by show _ ≤ 603072; omega) (by show _ ≤ 7194730; omega) dL_law_382) (rfl : _ = 385) ?_
    refine V_iload Y.1 1 dL_law_385 (rfl : _ = 387) rfl ?_
    refine V_icmp_eq Y.1 (tgt := 392) dL_law_387 (by decide) (rfl : _ = 390) (fun _ => ?_) (fun c_n => absurd (by rw [pk_un (by decide), pk_us]) c_n)
    refine V_iload Y.1 1 dL_law_392 (rfl : _ = 394) rfl ?_
    refine V_if_ne Y.1 (tgt := 409) dL_law_394 (by decide) (rfl : _ = 397) (fun c_n => absurd rfl c_n) (fun _ => ?_)
    refine V_aload_n Y.1 4 dL_law_397 (rfl : _ = 398) rfl rfl ?_
    refine V_iconst Y.1 (v := 0) dL_law_398 (rfl : _ = 399) (by decide) ?_
    refine V_lald Y.1 (v := r9.toInt64) ho9 (show ¬ ((0 : Int32) < 0 ∨ 1 ≤ (0 : Int32).toNatClampNeg) by decide) hw9 dL_law_399 (rfl : _ = 400) ?_
    refine V_iload Y.1 0 dL_law_400 (rfl : _ = 402) rfl ?_
    refine V_i2l Y.1 dL_law_402 (rfl : _ = 403) rfl ?_
    refine V_lcmp Y.1 dL_law_403 (rfl : _ = 404) ?_
    refine V_if_eq Y.1 (tgt := 409) dL_law_404 (by decide) (rfl : _ = 407) (fun _ => ?_) (fun c_n => absurd (lg_self _) c_n)
    refine V_goto Y.1 (tgt := 2781) dL_law_409 (by decide) ?_
    exact V_forget (ls' := [(5, _), (4, _), (3, _), (2, _), (1, _), (0, _)]) [2, 3, 4, 5, 6, 7] rfl (V_widen (by omega) (by omega) (kk _ ⟨_, _, _, _, _, _, _, _, _, _, _, _, _, _, _, _, _, _, _, _, _, _, _, hC, hG.push hPm hu8 (by omega) (a3.more (by omega)) ⟨pk_us, by rw [pk_un (by decide), pk_un (by decide)], by rw [pk_un (by decide), pk_un (by decide)], by rw [pk_un (by decide), pk_un (by decide)], by rw [pk_un (by decide), pk_un (by decide)], by rw [pk_un (by decide), pk_un (by decide)]⟩⟩))
  · obtain ⟨hE9, hn9, hF8⟩ := hX9
    have hC := hC.cls o_358 (fun q z => z.elim Or.inl (fun e => Or.inr (Or.inr e))) hF8 ⟨_, ho9⟩ hC.2.2.2.2.2.2.1 hC.2.2.2.2.2.2.2
    have hq9 := st2 hn9
    rcases kz_1 hn9 with hz8 | hz8 | hz8
    · rw [hz8] at hE9
      subst hE9
      rw [hz8, pm_11] at hq9
      have hk7 : v_358 = 1 := hk9.trans (by decide)
      have hk8 := hk7.symm
      subst hk8
      refine V_istore Y.1 (ls' := [(6, _), (5, _), (4, _), (3, _), (2, _), (1, _), (0, _)]) dL_law_361 (rfl : _ = 363) (by decide) rfl ?_
      refine V_aload_n Y.1 4 dL_law_363 (rfl : _ = 364) rfl rfl ?_
      refine V_aload_n Y.1 6 dL_law_364 (rfl : _ = 365) rfl rfl ?_
      refine V_iload Y.1 1 dL_law_365 (rfl : _ = 367) rfl ?_
      refine V_iconst Y.1 (v := 1) dL_law_367 (rfl : _ = 368) (by decide) ?_
      refine V_iadd Y.1 dL_law_368 (rfl : _ = 369) ?_
      refine V_nm (v := nI (3 * j + 1)) (nI_add _ 1) ?_
      refine V_sld Y.1 (v := x) hsa (vp_in_nI (by omega) (by omega)) (by rw [nI_clamp (by omega)]; exact hx) dL_law_369 (rfl : _ = 370) ?_
      refine V_aload_n Y.1 6 dL_law_370 (rfl : _ = 371) rfl rfl ?_
      refine V_iload Y.1 1 dL_law_371 (rfl : _ = 373) rfl ?_
      refine V_iconst Y.1 (v := 2) dL_law_373 (rfl : _ = 374) (by decide) ?_
      refine V_iadd Y.1 dL_law_374 (rfl : _ = 375) ?_
      refine V_nm (v := nI (3 * j + 2)) (nI_add _ 2) ?_
      refine V_sld Y.1 (v := y) hsa (vp_in_nI (by omega) (by omega)) (by rw [nI_clamp (by omega)]; exact hy) dL_law_375 (rfl : _ = 376) ?_
      refine V_cI Y (rV Y (c_X6_load l D kA _ (a + 329) F s b v p uu tt cc n t x y u hu8 hC.2.1 hS.1 hG.2.1.1) mi_X6_load vi_L_165 rfl hC.2.1.1 rfl rfl (Nat.le_of_ble_eq_true rfl) ⟨Nat.le_of_ble_eq_true rfl, Nat.le_of_ble_eq_true rfl⟩ (by show _ ≤ 603072; omega) (by show _ ≤ 7194730; omega) dL_law_376) (fun q z => Or.inr (by have z := z.1; have := hC.2.2.2.2.2.1; omega)) (rfl : _ = 379) (fun v_376 H376_20 hq_376 o_376 => ?_)
      obtain ⟨hb2, hR2⟩ := hq_376
      rw [hq9, if_neg (by decide), if_neg (by decide), r_fd_n (by decide)] at hR2
      have hC := hC.mod o_376 hR2
      refine V_istore Y.1 (ls' := [(7, _), (6, _), (5, _), (4, _), (3, _), (2, _), (1, _), (0, _)]) dL_law_379 (rfl : _ = 381) (by decide) rfl ?_
      refine V_aload_n Y.1 5 dL_law_381 (rfl : _ = 382) rfl rfl ?_
      refine V_cP Y (rV Y (c_X6_thrown l D kA _ (a + 329) _ _ _ _ _ _ _ _ hC.2.1) mi_X6_thrown vi_L_159 rfl hC.2.1.1 rfl rfl (Nat.le_of_ble_eq_true rfl) ⟨Nat.le_of_ble_eq_true rfl, Nat.le_of_ble_eq_true rfl⟩ (by show _ ≤ 603072; omega) (by show _ ≤ 7194730; omega) dL_law_382) (rfl : _ = 385) ?_
      refine V_iload Y.1 1 dL_law_385 (rfl : _ = 387) rfl ?_
      refine V_icmp_eq Y.1 (tgt := 392) dL_law_387 (by decide) (rfl : _ = 390) (fun _ => ?_) (fun c_n => absurd pk_us c_n)
      refine V_iload Y.1 1 dL_law_392 (rfl : _ = 394) rfl ?_
      refine V_if_ne Y.1 (tgt := 409) dL_law_394 (by decide) (rfl : _ = 397) (fun _ => ?_) (fun c_n => absurd c_n (by decide))
      refine V_goto Y.1 (tgt := 2781) dL_law_409 (by decide) ?_
      exact V_forget (ls' := [(5, _), (4, _), (3, _), (2, _), (1, _), (0, _)]) [2, 3, 4, 5, 6, 7] rfl (V_widen (by omega) (by omega) (kk _ ⟨_, _, _, _, _, _, _, _, _, _, _, _, _, _, _, _, _, _, _, _, _, _, _, hC, (hG.f6 _).more (by omega)⟩))
    · rw [hz8] at hE9
      subst hE9
      rw [hz8, pm_12] at hq9
      have hk7 : v_358 = 2 := hk9.trans (by decide)
      have hk8 := hk7.symm
      subst hk8
      refine V_istore Y.1 (ls' := [(6, _), (5, _), (4, _), (3, _), (2, _), (1, _), (0, _)]) dL_law_361 (rfl : _ = 363) (by decide) rfl ?_
      refine V_aload_n Y.1 4 dL_law_363 (rfl : _ = 364) rfl rfl ?_
      refine V_aload_n Y.1 6 dL_law_364 (rfl : _ = 365) rfl rfl ?_
      refine V_iload Y.1 1 dL_law_365 (rfl : _ = 367) rfl ?_
      refine V_iconst Y.1 (v := 1) dL_law_367 (rfl : _ = 368) (by decide) ?_
      refine V_iadd Y.1 dL_law_368 (rfl : _ = 369) ?_
      refine V_nm (v := nI (3 * j + 1)) (nI_add _ 1) ?_
      refine V_sld Y.1 (v := x) hsa (vp_in_nI (by omega) (by omega)) (by rw [nI_clamp (by omega)]; exact hx) dL_law_369 (rfl : _ = 370) ?_
      refine V_aload_n Y.1 6 dL_law_370 (rfl : _ = 371) rfl rfl ?_
      refine V_iload Y.1 1 dL_law_371 (rfl : _ = 373) rfl ?_
      refine V_iconst Y.1 (v := 2) dL_law_373 (rfl : _ = 374) (by decide) ?_
      refine V_iadd Y.1 dL_law_374 (rfl : _ = 375) ?_
      refine V_nm (v := nI (3 * j + 2)) (nI_add _ 2) ?_
      refine V_sld Y.1 (v := y) hsa (vp_in_nI (by omega) (by omega)) (by rw [nI_clamp (by omega)]; exact hy) dL_law_375 (rfl : _ = 376) ?_
      refine V_cI Y (rV Y (c_X6_load l D kA _ (a + 329) F s b v p uu tt cc n t x y u hu8 hC.2.1 hS.1 hG.2.1.1) mi_X6_load vi_L_165 rfl hC.2.1.1 rfl rfl (Nat.le_of_ble_eq_true rfl) ⟨Nat.le_of_ble_eq_true rfl, Nat.le_of_ble_eq_true rfl⟩ (by show _ ≤ 603072; omega) (by show _ ≤ 7194730; omega) dL_law_376) (fun q z => Or.inr (by have z := z.1; have := hC.2.2.2.2.2.1; omega)) (rfl : _ = 379) (fun v_376 H376_20 hq_376 o_376 => ?_)
      obtain ⟨hb2, hR2⟩ := hq_376
      rw [hq9, if_neg (by decide), if_neg (by decide), r_fd_n (by decide)] at hR2
      have hC := hC.mod o_376 hR2
      refine V_istore Y.1 (ls' := [(7, _), (6, _), (5, _), (4, _), (3, _), (2, _), (1, _), (0, _)]) dL_law_379 (rfl : _ = 381) (by decide) rfl ?_
      refine V_aload_n Y.1 5 dL_law_381 (rfl : _ = 382) rfl rfl ?_
      refine V_cP Y (rV Y (c_X6_thrown l D kA _ (a + 329) _ _ _ _ _ _ _ _ hC.2.1) mi_X6_thrown vi_L_159 rfl hC.2.1.1 rfl rfl (Nat.le_of_ble_eq_true rfl) ⟨Nat.le_of_ble_eq_true rfl, Nat.le_of_ble_eq_true rfl⟩ (by show _ ≤ 603072; omega) (by show _ ≤ 7194730; omega) dL_law_382) (rfl : _ = 385) ?_
      refine V_iload Y.1 1 dL_law_385 (rfl : _ = 387) rfl ?_
      refine V_icmp_eq Y.1 (tgt := 392) dL_law_387 (by decide) (rfl : _ = 390) (fun _ => ?_) (fun c_n => absurd pk_us c_n)
      refine V_iload Y.1 1 dL_law_392 (rfl : _ = 394) rfl ?_
      refine V_if_ne Y.1 (tgt := 409) dL_law_394 (by decide) (rfl : _ = 397) (fun _ => ?_) (fun c_n => absurd c_n (by decide))
      refine V_goto Y.1 (tgt := 2781) dL_law_409 (by decide) ?_
      exact V_forget (ls' := [(5, _), (4, _), (3, _), (2, _), (1, _), (0, _)]) [2, 3, 4, 5, 6, 7] rfl (V_widen (by omega) (by omega) (kk _ ⟨_, _, _, _, _, _, _, _, _, _, _, _, _, _, _, _, _, _, _, _, _, _, _, hC, (hG.f6 _).more (by omega)⟩))
    · rw [hz8] at hE9
      subst hE9
      rw [hz8, pm_15] at hq9
      have hk7 : v_358 = 3 := hk9.trans (by decide)
      have hk8 := hk7.symm
      subst hk8
      refine V_istore Y.1 (ls' := [(6, _), (5, _), (4, _), (3, _), (2, _), (1, _), (0, _)]) dL_law_361 (rfl : _ = 363) (by decide) rfl ?_
      refine V_aload_n Y.1 4 dL_law_363 (rfl : _ = 364) rfl rfl ?_
      refine V_aload_n Y.1 6 dL_law_364 (rfl : _ = 365) rfl rfl ?_
      refine V_iload Y.1 1 dL_law_365 (rfl : _ = 367) rfl ?_
      refine V_iconst Y.1 (v := 1) dL_law_367 (rfl : _ = 368) (by decide) ?_
      refine V_iadd Y.1 dL_law_368 (rfl : _ = 369) ?_
      refine V_nm (v := nI (3 * j + 1)) (nI_add _ 1) ?_
      refine V_sld Y.1 (v := x) hsa (vp_in_nI (by omega) (by omega)) (by rw [nI_clamp (by omega)]; exact hx) dL_law_369 (rfl : _ = 370) ?_
      refine V_aload_n Y.1 6 dL_law_370 (rfl : _ = 371) rfl rfl ?_
      refine V_iload Y.1 1 dL_law_371 (rfl : _ = 373) rfl ?_
      refine V_iconst Y.1 (v := 2) dL_law_373 (rfl : _ = 374) (by decide) ?_
      refine V_iadd Y.1 dL_law_374 (rfl : _ = 375) ?_
      refine V_nm (v := nI (3 * j + 2)) (nI_add _ 2) ?_
      refine V_sld Y.1 (v := y) hsa (vp_in_nI (by omega) (by omega)) (by rw [nI_clamp (by omega)]; exact hy) dL_law_375 (rfl : _ = 376) ?_
      refine V_cI Y (rV Y (c_X6_load l D kA _ (a + 329) F s b v p uu tt cc n t x y u hu8 hC.2.1 hS.1 hG.2.1.1) mi_X6_load vi_L_165 rfl hC.2.1.1 rfl rfl (Nat.le_of_ble_eq_true rfl) ⟨Nat.le_of_ble_eq_true rfl, Nat.le_of_ble_eq_true rfl⟩ (by show _ ≤ 603072; omega) (by show _ ≤ 7194730; omega) dL_law_376) (fun q z => Or.inr (by have z := z.1; have := hC.2.2.2.2.2.1; omega)) (rfl : _ = 379) (fun v_376 H376_20 hq_376 o_376 => ?_)
      obtain ⟨hb2, hR2⟩ := hq_376
      rw [hq9, if_neg (by decide), if_neg (by decide), r_fd_n (by decide)] at hR2
      have hC := hC.mod o_376 hR2
      refine V_istore Y.1 (ls' := [(7, _), (6, _), (5, _), (4, _), (3, _), (2, _), (1, _), (0, _)]) dL_law_379 (rfl : _ = 381) (by decide) rfl ?_
      refine V_aload_n Y.1 5 dL_law_381 (rfl : _ = 382) rfl rfl ?_
      refine V_cP Y (rV Y (c_X6_thrown l D kA _ (a + 329) _ _ _ _ _ _ _ _ hC.2.1) mi_X6_thrown vi_L_159 rfl hC.2.1.1 rfl rfl (Nat.le_of_ble_eq_true rfl) ⟨Nat.le_of_ble_eq_true rfl, Nat.le_of_ble_eq_true rfl⟩ (by show _ ≤ 603072; omega) (by show _ ≤ 7194730; omega) dL_law_382) (rfl : _ = 385) ?_
      refine V_iload Y.1 1 dL_law_385 (rfl : _ = 387) rfl ?_
      refine V_icmp_eq Y.1 (tgt := 392) dL_law_387 (by decide) (rfl : _ = 390) (fun _ => ?_) (fun c_n => absurd pk_us c_n)
      refine V_iload Y.1 1 dL_law_392 (rfl : _ = 394) rfl ?_
      refine V_if_ne Y.1 (tgt := 409) dL_law_394 (by decide) (rfl : _ = 397) (fun _ => ?_) (fun c_n => absurd c_n (by decide))
      refine V_goto Y.1 (tgt := 2781) dL_law_409 (by decide) ?_
      exact V_forget (ls' := [(5, _), (4, _), (3, _), (2, _), (1, _), (0, _)]) [2, 3, 4, 5, 6, 7] rfl (V_widen (by omega) (by omega) (kk _ ⟨_, _, _, _, _, _, _, _, _, _, _, _, _, _, _, _, _, _, _, _, _, _, _, hC, (hG.f6 _).more (by omega)⟩))

set_option maxRecDepth 100000 in
set_option maxHeartbeats 4000000 in
theorem lc_2 (l : Launch) (D : va_G) (kA : Nat → ClassId) (Hs : Heap) (σ : SG) (hnt : l.stackTraces = false) {Pp : Program} {Ee : Env} {Ss : State} {Mm : MethodId} {Ar : Array Value} {Bl : List Frame} {Me : Method} {Cc : Code} {Q : State → Prop} (Z : Ys Pp Ss Mm Ar Me Cc cL_law 9 (some .boolean) "MetroFaresLaw" D kA (AA Hs nof) Hs σ) (sa N : Nat) (f : Nat → Int32) (hsa : va_X sa N f Ss Ss.heap ∧ sa < Ss.heap.size ∧ ¬ AA Hs nof sa) (hN : N ≤ 1536) (a j : Nat) (hj : 3 * j + 3 ≤ N) (H : Heap) (hI : Inv D kA Hs a H (61 * j)) (kk : ∀ H1, Inv D kA Hs a H1 (61 * (j + 1)) → V Pp l Ee (rmO 2048 94400 603072 7194730) Ss Mm Ar Bl Me Cc 9 (AA Hs nof) Q H1 (400 + 200 * (j + 1)) (6000 + 400 * (j + 1)) 2781 [(5, .int (nI (3 * j))), (4, .ref (a + 338)), (3, .ref (a + 337)), (2, .ref (a + 329)), (1, .ref a), (0, .ref sa)] []) : V Pp l Ee (rmO 2048 94400 603072 7194730) Ss Mm Ar Bl Me Cc 9 (AA Hs nof) Q H (400 + 200 * (j)) (6000 + 400 * (j)) 412 [(5, .int (nI (3 * j))), (4, .ref (a + 338)), (3, .ref (a + 337)), (2, .ref (a + 329)), (1, .ref a), (0, .ref sa)] [] := by
  obtain ⟨W, π, ES, u, hs, ep, fc, no, go, vs, cs, ns, gs, F, s, b, v, p, uu, tt, cc, n, t, hC, hG⟩ := hI
  have Y := Z.1
  have hS := hG.1.1.1
  have hM9 := hG.1.1
  have hjq : j ≤ 512 := by omega
  have hu8 := hC.1.2.2.2.2.2.2.2.1
  obtain ⟨w1, ho1⟩ := hC.2.2.1
  obtain ⟨x, hx⟩ : ∃ x, f (3 * j + 1) = x := ⟨_, rfl⟩
  obtain ⟨y, hy⟩ : ∃ y, f (3 * j + 2) = y := ⟨_, rfl⟩
  refine V_aload_n Y.1 4 dL_law_412 (rfl : _ = 413) rfl rfl ?_
  refine V_aload_n Y.1 5 dL_law_413 (rfl : _ = 414) rfl rfl ?_
  refine V_iload Y.1 0 dL_law_414 (rfl : _ = 416) rfl ?_
  refine V_iconst Y.1 (v := 1) dL_law_416 (rfl : _ = 417) (by decide) ?_
  refine V_iadd Y.1 dL_law_417 (rfl : _ = 418) ?_
  refine V_nm (v := nI (3 * j + 1)) (nI_add _ 1) ?_
  refine V_sld Y.1 (v := x) hsa (vp_in_nI (by omega) (by omega)) (by rw [nI_clamp (by omega)]; exact hx) dL_law_418 (rfl : _ = 419) ?_
  refine V_aload_n Y.1 5 dL_law_419 (rfl : _ = 420) rfl rfl ?_
  refine V_iload Y.1 0 dL_law_420 (rfl : _ = 422) rfl ?_
  refine V_iconst Y.1 (v := 2) dL_law_422 (rfl : _ = 423) (by decide) ?_
  refine V_iadd Y.1 dL_law_423 (rfl : _ = 424) ?_
  refine V_nm (v := nI (3 * j + 2)) (nI_add _ 2) ?_
  refine V_sld Y.1 (v := y) hsa (vp_in_nI (by omega) (by omega)) (by rw [nI_clamp (by omega)]; exact hy) dL_law_424 (rfl : _ = 425) ?_
  refine V_aload_n Y.1 2 dL_law_425 (rfl : _ = 426) rfl rfl ?_
  refine V_cI Y (sW Z (c_L_tapIn l D kA Hs σ _ hC.2.2.2.2.1 a W π ES u hs ep fc no go vs cs ns gs x y n (t / 1440) (a + 337) w1 hC.1 hnt hM9.mi hC.2.2.2.2.2.1 ho1 (by omega) (by have := hC.2.2.2.2.2.2.2; omega) (by have := hC.2.2.2.2.2.1; omega)) mh_L_tapIn si_L_166 rfl rfl (Nat.le_of_ble_eq_true rfl) ⟨Nat.le_of_ble_eq_true rfl, Nat.le_of_ble_eq_true rfl⟩ (by show _ ≤ 603072; omega) (by show _ ≤ 7194730; omega) dL_law_426) (fun q z => Or.inr (by have h9 := hC.2.2.2.2.2.1; rcases z with z | z; exact (by have := z.1; omega); exact (by have z : q = a + 337 := z; omega))) (rfl : _ = 429) (fun v_426 H426_14 hq_426 o_426 => ?_)
  obtain ⟨st1, st2⟩ := hG.1.step (by omega) (k := 2) (by decide) x y
  rw [show Q8 s n t 2 x y = q_in s (t / 1440) x y from Q8_2] at st1 st2
  rcases hq_426 with ⟨hk9, r9, H9, w9, hP9, hst9, ho9, hw9⟩ | ⟨E9, hX9, hk9, ho9⟩
  · have hPm := hC.1.2.2.2.2.2.1
    have hk8 := hk9.symm
    subst hk8
    obtain ⟨hz9, hr9, hF9⟩ := hP9
    obtain ⟨a1, a2, n9, t9, a3⟩ := st1 hz9
    have hF8 := hF9.kept (hst9.off (F := fun q => q = a + 337) rfl) (fun q z e => by have e : q = a + 337 := e; have := z.2; omega) (fun e => by have e : vs = a + 337 := e; have := hC.2.2.2.2.2.2.2; omega) (fun q z e => by have e : q = a + 337 := e; have := hC.gro q z; omega)
    have hC := hC.cls o_426 (fun q z => z.elim Or.inl (fun e => Or.inr (Or.inr e))) hF8 ⟨_, ho9⟩ hC.gro hC.2.2.2.2.2.2.2
    rw [a2] at hr9
    refine V_istore Y.1 (ls' := [(6, _), (5, _), (4, _), (3, _), (2, _), (1, _), (0, _)]) dL_law_429 (rfl : _ = 431) (by decide) rfl ?_
    refine V_aload_n Y.1 4 dL_law_431 (rfl : _ = 432) rfl rfl ?_
    refine V_aload_n Y.1 6 dL_law_432 (rfl : _ = 433) rfl rfl ?_
    refine V_iload Y.1 1 dL_law_433 (rfl : _ = 435) rfl ?_
    refine V_iconst Y.1 (v := 1) dL_law_435 (rfl : _ = 436) (by decide) ?_
    refine V_iadd Y.1 dL_law_436 (rfl : _ = 437) ?_
    refine V_nm (v := nI (3 * j + 1)) (nI_add _ 1) ?_
    refine V_sld Y.1 (v := x) hsa (vp_in_nI (by omega) (by omega)) (by rw [nI_clamp (by omega)]; exact hx) dL_law_437 (rfl : _ = 438) ?_
    refine V_aload_n Y.1 6 dL_law_438 (rfl : _ = 439) rfl rfl ?_
    refine V_iload Y.1 1 dL_law_439 (rfl : _ = 441) rfl ?_
    refine V_iconst Y.1 (v := 2) dL_law_441 (rfl : _ = 442) (by decide) ?_
    refine V_iadd Y.1 dL_law_442 (rfl : _ = 443) ?_
    refine V_nm (v := nI (3 * j + 2)) (nI_add _ 2) ?_
    refine V_sld Y.1 (v := y) hsa (vp_in_nI (by omega) (by omega)) (by rw [nI_clamp (by omega)]; exact hy) dL_law_443 (rfl : _ = 444) ?_
    refine V_cI Y (rV Y (c_X6_tapIn l D kA _ (a + 329) F s b v p uu tt cc n t x y u hu8 hC.2.1 hS.1 hG.2.1.1) mi_X6_tapIn vi_L_168 rfl hC.2.1.1 rfl rfl (Nat.le_of_ble_eq_true rfl) ⟨Nat.le_of_ble_eq_true rfl, Nat.le_of_ble_eq_true rfl⟩ (by show _ ≤ 603072; omega) (by show _ ≤ 7194730; omega) dL_law_444) (fun q z => Or.inr (by have z := z.1; have := hC.2.2.2.2.2.1; omega)) (rfl : _ = 447) (fun v_444 H444_22 hq_444 o_444 => ?_)
    obtain ⟨hb2, hR2⟩ := hq_444
    rw [a1, if_pos rfl] at hb2
    rw [a1, if_pos rfl, if_pos rfl, r_fd_0] at hR2
    have hb3 := hr9.trans hb2.symm
    subst hb3
    have ho9 := ho9.off o_444 (fun e => by have := e.2; omega)
    have hC := hC.mod o_444 hR2
    refine V_istore Y.1 (ls' := [(7, _), (6, _), (5, _), (4, _), (3, _), (2, _), (1, _), (0, _)]) dL_law_447 (rfl : _ = 449) (by decide) rfl ?_
    refine V_aload_n Y.1 5 dL_law_449 (rfl : _ = 450) rfl rfl ?_
    refine V_cP Y (rV Y (c_X6_thrown l D kA _ (a + 329) _ _ _ _ _ _ _ _ hC.2.1) mi_X6_thrown vi_L_159 rfl hC.2.1.1 rfl rfl (Nat.le_of_ble_eq_true rfl) ⟨Nat.le_of_ble_eq_true rfl, Nat.le_of_ble_eq_true rfl⟩ (by show _ ≤ 603072; omega) (by show _ ≤ 7194730; omega) dL_law_450) (rfl : _ = 453) ?_
    refine V_iload Y.1 1 dL_law_453 (rfl : _ = 455) rfl ?_
    refine V_icmp_eq Y.1 (tgt := 460) dL_law_455 (by decide) (rfl : _ = 458) (fun _ => ?_) (fun c_n => absurd (by rw [pk_un (by decide), pk_us]) c_n)
    refine V_iload Y.1 1 dL_law_460 (rfl : _ = 462) rfl ?_
    refine V_if_ne Y.1 (tgt := 484) dL_law_462 (by decide) (rfl : _ = 465) (fun c_n => absurd rfl c_n) (fun _ => ?_)
    refine V_aload_n Y.1 4 dL_law_465 (rfl : _ = 466) rfl rfl ?_
    refine V_iconst Y.1 (v := 0) dL_law_466 (rfl : _ = 467) (by decide) ?_
    refine V_lald Y.1 (v := (if r9 = 0 then 0 else 1)) ho9 (show ¬ ((0 : Int32) < 0 ∨ 1 ≤ (0 : Int32).toNatClampNeg) by decide) hw9 dL_law_467 (rfl : _ = 468) ?_
    refine V_iload Y.1 0 dL_law_468 (rfl : _ = 470) rfl ?_
    refine V_if_eq Y.1 (tgt := 477) dL_law_470 (by decide) (rfl : _ = 473) (fun c_470 => ?_) (fun c_470 => ?_)
    · refine V_lconst Y.1 (v := 0) dL_law_477 (rfl : _ = 478) (by decide) ?_
      refine V_lcmp Y.1 dL_law_478 (rfl : _ = 479) ?_
      refine V_if_eq Y.1 (tgt := 484) dL_law_479 (by decide) (rfl : _ = 482) (fun _ => ?_) (fun c_n => absurd (by rw [if_pos c_470]; exact lg_self _) c_n)
      refine V_goto Y.1 (tgt := 2781) dL_law_484 (by decide) ?_
      exact V_forget (ls' := [(5, _), (4, _), (3, _), (2, _), (1, _), (0, _)]) [2, 3, 4, 5, 6, 7] rfl (V_widen (by omega) (by omega) (kk _ ⟨_, _, _, _, _, _, _, _, _, _, _, _, _, _, _, _, _, _, _, _, _, _, _, hC, hG.push hPm hu8 (by omega) (a3.more (by omega)) ⟨pk_us, by rw [pk_un (by decide), pk_un (by decide)], by rw [pk_un (by decide), pk_un (by decide)], by rw [pk_un (by decide), pk_un (by decide)], by rw [pk_un (by decide), pk_un (by decide)], by rw [pk_un (by decide), pk_un (by decide)]⟩⟩))
    · refine V_lconst Y.1 (v := 1) dL_law_473 (rfl : _ = 474) (by decide) ?_
      refine V_goto Y.1 (tgt := 478) dL_law_474 (by decide) ?_
      refine V_lcmp Y.1 dL_law_478 (rfl : _ = 479) ?_
      refine V_if_eq Y.1 (tgt := 484) dL_law_479 (by decide) (rfl : _ = 482) (fun _ => ?_) (fun c_n => absurd (by rw [if_neg c_470]; exact lg_self _) c_n)
      refine V_goto Y.1 (tgt := 2781) dL_law_484 (by decide) ?_
      exact V_forget (ls' := [(5, _), (4, _), (3, _), (2, _), (1, _), (0, _)]) [2, 3, 4, 5, 6, 7] rfl (V_widen (by omega) (by omega) (kk _ ⟨_, _, _, _, _, _, _, _, _, _, _, _, _, _, _, _, _, _, _, _, _, _, _, hC, hG.push hPm hu8 (by omega) (a3.more (by omega)) ⟨pk_us, by rw [pk_un (by decide), pk_un (by decide)], by rw [pk_un (by decide), pk_un (by decide)], by rw [pk_un (by decide), pk_un (by decide)], by rw [pk_un (by decide), pk_un (by decide)], by rw [pk_un (by decide), pk_un (by decide)]⟩⟩))
  · obtain ⟨hE9, hn9, hF8⟩ := hX9
    have hC := hC.cls o_426 (fun q z => z.elim Or.inl (fun e => Or.inr (Or.inr e))) hF8 ⟨_, ho9⟩ hC.2.2.2.2.2.2.1 hC.2.2.2.2.2.2.2
    have hq9 := st2 hn9
    rcases kz_2 hn9 with hz8 | hz8
    · rw [hz8] at hE9
      subst hE9
      rw [hz8, pm_21] at hq9
      have hk7 : v_426 = 1 := hk9.trans (by decide)
      have hk8 := hk7.symm
      subst hk8
      refine V_istore Y.1 (ls' := [(6, _), (5, _), (4, _), (3, _), (2, _), (1, _), (0, _)]) dL_law_429 (rfl : _ = 431) (by decide) rfl ?_
      refine V_aload_n Y.1 4 dL_law_431 (rfl : _ = 432) rfl rfl ?_
      refine V_aload_n Y.1 6 dL_law_432 (rfl : _ = 433) rfl rfl ?_
      refine V_iload Y.1 1 dL_law_433 (rfl : _ = 435) rfl ?_
      refine V_iconst Y.1 (v := 1) dL_law_435 (rfl : _ = 436) (by decide) ?_
      refine V_iadd Y.1 dL_law_436 (rfl : _ = 437) ?_
      refine V_nm (v := nI (3 * j + 1)) (nI_add _ 1) ?_
      refine V_sld Y.1 (v := x) hsa (vp_in_nI (by omega) (by omega)) (by rw [nI_clamp (by omega)]; exact hx) dL_law_437 (rfl : _ = 438) ?_
      refine V_aload_n Y.1 6 dL_law_438 (rfl : _ = 439) rfl rfl ?_
      refine V_iload Y.1 1 dL_law_439 (rfl : _ = 441) rfl ?_
      refine V_iconst Y.1 (v := 2) dL_law_441 (rfl : _ = 442) (by decide) ?_
      refine V_iadd Y.1 dL_law_442 (rfl : _ = 443) ?_
      refine V_nm (v := nI (3 * j + 2)) (nI_add _ 2) ?_
      refine V_sld Y.1 (v := y) hsa (vp_in_nI (by omega) (by omega)) (by rw [nI_clamp (by omega)]; exact hy) dL_law_443 (rfl : _ = 444) ?_
      refine V_cI Y (rV Y (c_X6_tapIn l D kA _ (a + 329) F s b v p uu tt cc n t x y u hu8 hC.2.1 hS.1 hG.2.1.1) mi_X6_tapIn vi_L_168 rfl hC.2.1.1 rfl rfl (Nat.le_of_ble_eq_true rfl) ⟨Nat.le_of_ble_eq_true rfl, Nat.le_of_ble_eq_true rfl⟩ (by show _ ≤ 603072; omega) (by show _ ≤ 7194730; omega) dL_law_444) (fun q z => Or.inr (by have z := z.1; have := hC.2.2.2.2.2.1; omega)) (rfl : _ = 447) (fun v_444 H444_20 hq_444 o_444 => ?_)
      obtain ⟨hb2, hR2⟩ := hq_444
      rw [hq9, if_neg (by decide), if_neg (by decide), r_fd_n (by decide)] at hR2
      have hC := hC.mod o_444 hR2
      refine V_istore Y.1 (ls' := [(7, _), (6, _), (5, _), (4, _), (3, _), (2, _), (1, _), (0, _)]) dL_law_447 (rfl : _ = 449) (by decide) rfl ?_
      refine V_aload_n Y.1 5 dL_law_449 (rfl : _ = 450) rfl rfl ?_
      refine V_cP Y (rV Y (c_X6_thrown l D kA _ (a + 329) _ _ _ _ _ _ _ _ hC.2.1) mi_X6_thrown vi_L_159 rfl hC.2.1.1 rfl rfl (Nat.le_of_ble_eq_true rfl) ⟨Nat.le_of_ble_eq_true rfl, Nat.le_of_ble_eq_true rfl⟩ (by show _ ≤ 603072; omega) (by show _ ≤ 7194730; omega) dL_law_450) (rfl : _ = 453) ?_
      refine V_iload Y.1 1 dL_law_453 (rfl : _ = 455) rfl ?_
      refine V_icmp_eq Y.1 (tgt := 460) dL_law_455 (by decide) (rfl : _ = 458) (fun _ => ?_) (fun c_n => absurd pk_us c_n)
      refine V_iload Y.1 1 dL_law_460 (rfl : _ = 462) rfl ?_
      refine V_if_ne Y.1 (tgt := 484) dL_law_462 (by decide) (rfl : _ = 465) (fun _ => ?_) (fun c_n => absurd c_n (by decide))
      refine V_goto Y.1 (tgt := 2781) dL_law_484 (by decide) ?_
      exact V_forget (ls' := [(5, _), (4, _), (3, _), (2, _), (1, _), (0, _)]) [2, 3, 4, 5, 6, 7] rfl (V_widen (by omega) (by omega) (kk _ ⟨_, _, _, _, _, _, _, _, _, _, _, _, _, _, _, _, _, _, _, _, _, _, _, hC, (hG.f6 _).more (by omega)⟩))
    · rw [hz8] at hE9
      subst hE9
      rw [hz8, pm_23] at hq9
      have hk7 : v_426 = 2 := hk9.trans (by decide)
      have hk8 := hk7.symm
      subst hk8
      refine V_istore Y.1 (ls' := [(6, _), (5, _), (4, _), (3, _), (2, _), (1, _), (0, _)]) dL_law_429 (rfl : _ = 431) (by decide) rfl ?_
      refine V_aload_n Y.1 4 dL_law_431 (rfl : _ = 432) rfl rfl ?_
      refine V_aload_n Y.1 6 dL_law_432 (rfl : _ = 433) rfl rfl ?_
      refine V_iload Y.1 1 dL_law_433 (rfl : _ = 435) rfl ?_
      refine V_iconst Y.1 (v := 1) dL_law_435 (rfl : _ = 436) (by decide) ?_
      refine V_iadd Y.1 dL_law_436 (rfl : _ = 437) ?_
      refine V_nm (v := nI (3 * j + 1)) (nI_add _ 1) ?_
      refine V_sld Y.1 (v := x) hsa (vp_in_nI (by omega) (by omega)) (by rw [nI_clamp (by omega)]; exact hx) dL_law_437 (rfl : _ = 438) ?_
      refine V_aload_n Y.1 6 dL_law_438 (rfl : _ = 439) rfl rfl ?_
      refine V_iload Y.1 1 dL_law_439 (rfl : _ = 441) rfl ?_
      refine V_iconst Y.1 (v := 2) dL_law_441 (rfl : _ = 442) (by decide) ?_
      refine V_iadd Y.1 dL_law_442 (rfl : _ = 443) ?_
      refine V_nm (v := nI (3 * j + 2)) (nI_add _ 2) ?_
      refine V_sld Y.1 (v := y) hsa (vp_in_nI (by omega) (by omega)) (by rw [nI_clamp (by omega)]; exact hy) dL_law_443 (rfl : _ = 444) ?_
      refine V_cI Y (rV Y (c_X6_tapIn l D kA _ (a + 329) F s b v p uu tt cc n t x y u hu8 hC.2.1 hS.1 hG.2.1.1) mi_X6_tapIn vi_L_168 rfl hC.2.1.1 rfl rfl (Nat.le_of_ble_eq_true rfl) ⟨Nat.le_of_ble_eq_true rfl, Nat.le_of_ble_eq_true rfl⟩ (by show _ ≤ 603072; omega) (by show _ ≤ 7194730; omega) dL_law_444) (fun q z => Or.inr (by have z := z.1; have := hC.2.2.2.2.2.1; omega)) (rfl : _ = 447) (fun v_444 H444_20 hq_444 o_444 => ?_)
      obtain ⟨hb2, hR2⟩ := hq_444
      rw [hq9, if_neg (by decide), if_neg (by decide), r_fd_n (by decide)] at hR2
      have hC := hC.mod o_444 hR2
      refine V_istore Y.1 (ls' := [(7, _), (6, _), (5, _), (4, _), (3, _), (2, _), (1, _), (0, _)]) dL_law_447 (rfl : _ = 449) (by decide) rfl ?_
      refine V_aload_n Y.1 5 dL_law_449 (rfl : _ = 450) rfl rfl ?_
      refine V_cP Y (rV Y (c_X6_thrown l D kA _ (a + 329) _ _ _ _ _ _ _ _ hC.2.1) mi_X6_thrown vi_L_159 rfl hC.2.1.1 rfl rfl (Nat.le_of_ble_eq_true rfl) ⟨Nat.le_of_ble_eq_true rfl, Nat.le_of_ble_eq_true rfl⟩ (by show _ ≤ 603072; omega) (by show _ ≤ 7194730; omega) dL_law_450) (rfl : _ = 453) ?_
      refine V_iload Y.1 1 dL_law_453 (rfl : _ = 455) rfl ?_
      refine V_icmp_eq Y.1 (tgt := 460) dL_law_455 (by decide) (rfl : _ = 458) (fun _ => ?_) (fun c_n => absurd pk_us c_n)
      refine V_iload Y.1 1 dL_law_460 (rfl : _ = 462) rfl ?_
      refine V_if_ne Y.1 (tgt := 484) dL_law_462 (by decide) (rfl : _ = 465) (fun _ => ?_) (fun c_n => absurd c_n (by decide))
      refine V_goto Y.1 (tgt := 2781) dL_law_484 (by decide) ?_
      exact V_forget (ls' := [(5, _), (4, _), (3, _), (2, _), (1, _), (0, _)]) [2, 3, 4, 5, 6, 7] rfl (V_widen (by omega) (by omega) (kk _ ⟨_, _, _, _, _, _, _, _, _, _, _, _, _, _, _, _, _, _, _, _, _, _, _, hC, (hG.f6 _).more (by omega)⟩))

set_option maxRecDepth 100000 in
set_option maxHeartbeats 4000000 in
theorem lc_3 (l : Launch) (D : va_G) (kA : Nat → ClassId) (Hs : Heap) (σ : SG) (hnt : l.stackTraces = false) {Pp : Program} {Ee : Env} {Ss : State} {Mm : MethodId} {Ar : Array Value} {Bl : List Frame} {Me : Method} {Cc : Code} {Q : State → Prop} (Z : Ys Pp Ss Mm Ar Me Cc cL_law 9 (some .boolean) "MetroFaresLaw" D kA (AA Hs nof) Hs σ) (sa N : Nat) (f : Nat → Int32) (hsa : va_X sa N f Ss Ss.heap ∧ sa < Ss.heap.size ∧ ¬ AA Hs nof sa) (hN : N ≤ 1536) (a j : Nat) (hj : 3 * j + 3 ≤ N) (H : Heap) (hI : Inv D kA Hs a H (61 * j)) (kk : ∀ H1, Inv D kA Hs a H1 (61 * (j + 1)) → V Pp l Ee (rmO 2048 94400 603072 7194730) Ss Mm Ar Bl Me Cc 9 (AA Hs nof) Q H1 (400 + 200 * (j + 1)) (6000 + 400 * (j + 1)) 2781 [(5, .int (nI (3 * j))), (4, .ref (a + 338)), (3, .ref (a + 337)), (2, .ref (a + 329)), (1, .ref a), (0, .ref sa)] []) : V Pp l Ee (rmO 2048 94400 603072 7194730) Ss Mm Ar Bl Me Cc 9 (AA Hs nof) Q H (400 + 200 * (j)) (6000 + 400 * (j)) 487 [(5, .int (nI (3 * j))), (4, .ref (a + 338)), (3, .ref (a + 337)), (2, .ref (a + 329)), (1, .ref a), (0, .ref sa)] [] := by
  obtain ⟨W, π, ES, u, hs, ep, fc, no, go, vs, cs, ns, gs, F, s, b, v, p, uu, tt, cc, n, t, hC, hG⟩ := hI
  have Y := Z.1
  have hS := hG.1.1.1
  have hM9 := hG.1.1
  have hjq : j ≤ 512 := by omega
  have hu8 := hC.1.2.2.2.2.2.2.2.1
  obtain ⟨w1, ho1⟩ := hC.2.2.1
  obtain ⟨x, hx⟩ : ∃ x, f (3 * j + 1) = x := ⟨_, rfl⟩
  obtain ⟨y, hy⟩ : ∃ y, f (3 * j + 2) = y := ⟨_, rfl⟩
  refine V_aload_n Y.1 4 dL_law_487 (rfl : _ = 488) rfl rfl ?_
  refine V_aload_n Y.1 5 dL_law_488 (rfl : _ = 489) rfl rfl ?_
  refine V_iload Y.1 0 dL_law_489 (rfl : _ = 491) rfl ?_
  refine V_iconst Y.1 (v := 1) dL_law_491 (rfl : _ = 492) (by decide) ?_
  refine V_iadd Y.1 dL_law_492 (rfl : _ = 493) ?_
  refine V_nm (v := nI (3 * j + 1)) (nI_add _ 1) ?_
  refine V_sld Y.1 (v := x) hsa (vp_in_nI (by omega) (by omega)) (by rw [nI_clamp (by omega)]; exact hx) dL_law_493 (rfl : _ = 494) ?_
  refine V_aload_n Y.1 5 dL_law_494 (rfl : _ = 495) rfl rfl ?_
  refine V_iload Y.1 0 dL_law_495 (rfl : _ = 497) rfl ?_
  refine V_iconst Y.1 (v := 2) dL_law_497 (rfl : _ = 498) (by decide) ?_
  refine V_iadd Y.1 dL_law_498 (rfl : _ = 499) ?_
  refine V_nm (v := nI (3 * j + 2)) (nI_add _ 2) ?_
  refine V_sld Y.1 (v := y) hsa (vp_in_nI (by omega) (by omega)) (by rw [nI_clamp (by omega)]; exact hy) dL_law_499 (rfl : _ = 500) ?_
  refine V_aload_n Y.1 2 dL_law_500 (rfl : _ = 501) rfl rfl ?_
  refine V_cI Y (sW Z (c_L_tapOut l D kA Hs σ _ hC.2.2.2.2.1 a W π ES u hs ep fc no go vs cs ns gs x y n (t / 1440) (a + 337) w1 hC.1 hnt hM9.mi hC.2.2.2.2.2.1 ho1 (by omega) (by have := hC.2.2.2.2.2.2.2; omega) (by have := hC.2.2.2.2.2.1; omega)) mh_L_tapOut si_L_169 rfl rfl (Nat.le_of_ble_eq_true rfl) ⟨Nat.le_of_ble_eq_true rfl, Nat.le_of_ble_eq_true rfl⟩ (by show _ ≤ 603072; omega) (by show _ ≤ 7194730; omega) dL_law_501) (fun q z => Or.inr (by have h9 := hC.2.2.2.2.2.1; rcases z with z | z; exact (by have := z.1; omega); exact (by have z : q = a + 337 := z; omega))) (rfl : _ = 504) (fun v_501 H501_14 hq_501 o_501 => ?_)
  obtain ⟨st1, st2⟩ := hG.1.step (by omega) (k := 3) (by decide) x y
  rw [show Q8 s n t 3 x y = q_out s (t / 1440) x y from Q8_3] at st1 st2
  rcases hq_501 with ⟨hk9, r9, H9, w9, hP9, hst9, ho9, hw9⟩ | ⟨E9, hX9, hk9, ho9⟩
  · have hPm := hC.1.2.2.2.2.2.1
    have hk8 := hk9.symm
    subst hk8
    obtain ⟨hz9, hr9, hF9⟩ := hP9
    obtain ⟨a1, a2, n9, t9, a3⟩ := st1 hz9
    have hF8 := hF9.kept (hst9.off (F := fun q => q = a + 337) rfl) (fun q z e => by have e : q = a + 337 := e; have := z.2; omega) (fun e => by have e : vs = a + 337 := e; have := hC.2.2.2.2.2.2.2; omega) (fun q z e => by have e : q = a + 337 := e; have := hC.gro q z; omega)
    have hC := hC.cls o_501 (fun q z => z.elim Or.inl (fun e => Or.inr (Or.inr e))) hF8 ⟨_, ho9⟩ hC.gro hC.2.2.2.2.2.2.2
    rw [a2] at hr9
    refine V_istore Y.1 (ls' := [(6, _), (5, _), (4, _), (3, _), (2, _), (1, _), (0, _)]) dL_law_504 (rfl : _ = 506) (by decide) rfl ?_
    refine V_aload_n Y.1 4 dL_law_506 (rfl : _ = 507) rfl rfl ?_
    refine V_aload_n Y.1 6 dL_law_507 (rfl : _ = 508) rfl rfl ?_
    refine V_iload Y.1 1 dL_law_508 (rfl : _ = 510) rfl ?_
    refine V_iconst Y.1 (v := 1) dL_law_510 (rfl : _ = 511) (by decide) ?_
    refine V_iadd Y.1 dL_law_511 (rfl : _ = 512) ?_
    refine V_nm (v := nI (3 * j + 1)) (nI_add _ 1) ?_
    refine V_sld Y.1 (v := x) hsa (vp_in_nI (by omega) (by omega)) (by rw [nI_clamp (by omega)]; exact hx) dL_law_512 (rfl : _ = 513) ?_
    refine V_aload_n Y.1 6 dL_law_513 (rfl : _ = 514) rfl rfl ?_
    refine V_iload Y.1 1 dL_law_514 (rfl : _ = 516) rfl ?_
    refine V_iconst Y.1 (v := 2) dL_law_516 (rfl : _ = 517) (by decide) ?_
    refine V_iadd Y.1 dL_law_517 (rfl : _ = 518) ?_
    refine V_nm (v := nI (3 * j + 2)) (nI_add _ 2) ?_
    refine V_sld Y.1 (v := y) hsa (vp_in_nI (by omega) (by omega)) (by rw [nI_clamp (by omega)]; exact hy) dL_law_518 (rfl : _ = 519) ?_
    refine V_cI Y (rV Y (c_X6_tapOut l D kA _ (a + 329) F s b v p uu tt cc n t x y u hu8 hC.2.1 hS.1 hG.2.1.1) mi_X6_tapOut vi_L_171 rfl hC.2.1.1 rfl rfl (Nat.le_of_ble_eq_true rfl) ⟨Nat.le_of_ble_eq_true rfl, Nat.le_of_ble_eq_true rfl⟩ (by show _ ≤ 603072; omega) (by show _ ≤ 7194730; omega) dL_law_519) (fun q z => Or.inr (by have z := z.1; have := hC.2.2.2.2.2.1; omega)) (rfl : _ = 522) (fun v_519 H519_22 hq_519 o_519 => ?_)
    obtain ⟨hb2, hR2⟩ := hq_519
    rw [a1, if_pos rfl] at hb2
    rw [a1, if_pos rfl, if_pos rfl, r_fd_0] at hR2
    have hb3 := hr9.trans hb2.symm
    subst hb3
    have ho9 := ho9.off o_519 (fun e => by have := e.2; omega)
    have hC := hC.mod o_519 hR2
    refine V_istore Y.1 (ls' := [(7, _), (6, _), (5, _), (4, _), (3, _), (2, _), (1, _), (0, _)]) dL_law_522 (rfl : _ = 524) (by decide) rfl ?_
    refine V_aload_n Y.1 5 dL_law_524 (rfl : _ = 525) rfl rfl ?_
    refine V_cP Y (rV Y (c_X6_thrown l D kA _ (a + 329) _ _ _ _ _ _ _ _ hC.2.1) mi_X6_thrown vi_L_159 rfl hC.2.1.1 rfl rfl (Nat.le_of_ble_eq_true rfl) ⟨Nat.le_of_ble_eq_true rfl, Nat.le_of_ble_eq_true rfl⟩ (by show _ ≤ 603072; omega) (by show _ ≤ 7194730; omega) dL_law_525) (rfl : _ = 528) ?_
    refine V_iload Y.1 1 dL_law_528 (rfl : _ = 530) rfl ?_
    refine V_icmp_eq Y.1 (tgt := 535) dL_law_530 (by decide) (rfl : _ = 533) (fun _ => ?_) (fun c_n => absurd (by rw [pk_un (by decide), pk_us]) c_n)
    refine V_iload Y.1 1 dL_law_535 (rfl : _ = 537) rfl ?_
    refine V_if_ne Y.1 (tgt := 552) dL_law_537 (by decide) (rfl : _ = 540) (fun c_n => absurd rfl c_n) (fun _ => ?_)
    refine V_aload_n Y.1 4 dL_law_540 (rfl : _ = 541) rfl rfl ?_
    refine V_iconst Y.1 (v := 0) dL_law_541 (rfl : _ = 542) (by decide) ?_
    refine V_lald Y.1 (v := r9.toInt64) ho9 (show ¬ ((0 : Int32) < 0 ∨ 1 ≤ (0 : Int32).toNatClampNeg) by decide) hw9 dL_law_542 (rfl : _ = 543) ?_
    refine V_iload Y.1 0 dL_law_543 (rfl : _ = 545) rfl ?_
    refine V_i2l Y.1 dL_law_545 (rfl : _ = 546) rfl ?_
    refine V_lcmp Y.1 dL_law_546 (rfl : _ = 547) ?_
    refine V_if_eq Y.1 (tgt := 552) dL_law_547 (by decide) (rfl : _ = 550) (fun _ => ?_) (fun c_n => absurd (lg_self _) c_n)
    refine V_goto Y.1 (tgt := 2781) dL_law_552 (by decide) ?_
    exact V_forget (ls' := [(5, _), (4, _), (3, _), (2, _), (1, _), (0, _)]) [2, 3, 4, 5, 6, 7] rfl (V_widen (by omega) (by omega) (kk _ ⟨_, _, _, _, _, _, _, _, _, _, _, _, _, _, _, _, _, _, _, _, _, _, _, hC, hG.push hPm hu8 (by omega) (a3.more (by omega)) ⟨pk_us, by rw [pk_un (by decide), pk_un (by decide)], by rw [pk_un (by decide), pk_un (by decide)], by rw [pk_un (by decide), pk_un (by decide)], by rw [pk_un (by decide), pk_un (by decide)], by rw [pk_un (by decide), pk_un (by decide)]⟩⟩))
  · obtain ⟨hE9, hn9, hF8⟩ := hX9
    have hC := hC.cls o_501 (fun q z => z.elim Or.inl (fun e => Or.inr (Or.inr e))) hF8 ⟨_, ho9⟩ hC.2.2.2.2.2.2.1 hC.2.2.2.2.2.2.2
    have hq9 := st2 hn9
    rcases kz_3 hn9 with hz8 | hz8
    · rw [hz8] at hE9
      subst hE9
      rw [hz8, pm_31] at hq9
      have hk7 : v_501 = 1 := hk9.trans (by decide)
      have hk8 := hk7.symm
      subst hk8
      refine V_istore Y.1 (ls' := [(6, _), (5, _), (4, _), (3, _), (2, _), (1, _), (0, _)]) dL_law_504 (rfl : _ = 506) (by decide) rfl ?_
      refine V_aload_n Y.1 4 dL_law_506 (rfl : _ = 507) rfl rfl ?_
      refine V_aload_n Y.1 6 dL_law_507 (rfl : _ = 508) rfl rfl ?_
      refine V_iload Y.1 1 dL_law_508 (rfl : _ = 510) rfl ?_
      refine V_iconst Y.1 (v := 1) dL_law_510 (rfl : _ = 511) (by decide) ?_
      refine V_iadd Y.1 dL_law_511 (rfl : _ = 512) ?_
      refine V_nm (v := nI (3 * j + 1)) (nI_add _ 1) ?_
      refine V_sld Y.1 (v := x) hsa (vp_in_nI (by omega) (by omega)) (by rw [nI_clamp (by omega)]; exact hx) dL_law_512 (rfl : _ = 513) ?_
      refine V_aload_n Y.1 6 dL_law_513 (rfl : _ = 514) rfl rfl ?_
      refine V_iload Y.1 1 dL_law_514 (rfl : _ = 516) rfl ?_
      refine V_iconst Y.1 (v := 2) dL_law_516 (rfl : _ = 517) (by decide) ?_
      refine V_iadd Y.1 dL_law_517 (rfl : _ = 518) ?_
      refine V_nm (v := nI (3 * j + 2)) (nI_add _ 2) ?_
      refine V_sld Y.1 (v := y) hsa (vp_in_nI (by omega) (by omega)) (by rw [nI_clamp (by omega)]; exact hy) dL_law_518 (rfl : _ = 519) ?_
      refine V_cI Y (rV Y (c_X6_tapOut l D kA _ (a + 329) F s b v p uu tt cc n t x y u hu8 hC.2.1 hS.1 hG.2.1.1) mi_X6_tapOut vi_L_171 rfl hC.2.1.1 rfl rfl (Nat.le_of_ble_eq_true rfl) ⟨Nat.le_of_ble_eq_true rfl, Nat.le_of_ble_eq_true rfl⟩ (by show _ ≤ 603072; omega) (by show _ ≤ 7194730; omega) dL_law_519) (fun q z => Or.inr (by have z := z.1; have := hC.2.2.2.2.2.1; omega)) (rfl : _ = 522) (fun v_519 H519_20 hq_519 o_519 => ?_)
      obtain ⟨hb2, hR2⟩ := hq_519
      rw [hq9, if_neg (by decide), if_neg (by decide), r_fd_n (by decide)] at hR2
      have hC := hC.mod o_519 hR2
      refine V_istore Y.1 (ls' := [(7, _), (6, _), (5, _), (4, _), (3, _), (2, _), (1, _), (0, _)]) dL_law_522 (rfl : _ = 524) (by decide) rfl ?_
      refine V_aload_n Y.1 5 dL_law_524 (rfl : _ = 525) rfl rfl ?_
      refine V_cP Y (rV Y (c_X6_thrown l D kA _ (a + 329) _ _ _ _ _ _ _ _ hC.2.1) mi_X6_thrown vi_L_159 rfl hC.2.1.1 rfl rfl (Nat.le_of_ble_eq_true rfl) ⟨Nat.le_of_ble_eq_true rfl, Nat.le_of_ble_eq_true rfl⟩ (by show _ ≤ 603072; omega) (by show _ ≤ 7194730; omega) dL_law_525) (rfl : _ = 528) ?_
      refine V_iload Y.1 1 dL_law_528 (rfl : _ = 530) rfl ?_
      refine V_icmp_eq Y.1 (tgt := 535) dL_law_530 (by decide) (rfl : _ = 533) (fun _ => ?_) (fun c_n => absurd pk_us c_n)
      refine V_iload Y.1 1 dL_law_535 (rfl : _ = 537) rfl ?_
      refine V_if_ne Y.1 (tgt := 552) dL_law_537 (by decide) (rfl : _ = 540) (fun _ => ?_) (fun c_n => absurd c_n (by decide))
      refine V_goto Y.1 (tgt := 2781) dL_law_552 (by decide) ?_
      exact V_forget (ls' := [(5, _), (4, _), (3, _), (2, _), (1, _), (0, _)]) [2, 3, 4, 5, 6, 7] rfl (V_widen (by omega) (by omega) (kk _ ⟨_, _, _, _, _, _, _, _, _, _, _, _, _, _, _, _, _, _, _, _, _, _, _, hC, (hG.f6 _).more (by omega)⟩))
    · rw [hz8] at hE9
      subst hE9
      rw [hz8, pm_33] at hq9
      have hk7 : v_501 = 2 := hk9.trans (by decide)
      have hk8 := hk7.symm
      subst hk8
      refine V_istore Y.1 (ls' := [(6, _), (5, _), (4, _), (3, _), (2, _), (1, _), (0, _)]) dL_law_504 (rfl : _ = 506) (by decide) rfl ?_
      refine V_aload_n Y.1 4 dL_law_506 (rfl : _ = 507) rfl rfl ?_
      refine V_aload_n Y.1 6 dL_law_507 (rfl : _ = 508) rfl rfl ?_
      refine V_iload Y.1 1 dL_law_508 (rfl : _ = 510) rfl ?_
      refine V_iconst Y.1 (v := 1) dL_law_510 (rfl : _ = 511) (by decide) ?_
      refine V_iadd Y.1 dL_law_511 (rfl : _ = 512) ?_
      refine V_nm (v := nI (3 * j + 1)) (nI_add _ 1) ?_
      refine V_sld Y.1 (v := x) hsa (vp_in_nI (by omega) (by omega)) (by rw [nI_clamp (by omega)]; exact hx) dL_law_512 (rfl : _ = 513) ?_
      refine V_aload_n Y.1 6 dL_law_513 (rfl : _ = 514) rfl rfl ?_
      refine V_iload Y.1 1 dL_law_514 (rfl : _ = 516) rfl ?_
      refine V_iconst Y.1 (v := 2) dL_law_516 (rfl : _ = 517) (by decide) ?_
      refine V_iadd Y.1 dL_law_517 (rfl : _ = 518) ?_
      refine V_nm (v := nI (3 * j + 2)) (nI_add _ 2) ?_
      refine V_sld Y.1 (v := y) hsa (vp_in_nI (by omega) (by omega)) (by rw [nI_clamp (by omega)]; exact hy) dL_law_518 (rfl : _ = 519) ?_
      refine V_cI Y (rV Y (c_X6_tapOut l D kA _ (a + 329) F s b v p uu tt cc n t x y u hu8 hC.2.1 hS.1 hG.2.1.1) mi_X6_tapOut vi_L_171 rfl hC.2.1.1 rfl rfl (Nat.le_of_ble_eq_true rfl) ⟨Nat.le_of_ble_eq_true rfl, Nat.le_of_ble_eq_true rfl⟩ (by show _ ≤ 603072; omega) (by show _ ≤ 7194730; omega) dL_law_519) (fun q z => Or.inr (by have z := z.1; have := hC.2.2.2.2.2.1; omega)) (rfl : _ = 522) (fun v_519 H519_20 hq_519 o_519 => ?_)
      obtain ⟨hb2, hR2⟩ := hq_519
      rw [hq9, if_neg (by decide), if_neg (by decide), r_fd_n (by decide)] at hR2
      have hC := hC.mod o_519 hR2
      refine V_istore Y.1 (ls' := [(7, _), (6, _), (5, _), (4, _), (3, _), (2, _), (1, _), (0, _)]) dL_law_522 (rfl : _ = 524) (by decide) rfl ?_
      refine V_aload_n Y.1 5 dL_law_524 (rfl : _ = 525) rfl rfl ?_
      refine V_cP Y (rV Y (c_X6_thrown l D kA _ (a + 329) _ _ _ _ _ _ _ _ hC.2.1) mi_X6_thrown vi_L_159 rfl hC.2.1.1 rfl rfl (Nat.le_of_ble_eq_true rfl) ⟨Nat.le_of_ble_eq_true rfl, Nat.le_of_ble_eq_true rfl⟩ (by show _ ≤ 603072; omega) (by show _ ≤ 7194730; omega) dL_law_525) (rfl : _ = 528) ?_
      refine V_iload Y.1 1 dL_law_528 (rfl : _ = 530) rfl ?_
      refine V_icmp_eq Y.1 (tgt := 535) dL_law_530 (by decide) (rfl : _ = 533) (fun _ => ?_) (fun c_n => absurd pk_us c_n)
      refine V_iload Y.1 1 dL_law_535 (rfl : _ = 537) rfl ?_
      refine V_if_ne Y.1 (tgt := 552) dL_law_537 (by decide) (rfl : _ = 540) (fun _ => ?_) (fun c_n => absurd c_n (by decide))
      refine V_goto Y.1 (tgt := 2781) dL_law_552 (by decide) ?_
      exact V_forget (ls' := [(5, _), (4, _), (3, _), (2, _), (1, _), (0, _)]) [2, 3, 4, 5, 6, 7] rfl (V_widen (by omega) (by omega) (kk _ ⟨_, _, _, _, _, _, _, _, _, _, _, _, _, _, _, _, _, _, _, _, _, _, _, hC, (hG.f6 _).more (by omega)⟩))

set_option maxRecDepth 100000 in
set_option maxHeartbeats 4000000 in
theorem lc_4 (l : Launch) (D : va_G) (kA : Nat → ClassId) (Hs : Heap) (σ : SG) (hnt : l.stackTraces = false) {Pp : Program} {Ee : Env} {Ss : State} {Mm : MethodId} {Ar : Array Value} {Bl : List Frame} {Me : Method} {Cc : Code} {Q : State → Prop} (Z : Ys Pp Ss Mm Ar Me Cc cL_law 9 (some .boolean) "MetroFaresLaw" D kA (AA Hs nof) Hs σ) (sa N : Nat) (f : Nat → Int32) (hsa : va_X sa N f Ss Ss.heap ∧ sa < Ss.heap.size ∧ ¬ AA Hs nof sa) (hN : N ≤ 1536) (a j : Nat) (hj : 3 * j + 3 ≤ N) (H : Heap) (hI : Inv D kA Hs a H (61 * j)) (kk : ∀ H1, Inv D kA Hs a H1 (61 * (j + 1)) → V Pp l Ee (rmO 2048 94400 603072 7194730) Ss Mm Ar Bl Me Cc 9 (AA Hs nof) Q H1 (400 + 200 * (j + 1)) (6000 + 400 * (j + 1)) 2781 [(5, .int (nI (3 * j))), (4, .ref (a + 338)), (3, .ref (a + 337)), (2, .ref (a + 329)), (1, .ref a), (0, .ref sa)] []) : V Pp l Ee (rmO 2048 94400 603072 7194730) Ss Mm Ar Bl Me Cc 9 (AA Hs nof) Q H (400 + 200 * (j)) (6000 + 400 * (j)) 555 [(5, .int (nI (3 * j))), (4, .ref (a + 338)), (3, .ref (a + 337)), (2, .ref (a + 329)), (1, .ref a), (0, .ref sa)] [] := by
  obtain ⟨W, π, ES, u, hs, ep, fc, no, go, vs, cs, ns, gs, F, s, b, v, p, uu, tt, cc, n, t, hC, hG⟩ := hI
  have Y := Z.1
  have hS := hG.1.1.1
  have hM9 := hG.1.1
  have hjq : j ≤ 512 := by omega
  have hu8 := hC.1.2.2.2.2.2.2.2.1
  obtain ⟨w1, ho1⟩ := hC.2.2.1
  obtain ⟨x, hx⟩ : ∃ x, f (3 * j + 1) = x := ⟨_, rfl⟩
  obtain ⟨y, hy⟩ : ∃ y, f (3 * j + 2) = y := ⟨_, rfl⟩
  refine V_aload_n Y.1 4 dL_law_555 (rfl : _ = 556) rfl rfl ?_
  refine V_aload_n Y.1 5 dL_law_556 (rfl : _ = 557) rfl rfl ?_
  refine V_iload Y.1 0 dL_law_557 (rfl : _ = 559) rfl ?_
  refine V_iconst Y.1 (v := 1) dL_law_559 (rfl : _ = 560) (by decide) ?_
  refine V_iadd Y.1 dL_law_560 (rfl : _ = 561) ?_
  refine V_nm (v := nI (3 * j + 1)) (nI_add _ 1) ?_
  refine V_sld Y.1 (v := x) hsa (vp_in_nI (by omega) (by omega)) (by rw [nI_clamp (by omega)]; exact hx) dL_law_561 (rfl : _ = 562) ?_
  refine V_aload_n Y.1 5 dL_law_562 (rfl : _ = 563) rfl rfl ?_
  refine V_iload Y.1 0 dL_law_563 (rfl : _ = 565) rfl ?_
  refine V_iconst Y.1 (v := 2) dL_law_565 (rfl : _ = 566) (by decide) ?_
  refine V_iadd Y.1 dL_law_566 (rfl : _ = 567) ?_
  refine V_nm (v := nI (3 * j + 2)) (nI_add _ 2) ?_
  refine V_sld Y.1 (v := y) hsa (vp_in_nI (by omega) (by omega)) (by rw [nI_clamp (by omega)]; exact hy) dL_law_567 (rfl : _ = 568) ?_
  refine V_aload_n Y.1 2 dL_law_568 (rfl : _ = 569) rfl rfl ?_
  refine V_cI Y (sW Z (c_L_repair l D kA Hs σ _ hC.2.2.2.2.1 a W π ES u hs ep fc no go vs cs ns gs x y n (t / 1440) (a + 337) w1 hC.1 hnt hM9.mi hC.2.2.2.2.2.1 ho1 (by omega) (by have := hC.2.2.2.2.2.2.2; omega) (by have := hC.2.2.2.2.2.1; omega)) mh_L_repair si_L_172 rfl rfl (Nat.le_of_ble_eq_true rfl) ⟨Nat.le_of_ble_eq_true rfl, Nat.le_of_ble_eq_true rfl⟩ (by show _ ≤ 603072; omega) (by show _ ≤ 7194730; omega) dL_law_569) (fun q z => Or.inr (by have h9 := hC.2.2.2.2.2.1; rcases z with z | z; exact (by have := z.1; omega); exact (by have z : q = a + 337 := z; omega))) (rfl : _ = 572) (fun v_569 H569_14 hq_569 o_569 => ?_)
  obtain ⟨st1, st2⟩ := hG.1.step (by omega) (k := 4) (by decide) x y
  rw [show Q8 s n t 4 x y = q_fix s (t / 1440) x y from Q8_4] at st1 st2
  rcases hq_569 with ⟨hk9, r9, H9, w9, hP9, hst9, ho9, hw9⟩ | ⟨E9, hX9, hk9, ho9⟩
  · have hPm := hC.1.2.2.2.2.2.1
    have hk8 := hk9.symm
    subst hk8
    obtain ⟨hz9, hr9, hF9⟩ := hP9
    obtain ⟨a1, a2, n9, t9, a3⟩ := st1 hz9
    have hF8 := hF9.kept (hst9.off (F := fun q => q = a + 337) rfl) (fun q z e => by have e : q = a + 337 := e; have := z.2; omega) (fun e => by have e : vs = a + 337 := e; have := hC.2.2.2.2.2.2.2; omega) (fun q z e => by have e : q = a + 337 := e; have := hC.gro q z; omega)
    have hC := hC.cls o_569 (fun q z => z.elim Or.inl (fun e => Or.inr (Or.inr e))) hF8 ⟨_, ho9⟩ hC.gro hC.2.2.2.2.2.2.2
    rw [a2] at hr9
    refine V_istore Y.1 (ls' := [(6, _), (5, _), (4, _), (3, _), (2, _), (1, _), (0, _)]) dL_law_572 (rfl : _ = 574) (by decide) rfl ?_
    refine V_aload_n Y.1 4 dL_law_574 (rfl : _ = 575) rfl rfl ?_
    refine V_aload_n Y.1 6 dL_law_575 (rfl : _ = 576) rfl rfl ?_
    refine V_iload Y.1 1 dL_law_576 (rfl : _ = 578) rfl ?_
    refine V_iconst Y.1 (v := 1) dL_law_578 (rfl : _ = 579) (by decide) ?_
    refine V_iadd Y.1 dL_law_579 (rfl : _ = 580) ?_
    refine V_nm (v := nI (3 * j + 1)) (nI_add _ 1) ?_
    refine V_sld Y.1 (v := x) hsa (vp_in_nI (by omega) (by omega)) (by rw [nI_clamp (by omega)]; exact hx) dL_law_580 (rfl : _ = 581) ?_
    refine V_aload_n Y.1 6 dL_law_581 (rfl : _ = 582) rfl rfl ?_
    refine V_iload Y.1 1 dL_law_582 (rfl : _ = 584) rfl ?_
    refine V_iconst Y.1 (v := 2) dL_law_584 (rfl : _ = 585) (by decide) ?_
    refine V_iadd Y.1 dL_law_585 (rfl : _ = 586) ?_
    refine V_nm (v := nI (3 * j + 2)) (nI_add _ 2) ?_
    refine V_sld Y.1 (v := y) hsa (vp_in_nI (by omega) (by omega)) (by rw [nI_clamp (by omega)]; exact hy) dL_law_586 (rfl : _ = 587) ?_
    refine V_cI Y (rV Y (c_X6_repair l D kA _ (a + 329) F s b v p uu tt cc n t x y u hu8 hC.2.1 hS.1 hG.2.1.1) mi_X6_repair vi_L_174 rfl hC.2.1.1 rfl rfl (Nat.le_of_ble_eq_true rfl) ⟨Nat.le_of_ble_eq_true rfl, Nat.le_of_ble_eq_true rfl⟩ (by show _ ≤ 603072; omega) (by show _ ≤ 7194730; omega) dL_law_587) (fun q z => Or.inr (by have z := z.1; have := hC.2.2.2.2.2.1; omega)) (rfl : _ = 590) (fun v_587 H587_22 hq_587 o_587 => ?_)
    obtain ⟨hb2, hR2⟩ := hq_587
    rw [a1, if_pos rfl] at hb2
    rw [a1, if_pos rfl, if_pos rfl, r_fd_0] at hR2
    have hb3 := hr9.trans hb2.symm
    subst hb3
    have ho9 := ho9.off o_587 (fun e => by have := e.2; omega)
    have hC := hC.mod o_587 hR2
    refine V_istore Y.1 (ls' := [(7, _), (6, _), (5, _), (4, _), (3, _), (2, _), (1, _), (0, _)]) dL_law_590 (rfl : _ = 592) (by decide) rfl ?_
    refine V_aload_n Y.1 5 dL_law_592 (rfl : _ = 593) rfl rfl ?_
    refine V_cP Y (rV Y (c_X6_thrown l D kA _ (a + 329) _ _ _ _ _ _ _ _ hC.2.1) mi_X6_thrown vi_L_159 rfl hC.2.1.1 rfl rfl (Nat.le_of_ble_eq_true rfl) ⟨Nat.le_of_ble_eq_true rfl, Nat.le_of_ble_eq_true rfl⟩ (by show _ ≤ 603072; omega) (by show _ ≤ 7194730; omega) dL_law_593) (rfl : _ = 596) ?_
    refine V_iload Y.1 1 dL_law_596 (rfl : _ = 598) rfl ?_
    refine V_icmp_eq Y.1 (tgt := 603) dL_law_598 (by decide) (rfl : _ = 601) (fun _ => ?_) (fun c_n => absurd (by rw [pk_un (by decide), pk_us]) c_n)
    refine V_iload Y.1 1 dL_law_603 (rfl : _ = 605) rfl ?_
    refine V_if_ne Y.1 (tgt := 620) dL_law_605 (by decide) (rfl : _ = 608) (fun c_n => absurd rfl c_n) (fun _ => ?_)
    refine V_aload_n Y.1 4 dL_law_608 (rfl : _ = 609) rfl rfl ?_
    refine V_iconst Y.1 (v := 0) dL_law_609 (rfl : _ = 610) (by decide) ?_
    refine V_lald Y.1 (v := r9.toInt64) ho9 (show ¬ ((0 : Int32) < 0 ∨ 1 ≤ (0 : Int32).toNatClampNeg) by decide) hw9 dL_law_610 (rfl : _ = 611) ?_
    refine V_iload Y.1 0 dL_law_611 (rfl : _ = 613) rfl ?_
    refine V_i2l Y.1 dL_law_613 (rfl : _ = 614) rfl ?_
    refine V_lcmp Y.1 dL_law_614 (rfl : _ = 615) ?_
    refine V_if_eq Y.1 (tgt := 620) dL_law_615 (by decide) (rfl : _ = 618) (fun _ => ?_) (fun c_n => absurd (lg_self _) c_n)
    refine V_goto Y.1 (tgt := 2781) dL_law_620 (by decide) ?_
    exact V_forget (ls' := [(5, _), (4, _), (3, _), (2, _), (1, _), (0, _)]) [2, 3, 4, 5, 6, 7] rfl (V_widen (by omega) (by omega) (kk _ ⟨_, _, _, _, _, _, _, _, _, _, _, _, _, _, _, _, _, _, _, _, _, _, _, hC, hG.push hPm hu8 (by omega) (a3.more (by omega)) ⟨pk_us, by rw [pk_un (by decide), pk_un (by decide)], by rw [pk_un (by decide), pk_un (by decide)], by rw [pk_un (by decide), pk_un (by decide)], by rw [pk_un (by decide), pk_un (by decide)], by rw [pk_un (by decide), pk_un (by decide)]⟩⟩))
  · obtain ⟨hE9, hn9, hF8⟩ := hX9
    have hC := hC.cls o_569 (fun q z => z.elim Or.inl (fun e => Or.inr (Or.inr e))) hF8 ⟨_, ho9⟩ hC.2.2.2.2.2.2.1 hC.2.2.2.2.2.2.2
    have hq9 := st2 hn9
    rcases kz_4 hn9 with hz8 | hz8 | hz8
    · rw [hz8] at hE9
      subst hE9
      rw [hz8, pm_41] at hq9
      have hk7 : v_569 = 1 := hk9.trans (by decide)
      have hk8 := hk7.symm
      subst hk8
      refine V_istore Y.1 (ls' := [(6, _), (5, _), (4, _), (3, _), (2, _), (1, _), (0, _)]) dL_law_572 (rfl : _ = 574) (by decide) rfl ?_
      refine V_aload_n Y.1 4 dL_law_574 (rfl : _ = 575) rfl rfl ?_
      refine V_aload_n Y.1 6 dL_law_575 (rfl : _ = 576) rfl rfl ?_
      refine V_iload Y.1 1 dL_law_576 (rfl : _ = 578) rfl ?_
      refine V_iconst Y.1 (v := 1) dL_law_578 (rfl : _ = 579) (by decide) ?_
      refine V_iadd Y.1 dL_law_579 (rfl : _ = 580) ?_
      refine V_nm (v := nI (3 * j + 1)) (nI_add _ 1) ?_
      refine V_sld Y.1 (v := x) hsa (vp_in_nI (by omega) (by omega)) (by rw [nI_clamp (by omega)]; exact hx) dL_law_580 (rfl : _ = 581) ?_
      refine V_aload_n Y.1 6 dL_law_581 (rfl : _ = 582) rfl rfl ?_
      refine V_iload Y.1 1 dL_law_582 (rfl : _ = 584) rfl ?_
      refine V_iconst Y.1 (v := 2) dL_law_584 (rfl : _ = 585) (by decide) ?_
      refine V_iadd Y.1 dL_law_585 (rfl : _ = 586) ?_
      refine V_nm (v := nI (3 * j + 2)) (nI_add _ 2) ?_
      refine V_sld Y.1 (v := y) hsa (vp_in_nI (by omega) (by omega)) (by rw [nI_clamp (by omega)]; exact hy) dL_law_586 (rfl : _ = 587) ?_
      refine V_cI Y (rV Y (c_X6_repair l D kA _ (a + 329) F s b v p uu tt cc n t x y u hu8 hC.2.1 hS.1 hG.2.1.1) mi_X6_repair vi_L_174 rfl hC.2.1.1 rfl rfl (Nat.le_of_ble_eq_true rfl) ⟨Nat.le_of_ble_eq_true rfl, Nat.le_of_ble_eq_true rfl⟩ (by show _ ≤ 603072; omega) (by show _ ≤ 7194730; omega) dL_law_587) (fun q z => Or.inr (by have z := z.1; have := hC.2.2.2.2.2.1; omega)) (rfl : _ = 590) (fun v_587 H587_20 hq_587 o_587 => ?_)
      obtain ⟨hb2, hR2⟩ := hq_587
      rw [hq9, if_neg (by decide), if_neg (by decide), r_fd_n (by decide)] at hR2
      have hC := hC.mod o_587 hR2
      refine V_istore Y.1 (ls' := [(7, _), (6, _), (5, _), (4, _), (3, _), (2, _), (1, _), (0, _)]) dL_law_590 (rfl : _ = 592) (by decide) rfl ?_
      refine V_aload_n Y.1 5 dL_law_592 (rfl : _ = 593) rfl rfl ?_
      refine V_cP Y (rV Y (c_X6_thrown l D kA _ (a + 329) _ _ _ _ _ _ _ _ hC.2.1) mi_X6_thrown vi_L_159 rfl hC.2.1.1 rfl rfl (Nat.le_of_ble_eq_true rfl) ⟨Nat.le_of_ble_eq_true rfl, Nat.le_of_ble_eq_true rfl⟩ (by show _ ≤ 603072; omega) (by show _ ≤ 7194730; omega) dL_law_593) (rfl : _ = 596) ?_
      refine V_iload Y.1 1 dL_law_596 (rfl : _ = 598) rfl ?_
      refine V_icmp_eq Y.1 (tgt := 603) dL_law_598 (by decide) (rfl : _ = 601) (fun _ => ?_) (fun c_n => absurd pk_us c_n)
      refine V_iload Y.1 1 dL_law_603 (rfl : _ = 605) rfl ?_
      refine V_if_ne Y.1 (tgt := 620) dL_law_605 (by decide) (rfl : _ = 608) (fun _ => ?_) (fun c_n => absurd c_n (by decide))
      refine V_goto Y.1 (tgt := 2781) dL_law_620 (by decide) ?_
      exact V_forget (ls' := [(5, _), (4, _), (3, _), (2, _), (1, _), (0, _)]) [2, 3, 4, 5, 6, 7] rfl (V_widen (by omega) (by omega) (kk _ ⟨_, _, _, _, _, _, _, _, _, _, _, _, _, _, _, _, _, _, _, _, _, _, _, hC, (hG.f6 _).more (by omega)⟩))
    · rw [hz8] at hE9
      subst hE9
      rw [hz8, pm_44] at hq9
      have hk7 : v_569 = 2 := hk9.trans (by decide)
      have hk8 := hk7.symm
      subst hk8
      refine V_istore Y.1 (ls' := [(6, _), (5, _), (4, _), (3, _), (2, _), (1, _), (0, _)]) dL_law_572 (rfl : _ = 574) (by decide) rfl ?_
      refine V_aload_n Y.1 4 dL_law_574 (rfl : _ = 575) rfl rfl ?_
      refine V_aload_n Y.1 6 dL_law_575 (rfl : _ = 576) rfl rfl ?_
      refine V_iload Y.1 1 dL_law_576 (rfl : _ = 578) rfl ?_
      refine V_iconst Y.1 (v := 1) dL_law_578 (rfl : _ = 579) (by decide) ?_
      refine V_iadd Y.1 dL_law_579 (rfl : _ = 580) ?_
      refine V_nm (v := nI (3 * j + 1)) (nI_add _ 1) ?_
      refine V_sld Y.1 (v := x) hsa (vp_in_nI (by omega) (by omega)) (by rw [nI_clamp (by omega)]; exact hx) dL_law_580 (rfl : _ = 581) ?_
      refine V_aload_n Y.1 6 dL_law_581 (rfl : _ = 582) rfl rfl ?_
      refine V_iload Y.1 1 dL_law_582 (rfl : _ = 584) rfl ?_
      refine V_iconst Y.1 (v := 2) dL_law_584 (rfl : _ = 585) (by decide) ?_
      refine V_iadd Y.1 dL_law_585 (rfl : _ = 586) ?_
      refine V_nm (v := nI (3 * j + 2)) (nI_add _ 2) ?_
      refine V_sld Y.1 (v := y) hsa (vp_in_nI (by omega) (by omega)) (by rw [nI_clamp (by omega)]; exact hy) dL_law_586 (rfl : _ = 587) ?_
      refine V_cI Y (rV Y (c_X6_repair l D kA _ (a + 329) F s b v p uu tt cc n t x y u hu8 hC.2.1 hS.1 hG.2.1.1) mi_X6_repair vi_L_174 rfl hC.2.1.1 rfl rfl (Nat.le_of_ble_eq_true rfl) ⟨Nat.le_of_ble_eq_true rfl, Nat.le_of_ble_eq_true rfl⟩ (by show _ ≤ 603072; omega) (by show _ ≤ 7194730; omega) dL_law_587) (fun q z => Or.inr (by have z := z.1; have := hC.2.2.2.2.2.1; omega)) (rfl : _ = 590) (fun v_587 H587_20 hq_587 o_587 => ?_)
      obtain ⟨hb2, hR2⟩ := hq_587
      rw [hq9, if_neg (by decide), if_neg (by decide), r_fd_n (by decide)] at hR2
      have hC := hC.mod o_587 hR2
      refine V_istore Y.1 (ls' := [(7, _), (6, _), (5, _), (4, _), (3, _), (2, _), (1, _), (0, _)]) dL_law_590 (rfl : _ = 592) (by decide) rfl ?_
      refine V_aload_n Y.1 5 dL_law_592 (rfl : _ = 593) rfl rfl ?_
      refine V_cP Y (rV Y (c_X6_thrown l D kA _ (a + 329) _ _ _ _ _ _ _ _ hC.2.1) mi_X6_thrown vi_L_159 rfl hC.2.1.1 rfl rfl (Nat.le_of_ble_eq_true rfl) ⟨Nat.le_of_ble_eq_true rfl, Nat.le_of_ble_eq_true rfl⟩ (by show _ ≤ 603072; omega) (by show _ ≤ 7194730; omega) dL_law_593) (rfl : _ = 596) ?_
      refine V_iload Y.1 1 dL_law_596 (rfl : _ = 598) rfl ?_
      refine V_icmp_eq Y.1 (tgt := 603) dL_law_598 (by decide) (rfl : _ = 601) (fun _ => ?_) (fun c_n => absurd pk_us c_n)
      refine V_iload Y.1 1 dL_law_603 (rfl : _ = 605) rfl ?_
      refine V_if_ne Y.1 (tgt := 620) dL_law_605 (by decide) (rfl : _ = 608) (fun _ => ?_) (fun c_n => absurd c_n (by decide))
      refine V_goto Y.1 (tgt := 2781) dL_law_620 (by decide) ?_
      exact V_forget (ls' := [(5, _), (4, _), (3, _), (2, _), (1, _), (0, _)]) [2, 3, 4, 5, 6, 7] rfl (V_widen (by omega) (by omega) (kk _ ⟨_, _, _, _, _, _, _, _, _, _, _, _, _, _, _, _, _, _, _, _, _, _, _, hC, (hG.f6 _).more (by omega)⟩))
    · rw [hz8] at hE9
      subst hE9
      rw [hz8, pm_43] at hq9
      have hk7 : v_569 = 3 := hk9.trans (by decide)
      have hk8 := hk7.symm
      subst hk8
      refine V_istore Y.1 (ls' := [(6, _), (5, _), (4, _), (3, _), (2, _), (1, _), (0, _)]) dL_law_572 (rfl : _ = 574) (by decide) rfl ?_
      refine V_aload_n Y.1 4 dL_law_574 (rfl : _ = 575) rfl rfl ?_
      refine V_aload_n Y.1 6 dL_law_575 (rfl : _ = 576) rfl rfl ?_
      refine V_iload Y.1 1 dL_law_576 (rfl : _ = 578) rfl ?_
      refine V_iconst Y.1 (v := 1) dL_law_578 (rfl : _ = 579) (by decide) ?_
      refine V_iadd Y.1 dL_law_579 (rfl : _ = 580) ?_
      refine V_nm (v := nI (3 * j + 1)) (nI_add _ 1) ?_
      refine V_sld Y.1 (v := x) hsa (vp_in_nI (by omega) (by omega)) (by rw [nI_clamp (by omega)]; exact hx) dL_law_580 (rfl : _ = 581) ?_
      refine V_aload_n Y.1 6 dL_law_581 (rfl : _ = 582) rfl rfl ?_
      refine V_iload Y.1 1 dL_law_582 (rfl : _ = 584) rfl ?_
      refine V_iconst Y.1 (v := 2) dL_law_584 (rfl : _ = 585) (by decide) ?_
      refine V_iadd Y.1 dL_law_585 (rfl : _ = 586) ?_
      refine V_nm (v := nI (3 * j + 2)) (nI_add _ 2) ?_
      refine V_sld Y.1 (v := y) hsa (vp_in_nI (by omega) (by omega)) (by rw [nI_clamp (by omega)]; exact hy) dL_law_586 (rfl : _ = 587) ?_
      refine V_cI Y (rV Y (c_X6_repair l D kA _ (a + 329) F s b v p uu tt cc n t x y u hu8 hC.2.1 hS.1 hG.2.1.1) mi_X6_repair vi_L_174 rfl hC.2.1.1 rfl rfl (Nat.le_of_ble_eq_true rfl) ⟨Nat.le_of_ble_eq_true rfl, Nat.le_of_ble_eq_true rfl⟩ (by show _ ≤ 603072; omega) (by show _ ≤ 7194730; omega) dL_law_587) (fun q z => Or.inr (by have z := z.1; have := hC.2.2.2.2.2.1; omega)) (rfl : _ = 590) (fun v_587 H587_20 hq_587 o_587 => ?_)
      obtain ⟨hb2, hR2⟩ := hq_587
      rw [hq9, if_neg (by decide), if_neg (by decide), r_fd_n (by decide)] at hR2
      have hC := hC.mod o_587 hR2
      refine V_istore Y.1 (ls' := [(7, _), (6, _), (5, _), (4, _), (3, _), (2, _), (1, _), (0, _)]) dL_law_590 (rfl : _ = 592) (by decide) rfl ?_
      refine V_aload_n Y.1 5 dL_law_592 (rfl : _ = 593) rfl rfl ?_
      refine V_cP Y (rV Y (c_X6_thrown l D kA _ (a + 329) _ _ _ _ _ _ _ _ hC.2.1) mi_X6_thrown vi_L_159 rfl hC.2.1.1 rfl rfl (Nat.le_of_ble_eq_true rfl) ⟨Nat.le_of_ble_eq_true rfl, Nat.le_of_ble_eq_true rfl⟩ (by show _ ≤ 603072; omega) (by show _ ≤ 7194730; omega) dL_law_593) (rfl : _ = 596) ?_
      refine V_iload Y.1 1 dL_law_596 (rfl : _ = 598) rfl ?_
      refine V_icmp_eq Y.1 (tgt := 603) dL_law_598 (by decide) (rfl : _ = 601) (fun _ => ?_) (fun c_n => absurd pk_us c_n)
      refine V_iload Y.1 1 dL_law_603 (rfl : _ = 605) rfl ?_
      refine V_if_ne Y.1 (tgt := 620) dL_law_605 (by decide) (rfl : _ = 608) (fun _ => ?_) (fun c_n => absurd c_n (by decide))
      refine V_goto Y.1 (tgt := 2781) dL_law_620 (by decide) ?_
      exact V_forget (ls' := [(5, _), (4, _), (3, _), (2, _), (1, _), (0, _)]) [2, 3, 4, 5, 6, 7] rfl (V_widen (by omega) (by omega) (kk _ ⟨_, _, _, _, _, _, _, _, _, _, _, _, _, _, _, _, _, _, _, _, _, _, _, hC, (hG.f6 _).more (by omega)⟩))

set_option maxRecDepth 100000 in
set_option maxHeartbeats 4000000 in
theorem lc_5 (l : Launch) (D : va_G) (kA : Nat → ClassId) (Hs : Heap) (σ : SG) (hnt : l.stackTraces = false) {Pp : Program} {Ee : Env} {Ss : State} {Mm : MethodId} {Ar : Array Value} {Bl : List Frame} {Me : Method} {Cc : Code} {Q : State → Prop} (Z : Ys Pp Ss Mm Ar Me Cc cL_law 9 (some .boolean) "MetroFaresLaw" D kA (AA Hs nof) Hs σ) (sa N : Nat) (f : Nat → Int32) (hsa : va_X sa N f Ss Ss.heap ∧ sa < Ss.heap.size ∧ ¬ AA Hs nof sa) (hN : N ≤ 1536) (a j : Nat) (hj : 3 * j + 3 ≤ N) (H : Heap) (hI : Inv D kA Hs a H (61 * j)) (kk : ∀ H1, Inv D kA Hs a H1 (61 * (j + 1)) → V Pp l Ee (rmO 2048 94400 603072 7194730) Ss Mm Ar Bl Me Cc 9 (AA Hs nof) Q H1 (400 + 200 * (j + 1)) (6000 + 400 * (j + 1)) 2781 [(5, .int (nI (3 * j))), (4, .ref (a + 338)), (3, .ref (a + 337)), (2, .ref (a + 329)), (1, .ref a), (0, .ref sa)] []) : V Pp l Ee (rmO 2048 94400 603072 7194730) Ss Mm Ar Bl Me Cc 9 (AA Hs nof) Q H (400 + 200 * (j)) (6000 + 400 * (j)) 623 [(5, .int (nI (3 * j))), (4, .ref (a + 338)), (3, .ref (a + 337)), (2, .ref (a + 329)), (1, .ref a), (0, .ref sa)] [] := by
  obtain ⟨W, π, ES, u, hs, ep, fc, no, go, vs, cs, ns, gs, F, s, b, v, p, uu, tt, cc, n, t, hC, hG⟩ := hI
  have Y := Z.1
  have hS := hG.1.1.1
  have hM9 := hG.1.1
  have hjq : j ≤ 512 := by omega
  have hu8 := hC.1.2.2.2.2.2.2.2.1
  obtain ⟨w1, ho1⟩ := hC.2.2.1
  obtain ⟨x, hx⟩ : ∃ x, f (3 * j + 1) = x := ⟨_, rfl⟩
  obtain ⟨y, hy⟩ : ∃ y, f (3 * j + 2) = y := ⟨_, rfl⟩
  refine V_aload_n Y.1 4 dL_law_623 (rfl : _ = 624) rfl rfl ?_
  refine V_aload_n Y.1 5 dL_law_624 (rfl : _ = 625) rfl rfl ?_
  refine V_iload Y.1 0 dL_law_625 (rfl : _ = 627) rfl ?_
  refine V_iconst Y.1 (v := 1) dL_law_627 (rfl : _ = 628) (by decide) ?_
  refine V_iadd Y.1 dL_law_628 (rfl : _ = 629) ?_
  refine V_nm (v := nI (3 * j + 1)) (nI_add _ 1) ?_
  refine V_sld Y.1 (v := x) hsa (vp_in_nI (by omega) (by omega)) (by rw [nI_clamp (by omega)]; exact hx) dL_law_629 (rfl : _ = 630) ?_
  refine V_aload_n Y.1 5 dL_law_630 (rfl : _ = 631) rfl rfl ?_
  refine V_iload Y.1 0 dL_law_631 (rfl : _ = 633) rfl ?_
  refine V_iconst Y.1 (v := 2) dL_law_633 (rfl : _ = 634) (by decide) ?_
  refine V_iadd Y.1 dL_law_634 (rfl : _ = 635) ?_
  refine V_nm (v := nI (3 * j + 2)) (nI_add _ 2) ?_
  refine V_sld Y.1 (v := y) hsa (vp_in_nI (by omega) (by omega)) (by rw [nI_clamp (by omega)]; exact hy) dL_law_635 (rfl : _ = 636) ?_
  refine V_aload_n Y.1 2 dL_law_636 (rfl : _ = 637) rfl rfl ?_
  refine V_cI Y (sW Z (c_L_setZone l D kA Hs σ _ hC.2.2.2.2.1 a W π ES u hs ep fc no go vs cs ns gs x y n (t / 1440) (a + 337) w1 hC.1 hnt hM9.mi hC.2.2.2.2.2.1 ho1 (by omega) (by have := hC.2.2.2.2.2.2.2; omega) (by have := hC.2.2.2.2.2.1; omega)) mh_L_setZone si_L_175 rfl rfl (Nat.le_of_ble_eq_true rfl) ⟨Nat.le_of_ble_eq_true rfl, Nat.le_of_ble_eq_true rfl⟩ (by show _ ≤ 603072; omega) (by show _ ≤ 7194730; omega) dL_law_637) (fun q z => Or.inr (by have h9 := hC.2.2.2.2.2.1; rcases z with z | z; exact (by have := z.1; omega); exact (by have z : q = a + 337 := z; omega))) (rfl : _ = 640) (fun v_637 H637_14 hq_637 o_637 => ?_)
  obtain ⟨st1, st2⟩ := hG.1.step (by omega) (k := 5) (by decide) x y
  rw [show Q8 s n t 5 x y = q_zone s x y from Q8_5] at st1 st2
  rcases hq_637 with ⟨hk9, r9, H9, w9, hP9, hst9, ho9, hw9⟩ | ⟨E9, hX9, hk9, ho9⟩
  · have hPm := hC.1.2.2.2.2.2.1
    have hk8 := hk9.symm
    subst hk8
    obtain ⟨hz9, hr9, hF9⟩ := hP9
    obtain ⟨a1, a2, n9, t9, a3⟩ := st1 hz9
    have hF8 := hF9.kept (hst9.off (F := fun q => q = a + 337) rfl) (fun q z e => by have e : q = a + 337 := e; have := z.2; omega) (fun e => by have e : vs = a + 337 := e; have := hC.2.2.2.2.2.2.2; omega) (fun q z e => by have e : q = a + 337 := e; have := hC.gro q z; omega)
    have hC := hC.cls o_637 (fun q z => z.elim Or.inl (fun e => Or.inr (Or.inr e))) hF8 ⟨_, ho9⟩ hC.gro hC.2.2.2.2.2.2.2
    rw [a2] at hr9
    refine V_istore Y.1 (ls' := [(6, _), (5, _), (4, _), (3, _), (2, _), (1, _), (0, _)]) dL_law_640 (rfl : _ = 642) (by decide) rfl ?_
    refine V_aload_n Y.1 4 dL_law_642 (rfl : _ = 643) rfl rfl ?_
    refine V_aload_n Y.1 6 dL_law_643 (rfl : _ = 644) rfl rfl ?_
    refine V_iload Y.1 1 dL_law_644 (rfl : _ = 646) rfl ?_
    refine V_iconst Y.1 (v := 1) dL_law_646 (rfl : _ = 647) (by decide) ?_
    refine V_iadd Y.1 dL_law_647 (rfl : _ = 648) ?_
    refine V_nm (v := nI (3 * j + 1)) (nI_add _ 1) ?_
    refine V_sld Y.1 (v := x) hsa (vp_in_nI (by omega) (by omega)) (by rw [nI_clamp (by omega)]; exact hx) dL_law_648 (rfl : _ = 649) ?_
    refine V_aload_n Y.1 6 dL_law_649 (rfl : _ = 650) rfl rfl ?_
    refine V_iload Y.1 1 dL_law_650 (rfl : _ = 652) rfl ?_
    refine V_iconst Y.1 (v := 2) dL_law_652 (rfl : _ = 653) (by decide) ?_
    refine V_iadd Y.1 dL_law_653 (rfl : _ = 654) ?_
    refine V_nm (v := nI (3 * j + 2)) (nI_add _ 2) ?_
    refine V_sld Y.1 (v := y) hsa (vp_in_nI (by omega) (by omega)) (by rw [nI_clamp (by omega)]; exact hy) dL_law_654 (rfl : _ = 655) ?_
    refine V_cI Y (rV Y (c_X6_setZone l D kA _ (a + 329) F s b v p uu tt cc x y u hu8 hC.2.1 hG.2.1.1) mi_X6_setZone vi_L_177 rfl hC.2.1.1 rfl rfl (Nat.le_of_ble_eq_true rfl) ⟨Nat.le_of_ble_eq_true rfl, Nat.le_of_ble_eq_true rfl⟩ (by show _ ≤ 603072; omega) (by show _ ≤ 7194730; omega) dL_law_655) (fun q z => Or.inr (by have z := z.1; have := hC.2.2.2.2.2.1; omega)) (rfl : _ = 658) (fun v_655 H655_22 hq_655 o_655 => ?_)
    obtain ⟨hb2, hR2⟩ := hq_655
    rw [a1, if_pos rfl] at hb2
    rw [a1, if_pos rfl, if_pos rfl, r_fd_0] at hR2
    have hb3 := hr9.trans hb2.symm
    subst hb3
    have ho9 := ho9.off o_655 (fun e => by have := e.2; omega)
    have hC := hC.mod o_655 hR2
    refine V_istore Y.1 (ls' := [(7, _), (6, _), (5, _), (4, _), (3, _), (2, _), (1, _), (0, _)]) dL_law_658 (rfl : _ = 660) (by decide) rfl ?_
    refine V_aload_n Y.1 5 dL_law_660 (rfl : _ = 661) rfl rfl ?_
    refine V_cP Y (rV Y (c_X6_thrown l D kA _ (a + 329) _ _ _ _ _ _ _ _ hC.2.1) mi_X6_thrown vi_L_159 rfl hC.2.1.1 rfl rfl (Nat.le_of_ble_eq_true rfl) ⟨Nat.le_of_ble_eq_true rfl, Nat.le_of_ble_eq_true rfl⟩ (by show _ ≤ 603072; omega) (by show _ ≤ 7194730; omega) dL_law_661) (rfl : _ = 664) ?_
    refine V_iload Y.1 1 dL_law_664 (rfl : _ = 666) rfl ?_
    refine V_icmp_eq Y.1 (tgt := 671) dL_law_666 (by decide) (rfl : _ = 669) (fun _ => ?_) (fun c_n => absurd (by rw [pk_un (by decide), pk_us]) c_n)
    refine V_iload Y.1 1 dL_law_671 (rfl : _ = 673) rfl ?_
    refine V_if_ne Y.1 (tgt := 688) dL_law_673 (by decide) (rfl : _ = 676) (fun c_n => absurd rfl c_n) (fun _ => ?_)
    refine V_aload_n Y.1 4 dL_law_676 (rfl : _ = 677) rfl rfl ?_
    refine V_iconst Y.1 (v := 0) dL_law_677 (rfl : _ = 678) (by decide) ?_
    refine V_lald Y.1 (v := r9.toInt64) ho9 (show ¬ ((0 : Int32) < 0 ∨ 1 ≤ (0 : Int32).toNatClampNeg) by decide) hw9 dL_law_678 (rfl : _ = 679) ?_
    refine V_iload Y.1 0 dL_law_679 (rfl : _ = 681) rfl ?_
    refine V_i2l Y.1 dL_law_681 (rfl : _ = 682) rfl ?_
    refine V_lcmp Y.1 dL_law_682 (rfl : _ = 683) ?_
    refine V_if_eq Y.1 (tgt := 688) dL_law_683 (by decide) (rfl : _ = 686) (fun _ => ?_) (fun c_n => absurd (lg_self _) c_n)
    refine V_goto Y.1 (tgt := 2781) dL_law_688 (by decide) ?_
    exact V_forget (ls' := [(5, _), (4, _), (3, _), (2, _), (1, _), (0, _)]) [2, 3, 4, 5, 6, 7] rfl (V_widen (by omega) (by omega) (kk _ ⟨_, _, _, _, _, _, _, _, _, _, _, _, _, _, _, _, _, _, _, _, _, _, _, hC, hG.push hPm hu8 (by omega) (a3.more (by omega)) ⟨pk_us, by rw [pk_un (by decide), pk_un (by decide)], by rw [pk_un (by decide), pk_un (by decide)], by rw [pk_un (by decide), pk_un (by decide)], by rw [pk_un (by decide), pk_un (by decide)], by rw [pk_un (by decide), pk_un (by decide)]⟩⟩))
  · obtain ⟨hE9, hn9, hF8⟩ := hX9
    have hC := hC.cls o_637 (fun q z => z.elim Or.inl (fun e => Or.inr (Or.inr e))) hF8 ⟨_, ho9⟩ hC.2.2.2.2.2.2.1 hC.2.2.2.2.2.2.2
    have hq9 := st2 hn9
    rcases kz_5 hn9 with hz8 | hz8
    · rw [hz8] at hE9
      subst hE9
      rw [hz8, pm_51] at hq9
      have hk7 : v_637 = 1 := hk9.trans (by decide)
      have hk8 := hk7.symm
      subst hk8
      refine V_istore Y.1 (ls' := [(6, _), (5, _), (4, _), (3, _), (2, _), (1, _), (0, _)]) dL_law_640 (rfl : _ = 642) (by decide) rfl ?_
      refine V_aload_n Y.1 4 dL_law_642 (rfl : _ = 643) rfl rfl ?_
      refine V_aload_n Y.1 6 dL_law_643 (rfl : _ = 644) rfl rfl ?_
      refine V_iload Y.1 1 dL_law_644 (rfl : _ = 646) rfl ?_
      refine V_iconst Y.1 (v := 1) dL_law_646 (rfl : _ = 647) (by decide) ?_
      refine V_iadd Y.1 dL_law_647 (rfl : _ = 648) ?_
      refine V_nm (v := nI (3 * j + 1)) (nI_add _ 1) ?_
      refine V_sld Y.1 (v := x) hsa (vp_in_nI (by omega) (by omega)) (by rw [nI_clamp (by omega)]; exact hx) dL_law_648 (rfl : _ = 649) ?_
      refine V_aload_n Y.1 6 dL_law_649 (rfl : _ = 650) rfl rfl ?_
      refine V_iload Y.1 1 dL_law_650 (rfl : _ = 652) rfl ?_
      refine V_iconst Y.1 (v := 2) dL_law_652 (rfl : _ = 653) (by decide) ?_
      refine V_iadd Y.1 dL_law_653 (rfl : _ = 654) ?_
      refine V_nm (v := nI (3 * j + 2)) (nI_add _ 2) ?_
      refine V_sld Y.1 (v := y) hsa (vp_in_nI (by omega) (by omega)) (by rw [nI_clamp (by omega)]; exact hy) dL_law_654 (rfl : _ = 655) ?_
      refine V_cI Y (rV Y (c_X6_setZone l D kA _ (a + 329) F s b v p uu tt cc x y u hu8 hC.2.1 hG.2.1.1) mi_X6_setZone vi_L_177 rfl hC.2.1.1 rfl rfl (Nat.le_of_ble_eq_true rfl) ⟨Nat.le_of_ble_eq_true rfl, Nat.le_of_ble_eq_true rfl⟩ (by show _ ≤ 603072; omega) (by show _ ≤ 7194730; omega) dL_law_655) (fun q z => Or.inr (by have z := z.1; have := hC.2.2.2.2.2.1; omega)) (rfl : _ = 658) (fun v_655 H655_20 hq_655 o_655 => ?_)
      obtain ⟨hb2, hR2⟩ := hq_655
      rw [hq9, if_neg (by decide), if_neg (by decide), r_fd_n (by decide)] at hR2
      have hC := hC.mod o_655 hR2
      refine V_istore Y.1 (ls' := [(7, _), (6, _), (5, _), (4, _), (3, _), (2, _), (1, _), (0, _)]) dL_law_658 (rfl : _ = 660) (by decide) rfl ?_
      refine V_aload_n Y.1 5 dL_law_660 (rfl : _ = 661) rfl rfl ?_
      refine V_cP Y (rV Y (c_X6_thrown l D kA _ (a + 329) _ _ _ _ _ _ _ _ hC.2.1) mi_X6_thrown vi_L_159 rfl hC.2.1.1 rfl rfl (Nat.le_of_ble_eq_true rfl) ⟨Nat.le_of_ble_eq_true rfl, Nat.le_of_ble_eq_true rfl⟩ (by show _ ≤ 603072; omega) (by show _ ≤ 7194730; omega) dL_law_661) (rfl : _ = 664) ?_
      refine V_iload Y.1 1 dL_law_664 (rfl : _ = 666) rfl ?_
      refine V_icmp_eq Y.1 (tgt := 671) dL_law_666 (by decide) (rfl : _ = 669) (fun _ => ?_) (fun c_n => absurd pk_us c_n)
      refine V_iload Y.1 1 dL_law_671 (rfl : _ = 673) rfl ?_
      refine V_if_ne Y.1 (tgt := 688) dL_law_673 (by decide) (rfl : _ = 676) (fun _ => ?_) (fun c_n => absurd c_n (by decide))
      refine V_goto Y.1 (tgt := 2781) dL_law_688 (by decide) ?_
      exact V_forget (ls' := [(5, _), (4, _), (3, _), (2, _), (1, _), (0, _)]) [2, 3, 4, 5, 6, 7] rfl (V_widen (by omega) (by omega) (kk _ ⟨_, _, _, _, _, _, _, _, _, _, _, _, _, _, _, _, _, _, _, _, _, _, _, hC, (hG.f6 _).more (by omega)⟩))
    · rw [hz8] at hE9
      subst hE9
      rw [hz8, pm_52] at hq9
      have hk7 : v_637 = 2 := hk9.trans (by decide)
      have hk8 := hk7.symm
      subst hk8
      refine V_istore Y.1 (ls' := [(6, _), (5, _), (4, _), (3, _), (2, _), (1, _), (0, _)]) dL_law_640 (rfl : _ = 642) (by decide) rfl ?_
      refine V_aload_n Y.1 4 dL_law_642 (rfl : _ = 643) rfl rfl ?_
      refine V_aload_n Y.1 6 dL_law_643 (rfl : _ = 644) rfl rfl ?_
      refine V_iload Y.1 1 dL_law_644 (rfl : _ = 646) rfl ?_
      refine V_iconst Y.1 (v := 1) dL_law_646 (rfl : _ = 647) (by decide) ?_
      refine V_iadd Y.1 dL_law_647 (rfl : _ = 648) ?_
      refine V_nm (v := nI (3 * j + 1)) (nI_add _ 1) ?_
      refine V_sld Y.1 (v := x) hsa (vp_in_nI (by omega) (by omega)) (by rw [nI_clamp (by omega)]; exact hx) dL_law_648 (rfl : _ = 649) ?_
      refine V_aload_n Y.1 6 dL_law_649 (rfl : _ = 650) rfl rfl ?_
      refine V_iload Y.1 1 dL_law_650 (rfl : _ = 652) rfl ?_
      refine V_iconst Y.1 (v := 2) dL_law_652 (rfl : _ = 653) (by decide) ?_
      refine V_iadd Y.1 dL_law_653 (rfl : _ = 654) ?_
      refine V_nm (v := nI (3 * j + 2)) (nI_add _ 2) ?_
      refine V_sld Y.1 (v := y) hsa (vp_in_nI (by omega) (by omega)) (by rw [nI_clamp (by omega)]; exact hy) dL_law_654 (rfl : _ = 655) ?_
      refine V_cI Y (rV Y (c_X6_setZone l D kA _ (a + 329) F s b v p uu tt cc x y u hu8 hC.2.1 hG.2.1.1) mi_X6_setZone vi_L_177 rfl hC.2.1.1 rfl rfl (Nat.le_of_ble_eq_true rfl) ⟨Nat.le_of_ble_eq_true rfl, Nat.le_of_ble_eq_true rfl⟩ (by show _ ≤ 603072; omega) (by show _ ≤ 7194730; omega) dL_law_655) (fun q z => Or.inr (by have z := z.1; have := hC.2.2.2.2.2.1; omega)) (rfl : _ = 658) (fun v_655 H655_20 hq_655 o_655 => ?_)
      obtain ⟨hb2, hR2⟩ := hq_655
      rw [hq9, if_neg (by decide), if_neg (by decide), r_fd_n (by decide)] at hR2
      have hC := hC.mod o_655 hR2
      refine V_istore Y.1 (ls' := [(7, _), (6, _), (5, _), (4, _), (3, _), (2, _), (1, _), (0, _)]) dL_law_658 (rfl : _ = 660) (by decide) rfl ?_
      refine V_aload_n Y.1 5 dL_law_660 (rfl : _ = 661) rfl rfl ?_
      refine V_cP Y (rV Y (c_X6_thrown l D kA _ (a + 329) _ _ _ _ _ _ _ _ hC.2.1) mi_X6_thrown vi_L_159 rfl hC.2.1.1 rfl rfl (Nat.le_of_ble_eq_true rfl) ⟨Nat.le_of_ble_eq_true rfl, Nat.le_of_ble_eq_true rfl⟩ (by show _ ≤ 603072; omega) (by show _ ≤ 7194730; omega) dL_law_661) (rfl : _ = 664) ?_
      refine V_iload Y.1 1 dL_law_664 (rfl : _ = 666) rfl ?_
      refine V_icmp_eq Y.1 (tgt := 671) dL_law_666 (by decide) (rfl : _ = 669) (fun _ => ?_) (fun c_n => absurd pk_us c_n)
      refine V_iload Y.1 1 dL_law_671 (rfl : _ = 673) rfl ?_
      refine V_if_ne Y.1 (tgt := 688) dL_law_673 (by decide) (rfl : _ = 676) (fun _ => ?_) (fun c_n => absurd c_n (by decide))
      refine V_goto Y.1 (tgt := 2781) dL_law_688 (by decide) ?_
      exact V_forget (ls' := [(5, _), (4, _), (3, _), (2, _), (1, _), (0, _)]) [2, 3, 4, 5, 6, 7] rfl (V_widen (by omega) (by omega) (kk _ ⟨_, _, _, _, _, _, _, _, _, _, _, _, _, _, _, _, _, _, _, _, _, _, _, hC, (hG.f6 _).more (by omega)⟩))

set_option maxRecDepth 100000 in
set_option maxHeartbeats 4000000 in
theorem lc_6 (l : Launch) (D : va_G) (kA : Nat → ClassId) (Hs : Heap) (σ : SG) (hnt : l.stackTraces = false) {Pp : Program} {Ee : Env} {Ss : State} {Mm : MethodId} {Ar : Array Value} {Bl : List Frame} {Me : Method} {Cc : Code} {Q : State → Prop} (Z : Ys Pp Ss Mm Ar Me Cc cL_law 9 (some .boolean) "MetroFaresLaw" D kA (AA Hs nof) Hs σ) (sa N : Nat) (f : Nat → Int32) (hsa : va_X sa N f Ss Ss.heap ∧ sa < Ss.heap.size ∧ ¬ AA Hs nof sa) (hN : N ≤ 1536) (a j : Nat) (hj : 3 * j + 3 ≤ N) (H : Heap) (hI : Inv D kA Hs a H (61 * j)) (kk : ∀ H1, Inv D kA Hs a H1 (61 * (j + 1)) → V Pp l Ee (rmO 2048 94400 603072 7194730) Ss Mm Ar Bl Me Cc 9 (AA Hs nof) Q H1 (400 + 200 * (j + 1)) (6000 + 400 * (j + 1)) 2781 [(5, .int (nI (3 * j))), (4, .ref (a + 338)), (3, .ref (a + 337)), (2, .ref (a + 329)), (1, .ref a), (0, .ref sa)] []) : V Pp l Ee (rmO 2048 94400 603072 7194730) Ss Mm Ar Bl Me Cc 9 (AA Hs nof) Q H (400 + 200 * (j)) (6000 + 400 * (j)) 691 [(5, .int (nI (3 * j))), (4, .ref (a + 338)), (3, .ref (a + 337)), (2, .ref (a + 329)), (1, .ref a), (0, .ref sa)] [] := by
  obtain ⟨W, π, ES, u, hs, ep, fc, no, go, vs, cs, ns, gs, F, s, b, v, p, uu, tt, cc, n, t, hC, hG⟩ := hI
  have Y := Z.1
  have hS := hG.1.1.1
  have hM9 := hG.1.1
  have hjq : j ≤ 512 := by omega
  have hu8 := hC.1.2.2.2.2.2.2.2.1
  obtain ⟨w1, ho1⟩ := hC.2.2.1
  obtain ⟨x, hx⟩ : ∃ x, f (3 * j + 1) = x := ⟨_, rfl⟩
  obtain ⟨y, hy⟩ : ∃ y, f (3 * j + 2) = y := ⟨_, rfl⟩
  refine V_aload_n Y.1 4 dL_law_691 (rfl : _ = 692) rfl rfl ?_
  refine V_aload_n Y.1 5 dL_law_692 (rfl : _ = 693) rfl rfl ?_
  refine V_iload Y.1 0 dL_law_693 (rfl : _ = 695) rfl ?_
  refine V_iconst Y.1 (v := 1) dL_law_695 (rfl : _ = 696) (by decide) ?_
  refine V_iadd Y.1 dL_law_696 (rfl : _ = 697) ?_
  refine V_nm (v := nI (3 * j + 1)) (nI_add _ 1) ?_
  refine V_sld Y.1 (v := x) hsa (vp_in_nI (by omega) (by omega)) (by rw [nI_clamp (by omega)]; exact hx) dL_law_697 (rfl : _ = 698) ?_
  refine V_aload_n Y.1 5 dL_law_698 (rfl : _ = 699) rfl rfl ?_
  refine V_iload Y.1 0 dL_law_699 (rfl : _ = 701) rfl ?_
  refine V_iconst Y.1 (v := 2) dL_law_701 (rfl : _ = 702) (by decide) ?_
  refine V_iadd Y.1 dL_law_702 (rfl : _ = 703) ?_
  refine V_nm (v := nI (3 * j + 2)) (nI_add _ 2) ?_
  refine V_sld Y.1 (v := y) hsa (vp_in_nI (by omega) (by omega)) (by rw [nI_clamp (by omega)]; exact hy) dL_law_703 (rfl : _ = 704) ?_
  refine V_aload_n Y.1 2 dL_law_704 (rfl : _ = 705) rfl rfl ?_
  refine V_cI Y (sW Z (c_L_setFares l D kA Hs σ _ hC.2.2.2.2.1 a W π ES u hs ep fc no go vs cs ns gs x y n (t / 1440) (a + 337) w1 hC.1 hnt hM9.mi hC.2.2.2.2.2.1 ho1 (by omega) (by have := hC.2.2.2.2.2.2.2; omega) (by have := hC.2.2.2.2.2.1; omega)) mh_L_setFares si_L_178 rfl rfl (Nat.le_of_ble_eq_true rfl) ⟨Nat.le_of_ble_eq_true rfl, Nat.le_of_ble_eq_true rfl⟩ (by show _ ≤ 603072; omega) (by show _ ≤ 7194730; omega) dL_law_705) (fun q z => Or.inr (by have h9 := hC.2.2.2.2.2.1; rcases z with z | z; exact (by have := z.1; omega); exact (by have z : q = a + 337 := z; omega))) (rfl : _ = 708) (fun v_705 H705_14 hq_705 o_705 => ?_)
  obtain ⟨st1, st2⟩ := hG.1.step (by omega) (k := 6) (by decide) x y
  rw [show Q8 s n t 6 x y = q_fares s x y from Q8_6] at st1 st2
  rcases hq_705 with ⟨hk9, r9, H9, w9, hP9, hst9, ho9, hw9⟩ | ⟨E9, hX9, hk9, ho9⟩
  · have hPm := hC.1.2.2.2.2.2.1
    have hk8 := hk9.symm
    subst hk8
    obtain ⟨hz9, hr9, hF9⟩ := hP9
    obtain ⟨a1, a2, n9, t9, a3⟩ := st1 hz9
    have hF8 := hF9.kept (hst9.off (F := fun q => q = a + 337) rfl) (fun q z e => by have e : q = a + 337 := e; have := z.2; omega) (fun e => by have e : vs = a + 337 := e; have := hC.2.2.2.2.2.2.2; omega) (fun q z e => by have e : q = a + 337 := e; have := hC.gro q z; omega)
    have hC := hC.cls o_705 (fun q z => z.elim Or.inl (fun e => Or.inr (Or.inr e))) hF8 ⟨_, ho9⟩ hC.gro hC.2.2.2.2.2.2.2
    rw [a2] at hr9
    refine V_istore Y.1 (ls' := [(6, _), (5, _), (4, _), (3, _), (2, _), (1, _), (0, _)]) dL_law_708 (rfl : _ = 710) (by decide) rfl ?_
    refine V_aload_n Y.1 4 dL_law_710 (rfl : _ = 711) rfl rfl ?_
    refine V_aload_n Y.1 6 dL_law_711 (rfl : _ = 712) rfl rfl ?_
    refine V_iload Y.1 1 dL_law_712 (rfl : _ = 714) rfl ?_
    refine V_iconst Y.1 (v := 1) dL_law_714 (rfl : _ = 715) (by decide) ?_
    refine V_iadd Y.1 dL_law_715 (rfl : _ = 716) ?_
    refine V_nm (v := nI (3 * j + 1)) (nI_add _ 1) ?_
    refine V_sld Y.1 (v := x) hsa (vp_in_nI (by omega) (by omega)) (by rw [nI_clamp (by omega)]; exact hx) dL_law_716 (rfl : _ = 717) ?_
    refine V_aload_n Y.1 6 dL_law_717 (rfl : _ = 718) rfl rfl ?_
    refine V_iload Y.1 1 dL_law_718 (rfl : _ = 720) rfl ?_
    refine V_iconst Y.1 (v := 2) dL_law_720 (rfl : _ = 721) (by decide) ?_
    refine V_iadd Y.1 dL_law_721 (rfl : _ = 722) ?_
    refine V_nm (v := nI (3 * j + 2)) (nI_add _ 2) ?_
    refine V_sld Y.1 (v := y) hsa (vp_in_nI (by omega) (by omega)) (by rw [nI_clamp (by omega)]; exact hy) dL_law_722 (rfl : _ = 723) ?_
    refine V_cI Y (rV Y (c_X6_setFares l D kA _ (a + 329) F s b v p uu tt cc x y u hu8 hC.2.1 hG.2.1.1) mi_X6_setFares vi_L_180 rfl hC.2.1.1 rfl rfl (Nat.le_of_ble_eq_true rfl) ⟨Nat.le_of_ble_eq_true rfl, Nat.le_of_ble_eq_true rfl⟩ (by show _ ≤ 603072; omega) (by show _ ≤ 7194730; omega) dL_law_723) (fun q z => Or.inr (by have z := z.1; have := hC.2.2.2.2.2.1; omega)) (rfl : _ = 726) (fun v_723 H723_22 hq_723 o_723 => ?_)
    obtain ⟨hb2, hR2⟩ := hq_723
    rw [a1, if_pos rfl] at hb2
    rw [a1, if_pos rfl, if_pos rfl, r_fd_0] at hR2
    have hb3 := hr9.trans hb2.symm
    subst hb3
    have ho9 := ho9.off o_723 (fun e => by have := e.2; omega)
    have hC := hC.mod o_723 hR2
    refine V_istore Y.1 (ls' := [(7, _), (6, _), (5, _), (4, _), (3, _), (2, _), (1, _), (0, _)]) dL_law_726 (rfl : _ = 728) (by decide) rfl ?_
    refine V_aload_n Y.1 5 dL_law_728 (rfl : _ = 729) rfl rfl ?_
    refine V_cP Y (rV Y (c_X6_thrown l D kA _ (a + 329) _ _ _ _ _ _ _ _ hC.2.1) mi_X6_thrown vi_L_159 rfl hC.2.1.1 rfl rfl (Nat.le_of_ble_eq_true rfl) ⟨Nat.le_of_ble_eq_true rfl, Nat.le_of_ble_eq_true rfl⟩ (by show _ ≤ 603072; omega) (by show _ ≤ 7194730; omega) dL_law_729) (rfl : _ = 732) ?_
    refine V_iload Y.1 1 dL_law_732 (rfl : _ = 734) rfl ?_
    refine V_icmp_eq Y.1 (tgt := 739) dL_law_734 (by decide) (rfl : _ = 737) (fun _ => ?_) (fun c_n => absurd (by rw [pk_un (by decide), pk_us]) c_n)
    refine V_iload Y.1 1 dL_law_739 (rfl : _ = 741) rfl ?_
    refine V_if_ne Y.1 (tgt := 756) dL_law_741 (by decide) (rfl : _ = 744) (fun c_n => absurd rfl c_n) (fun _ => ?_)
    refine V_aload_n Y.1 4 dL_law_744 (rfl : _ = 745) rfl rfl ?_
    refine V_iconst Y.1 (v := 0) dL_law_745 (rfl : _ = 746) (by decide) ?_
    refine V_lald Y.1 (v := r9.toInt64) ho9 (show ¬ ((0 : Int32) < 0 ∨ 1 ≤ (0 : Int32).toNatClampNeg) by decide) hw9 dL_law_746 (rfl : _ = 747) ?_
    refine V_iload Y.1 0 dL_law_747 (rfl : _ = 749) rfl ?_
    refine V_i2l Y.1 dL_law_749 (rfl : _ = 750) rfl ?_
    refine V_lcmp Y.1 dL_law_750 (rfl : _ = 751) ?_
    refine V_if_eq Y.1 (tgt := 756) dL_law_751 (by decide) (rfl : _ = 754) (fun _ => ?_) (fun c_n => absurd (lg_self _) c_n)
    refine V_goto Y.1 (tgt := 2781) dL_law_756 (by decide) ?_
    exact V_forget (ls' := [(5, _), (4, _), (3, _), (2, _), (1, _), (0, _)]) [2, 3, 4, 5, 6, 7] rfl (V_widen (by omega) (by omega) (kk _ ⟨_, _, _, _, _, _, _, _, _, _, _, _, _, _, _, _, _, _, _, _, _, _, _, hC, hG.push hPm hu8 (by omega) (a3.more (by omega)) ⟨pk_us, by rw [pk_un (by decide), pk_un (by decide)], by rw [pk_un (by decide), pk_un (by decide)], by rw [pk_un (by decide), pk_un (by decide)], by rw [pk_un (by decide), pk_un (by decide)], by rw [pk_un (by decide), pk_un (by decide)]⟩⟩))
  · obtain ⟨hE9, hn9, hF8⟩ := hX9
    have hC := hC.cls o_705 (fun q z => z.elim Or.inl (fun e => Or.inr (Or.inr e))) hF8 ⟨_, ho9⟩ hC.2.2.2.2.2.2.1 hC.2.2.2.2.2.2.2
    have hq9 := st2 hn9
    have hz8 := kz_6 hn9
    rw [hz8] at hE9
    subst hE9
    rw [hz8, pm_62] at hq9
    have hk7 : v_705 = 1 := hk9
    have hk8 := hk7.symm
    subst hk8
    refine V_istore Y.1 (ls' := [(6, _), (5, _), (4, _), (3, _), (2, _), (1, _), (0, _)]) dL_law_708 (rfl : _ = 710) (by decide) rfl ?_
    refine V_aload_n Y.1 4 dL_law_710 (rfl : _ = 711) rfl rfl ?_
    refine V_aload_n Y.1 6 dL_law_711 (rfl : _ = 712) rfl rfl ?_
    refine V_iload Y.1 1 dL_law_712 (rfl : _ = 714) rfl ?_
    refine V_iconst Y.1 (v := 1) dL_law_714 (rfl : _ = 715) (by decide) ?_
    refine V_iadd Y.1 dL_law_715 (rfl : _ = 716) ?_
    refine V_nm (v := nI (3 * j + 1)) (nI_add _ 1) ?_
    refine V_sld Y.1 (v := x) hsa (vp_in_nI (by omega) (by omega)) (by rw [nI_clamp (by omega)]; exact hx) dL_law_716 (rfl : _ = 717) ?_
    refine V_aload_n Y.1 6 dL_law_717 (rfl : _ = 718) rfl rfl ?_
    refine V_iload Y.1 1 dL_law_718 (rfl : _ = 720) rfl ?_
    refine V_iconst Y.1 (v := 2) dL_law_720 (rfl : _ = 721) (by decide) ?_
    refine V_iadd Y.1 dL_law_721 (rfl : _ = 722) ?_
    refine V_nm (v := nI (3 * j + 2)) (nI_add _ 2) ?_
    refine V_sld Y.1 (v := y) hsa (vp_in_nI (by omega) (by omega)) (by rw [nI_clamp (by omega)]; exact hy) dL_law_722 (rfl : _ = 723) ?_
    refine V_cI Y (rV Y (c_X6_setFares l D kA _ (a + 329) F s b v p uu tt cc x y u hu8 hC.2.1 hG.2.1.1) mi_X6_setFares vi_L_180 rfl hC.2.1.1 rfl rfl (Nat.le_of_ble_eq_true rfl) ⟨Nat.le_of_ble_eq_true rfl, Nat.le_of_ble_eq_true rfl⟩ (by show _ ≤ 603072; omega) (by show _ ≤ 7194730; omega) dL_law_723) (fun q z => Or.inr (by have z := z.1; have := hC.2.2.2.2.2.1; omega)) (rfl : _ = 726) (fun v_723 H723_20 hq_723 o_723 => ?_)
    obtain ⟨hb2, hR2⟩ := hq_723
    rw [hq9, if_neg (by decide), if_neg (by decide), r_fd_n (by decide)] at hR2
    have hC := hC.mod o_723 hR2
    refine V_istore Y.1 (ls' := [(7, _), (6, _), (5, _), (4, _), (3, _), (2, _), (1, _), (0, _)]) dL_law_726 (rfl : _ = 728) (by decide) rfl ?_
    refine V_aload_n Y.1 5 dL_law_728 (rfl : _ = 729) rfl rfl ?_
    refine V_cP Y (rV Y (c_X6_thrown l D kA _ (a + 329) _ _ _ _ _ _ _ _ hC.2.1) mi_X6_thrown vi_L_159 rfl hC.2.1.1 rfl rfl (Nat.le_of_ble_eq_true rfl) ⟨Nat.le_of_ble_eq_true rfl, Nat.le_of_ble_eq_true rfl⟩ (by show _ ≤ 603072; omega) (by show _ ≤ 7194730; omega) dL_law_729) (rfl : _ = 732) ?_
    refine V_iload Y.1 1 dL_law_732 (rfl : _ = 734) rfl ?_
    refine V_icmp_eq Y.1 (tgt := 739) dL_law_734 (by decide) (rfl : _ = 737) (fun _ => ?_) (fun c_n => absurd pk_us c_n)
    refine V_iload Y.1 1 dL_law_739 (rfl : _ = 741) rfl ?_
    refine V_if_ne Y.1 (tgt := 756) dL_law_741 (by decide) (rfl : _ = 744) (fun _ => ?_) (fun c_n => absurd c_n (by decide))
    refine V_goto Y.1 (tgt := 2781) dL_law_756 (by decide) ?_
    exact V_forget (ls' := [(5, _), (4, _), (3, _), (2, _), (1, _), (0, _)]) [2, 3, 4, 5, 6, 7] rfl (V_widen (by omega) (by omega) (kk _ ⟨_, _, _, _, _, _, _, _, _, _, _, _, _, _, _, _, _, _, _, _, _, _, _, hC, (hG.f6 _).more (by omega)⟩))

set_option maxRecDepth 100000 in
set_option maxHeartbeats 4000000 in
theorem lc_7 (l : Launch) (D : va_G) (kA : Nat → ClassId) (Hs : Heap) (σ : SG) (hnt : l.stackTraces = false) {Pp : Program} {Ee : Env} {Ss : State} {Mm : MethodId} {Ar : Array Value} {Bl : List Frame} {Me : Method} {Cc : Code} {Q : State → Prop} (Z : Ys Pp Ss Mm Ar Me Cc cL_law 9 (some .boolean) "MetroFaresLaw" D kA (AA Hs nof) Hs σ) (sa N : Nat) (f : Nat → Int32) (hsa : va_X sa N f Ss Ss.heap ∧ sa < Ss.heap.size ∧ ¬ AA Hs nof sa) (hN : N ≤ 1536) (a j : Nat) (hj : 3 * j + 3 ≤ N) (H : Heap) (hI : Inv D kA Hs a H (61 * j)) (kk : ∀ H1, Inv D kA Hs a H1 (61 * (j + 1)) → V Pp l Ee (rmO 2048 94400 603072 7194730) Ss Mm Ar Bl Me Cc 9 (AA Hs nof) Q H1 (400 + 200 * (j + 1)) (6000 + 400 * (j + 1)) 2781 [(5, .int (nI (3 * j))), (4, .ref (a + 338)), (3, .ref (a + 337)), (2, .ref (a + 329)), (1, .ref a), (0, .ref sa)] []) : V Pp l Ee (rmO 2048 94400 603072 7194730) Ss Mm Ar Bl Me Cc 9 (AA Hs nof) Q H (400 + 200 * (j)) (6000 + 400 * (j)) 759 [(5, .int (nI (3 * j))), (4, .ref (a + 338)), (3, .ref (a + 337)), (2, .ref (a + 329)), (1, .ref a), (0, .ref sa)] [] := by
  obtain ⟨W, π, ES, u, hs, ep, fc, no, go, vs, cs, ns, gs, F, s, b, v, p, uu, tt, cc, n, t, hC, hG⟩ := hI
  have Y := Z.1
  have hS := hG.1.1.1
  have hM9 := hG.1.1
  have hjq : j ≤ 512 := by omega
  have hu8 := hC.1.2.2.2.2.2.2.2.1
  obtain ⟨w1, ho1⟩ := hC.2.2.1
  obtain ⟨x, hx⟩ : ∃ x, f (3 * j + 1) = x := ⟨_, rfl⟩
  obtain ⟨y, hy⟩ : ∃ y, f (3 * j + 2) = y := ⟨_, rfl⟩
  refine V_aload_n Y.1 4 dL_law_759 (rfl : _ = 760) rfl rfl ?_
  refine V_aload_n Y.1 5 dL_law_760 (rfl : _ = 761) rfl rfl ?_
  refine V_iload Y.1 0 dL_law_761 (rfl : _ = 763) rfl ?_
  refine V_iconst Y.1 (v := 1) dL_law_763 (rfl : _ = 764) (by decide) ?_
  refine V_iadd Y.1 dL_law_764 (rfl : _ = 765) ?_
  refine V_nm (v := nI (3 * j + 1)) (nI_add _ 1) ?_
  refine V_sld Y.1 (v := x) hsa (vp_in_nI (by omega) (by omega)) (by rw [nI_clamp (by omega)]; exact hx) dL_law_765 (rfl : _ = 766) ?_
  refine V_aload_n Y.1 2 dL_law_766 (rfl : _ = 767) rfl rfl ?_
  refine V_cI Y (sW Z (c_L_advance l D kA Hs σ _ hC.2.2.2.2.1 a W π ES u hs ep fc no go vs cs ns gs x n (t / 1440) (a + 337) w1 hC.1 hnt hM9.mi hC.2.2.2.2.2.1 ho1 (by omega) (by have := hC.2.2.2.2.2.2.2; omega) (by have := hC.2.2.2.2.2.1; omega)) mh_L_advance si_L_181 rfl rfl (Nat.le_of_ble_eq_true rfl) ⟨Nat.le_of_ble_eq_true rfl, Nat.le_of_ble_eq_true rfl⟩ (by show _ ≤ 603072; omega) (by show _ ≤ 7194730; omega) dL_law_767) (fun q z => Or.inr (by have h9 := hC.2.2.2.2.2.1; rcases z with z | z; exact (by have := z.1; omega); exact (by have z : q = a + 337 := z; omega))) (rfl : _ = 770) (fun v_767 H767_8 hq_767 o_767 => ?_)
  obtain ⟨st1, st2⟩ := hG.1.step (by omega) (k := 7) (by decide) x 0
  rw [show Q8 s n t 7 x 0 = q_wait s n t x from Q8_7] at st1 st2
  rcases hq_767 with ⟨hk9, r9, H9, w9, hP9, hst9, ho9, hw9⟩ | ⟨E9, hX9, hk9, ho9⟩
  · have hPm := hC.1.2.2.2.2.2.1
    have hk8 := hk9.symm
    subst hk8
    obtain ⟨hz9, hr9, hF9⟩ := hP9
    obtain ⟨a1, a2, n9, t9, a3⟩ := st1 hz9
    have hF8 := hF9.kept (hst9.off (F := fun q => q = a + 337) rfl) (fun q z e => by have e : q = a + 337 := e; have := z.2; omega) (fun e => by have e : vs = a + 337 := e; have := hC.2.2.2.2.2.2.2; omega) (fun q z e => by have e : q = a + 337 := e; have := hC.gro q z; omega)
    have hC := hC.cls o_767 (fun q z => z.elim Or.inl (fun e => Or.inr (Or.inr e))) hF8 ⟨_, ho9⟩ hC.gro hC.2.2.2.2.2.2.2
    rw [a2] at hr9
    refine V_istore Y.1 (ls' := [(6, _), (5, _), (4, _), (3, _), (2, _), (1, _), (0, _)]) dL_law_770 (rfl : _ = 772) (by decide) rfl ?_
    refine V_aload_n Y.1 4 dL_law_772 (rfl : _ = 773) rfl rfl ?_
    refine V_aload_n Y.1 6 dL_law_773 (rfl : _ = 774) rfl rfl ?_
    refine V_iload Y.1 1 dL_law_774 (rfl : _ = 776) rfl ?_
    refine V_iconst Y.1 (v := 1) dL_law_776 (rfl : _ = 777) (by decide) ?_
    refine V_iadd Y.1 dL_law_777 (rfl : _ = 778) ?_
    refine V_nm (v := nI (3 * j + 1)) (nI_add _ 1) ?_
    refine V_sld Y.1 (v := x) hsa (vp_in_nI (by omega) (by omega)) (by rw [nI_clamp (by omega)]; exact hx) dL_law_778 (rfl : _ = 779) ?_
    refine V_cI Y (rV Y (c_X6_advance l D kA _ (a + 329) F s b v p uu tt cc n t x u hu8 hC.2.1 hS.1 (by have := hG.1.2; omega) hG.2.1.1) mi_X6_advance vi_L_184 rfl hC.2.1.1 rfl rfl (Nat.le_of_ble_eq_true rfl) ⟨Nat.le_of_ble_eq_true rfl, Nat.le_of_ble_eq_true rfl⟩ (by show _ ≤ 603072; omega) (by show _ ≤ 7194730; omega) dL_law_779) (fun q z => Or.inr (by have z := z.1; have := hC.2.2.2.2.2.1; omega)) (rfl : _ = 782) (fun v_779 H779_16 hq_779 o_779 => ?_)
    obtain ⟨hb2, hR2⟩ := hq_779
    rw [a1, if_pos rfl] at hb2
    rw [a1, if_pos rfl, if_pos rfl, r_fd_0] at hR2
    have hb3 := hr9.trans hb2.symm
    subst hb3
    have ho9 := ho9.off o_779 (fun e => by have := e.2; omega)
    have hC := hC.mod o_779 hR2
    refine V_istore Y.1 (ls' := [(7, _), (6, _), (5, _), (4, _), (3, _), (2, _), (1, _), (0, _)]) dL_law_782 (rfl : _ = 784) (by decide) rfl ?_
    refine V_aload_n Y.1 5 dL_law_784 (rfl : _ = 785) rfl rfl ?_
    refine V_cP Y (rV Y (c_X6_thrown l D kA _ (a + 329) _ _ _ _ _ _ _ _ hC.2.1) mi_X6_thrown vi_L_159 rfl hC.2.1.1 rfl rfl (Nat.le_of_ble_eq_true rfl) ⟨Nat.le_of_ble_eq_true rfl, Nat.le_of_ble_eq_true rfl⟩ (by show _ ≤ 603072; omega) (by show _ ≤ 7194730; omega) dL_law_785) (rfl : _ = 788) ?_
    refine V_iload Y.1 1 dL_law_788 (rfl : _ = 790) rfl ?_
    refine V_icmp_eq Y.1 (tgt := 795) dL_law_790 (by decide) (rfl : _ = 793) (fun _ => ?_) (fun c_n => absurd (by rw [pk_un (by decide), pk_us]) c_n)
    refine V_iload Y.1 1 dL_law_795 (rfl : _ = 797) rfl ?_
    refine V_if_ne Y.1 (tgt := 812) dL_law_797 (by decide) (rfl : _ = 800) (fun c_n => absurd rfl c_n) (fun _ => ?_)
    refine V_aload_n Y.1 4 dL_law_800 (rfl : _ = 801) rfl rfl ?_
    refine V_iconst Y.1 (v := 0) dL_law_801 (rfl : _ = 802) (by decide) ?_
    refine V_lald Y.1 (v := r9.toInt64) ho9 (show ¬ ((0 : Int32) < 0 ∨ 1 ≤ (0 : Int32).toNatClampNeg) by decide) hw9 dL_law_802 (rfl : _ = 803) ?_
    refine V_iload Y.1 0 dL_law_803 (rfl : _ = 805) rfl ?_
    refine V_i2l Y.1 dL_law_805 (rfl : _ = 806) rfl ?_
    refine V_lcmp Y.1 dL_law_806 (rfl : _ = 807) ?_
    refine V_if_eq Y.1 (tgt := 812) dL_law_807 (by decide) (rfl : _ = 810) (fun _ => ?_) (fun c_n => absurd (lg_self _) c_n)
    refine V_goto Y.1 (tgt := 2781) dL_law_812 (by decide) ?_
    exact V_forget (ls' := [(5, _), (4, _), (3, _), (2, _), (1, _), (0, _)]) [2, 3, 4, 5, 6, 7] rfl (V_widen (by omega) (by omega) (kk _ ⟨_, _, _, _, _, _, _, _, _, _, _, _, _, _, _, _, _, _, _, _, _, _, _, hC, hG.push hPm hu8 (by omega) (a3.more (by omega)) ⟨pk_us, by rw [pk_un (by decide), pk_un (by decide)], by rw [pk_un (by decide), pk_un (by decide)], by rw [pk_un (by decide), pk_un (by decide)], by rw [pk_un (by decide), pk_un (by decide)], by rw [pk_un (by decide), pk_un (by decide)]⟩⟩))
  · obtain ⟨hE9, hn9, hF8⟩ := hX9
    have hC := hC.cls o_767 (fun q z => z.elim Or.inl (fun e => Or.inr (Or.inr e))) hF8 ⟨_, ho9⟩ hC.2.2.2.2.2.2.1 hC.2.2.2.2.2.2.2
    have hq9 := st2 hn9
    have hz8 := kz_7 hn9
    rw [hz8] at hE9
    subst hE9
    rw [hz8, pm_72] at hq9
    have hk7 : v_767 = 1 := hk9
    have hk8 := hk7.symm
    subst hk8
    refine V_istore Y.1 (ls' := [(6, _), (5, _), (4, _), (3, _), (2, _), (1, _), (0, _)]) dL_law_770 (rfl : _ = 772) (by decide) rfl ?_
    refine V_aload_n Y.1 4 dL_law_772 (rfl : _ = 773) rfl rfl ?_
    refine V_aload_n Y.1 6 dL_law_773 (rfl : _ = 774) rfl rfl ?_
    refine V_iload Y.1 1 dL_law_774 (rfl : _ = 776) rfl ?_
    refine V_iconst Y.1 (v := 1) dL_law_776 (rfl : _ = 777) (by decide) ?_
    refine V_iadd Y.1 dL_law_777 (rfl : _ = 778) ?_
    refine V_nm (v := nI (3 * j + 1)) (nI_add _ 1) ?_
    refine V_sld Y.1 (v := x) hsa (vp_in_nI (by omega) (by omega)) (by rw [nI_clamp (by omega)]; exact hx) dL_law_778 (rfl : _ = 779) ?_
    refine V_cI Y (rV Y (c_X6_advance l D kA _ (a + 329) F s b v p uu tt cc n t x u hu8 hC.2.1 hS.1 (by have := hG.1.2; omega) hG.2.1.1) mi_X6_advance vi_L_184 rfl hC.2.1.1 rfl rfl (Nat.le_of_ble_eq_true rfl) ⟨Nat.le_of_ble_eq_true rfl, Nat.le_of_ble_eq_true rfl⟩ (by show _ ≤ 603072; omega) (by show _ ≤ 7194730; omega) dL_law_779) (fun q z => Or.inr (by have z := z.1; have := hC.2.2.2.2.2.1; omega)) (rfl : _ = 782) (fun v_779 H779_14 hq_779 o_779 => ?_)
    obtain ⟨hb2, hR2⟩ := hq_779
    rw [hq9, if_neg (by decide), if_neg (by decide), r_fd_n (by decide)] at hR2
    have hC := hC.mod o_779 hR2
    refine V_istore Y.1 (ls' := [(7, _), (6, _), (5, _), (4, _), (3, _), (2, _), (1, _), (0, _)]) dL_law_782 (rfl : _ = 784) (by decide) rfl ?_
    refine V_aload_n Y.1 5 dL_law_784 (rfl : _ = 785) rfl rfl ?_
    refine V_cP Y (rV Y (c_X6_thrown l D kA _ (a + 329) _ _ _ _ _ _ _ _ hC.2.1) mi_X6_thrown vi_L_159 rfl hC.2.1.1 rfl rfl (Nat.le_of_ble_eq_true rfl) ⟨Nat.le_of_ble_eq_true rfl, Nat.le_of_ble_eq_true rfl⟩ (by show _ ≤ 603072; omega) (by show _ ≤ 7194730; omega) dL_law_785) (rfl : _ = 788) ?_
    refine V_iload Y.1 1 dL_law_788 (rfl : _ = 790) rfl ?_
    refine V_icmp_eq Y.1 (tgt := 795) dL_law_790 (by decide) (rfl : _ = 793) (fun _ => ?_) (fun c_n => absurd pk_us c_n)
    refine V_iload Y.1 1 dL_law_795 (rfl : _ = 797) rfl ?_
    refine V_if_ne Y.1 (tgt := 812) dL_law_797 (by decide) (rfl : _ = 800) (fun _ => ?_) (fun c_n => absurd c_n (by decide))
    refine V_goto Y.1 (tgt := 2781) dL_law_812 (by decide) ?_
    exact V_forget (ls' := [(5, _), (4, _), (3, _), (2, _), (1, _), (0, _)]) [2, 3, 4, 5, 6, 7] rfl (V_widen (by omega) (by omega) (kk _ ⟨_, _, _, _, _, _, _, _, _, _, _, _, _, _, _, _, _, _, _, _, _, _, _, hC, (hG.f6 _).more (by omega)⟩))

