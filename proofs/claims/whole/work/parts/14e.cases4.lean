/-! The law's cases: output, typing, scripts. -/
theorem r_card_ch (s : Nat → Int32) (i : Nat) : ∀ x ∈ r_card s i, ∃ c, c < 128 ∧ x = nI c := by
  intro x h
  unfold r_card at h
  rcases List.mem_append.mp h with g | g
  · exact sg_ch _ x g
  · rcases List.mem_cons.mp g with g | g
    · by_cases e : ro s i 0 = 1
      · rw [if_pos e] at g; subst g; exact ⟨114, by decide, rfl⟩
      · rw [if_neg e] at g; subst g; exact ⟨102, by decide, rfl⟩
    · rcases List.mem_cons.mp g with rfl | g
      · exact ⟨58, by decide, rfl⟩
      · rcases List.mem_append.mp g with g | g
        · exact sg_ch _ x g
        · by_cases e : ro s i 2 < 0
          · rw [if_pos e] at g; exact absurd g List.not_mem_nil
          · rw [if_neg e] at g
            rcases List.mem_cons.mp g with rfl | g
            · exact ⟨64, by decide, rfl⟩
            · exact sg_ch _ x g
theorem r_zl_ch (s : Nat → Int32) : ∀ k, ∀ x ∈ r_zl s k, ∃ c, c < 128 ∧ x = nI c
  | 0, x, h => absurd h List.not_mem_nil
  | k + 1, x, h => by
    rcases List.mem_append.mp (show x ∈ r_zl s k ++ sg (s (9 + k)) from h) with g | g
    · exact r_zl_ch s k x g
    · exact sg_ch _ x g
theorem r_put_lt : ∀ (L : List Int32) (u : Nat → Int32) (q k : Nat), k < q → r_put u q L k = u k
  | [], _, _, _, _ => rfl
  | x :: L, u, q, k, h => by
    show r_put (upd u q x) (q + 1) L k = _
    rw [r_put_lt L _ _ _ (by omega), pk_un (by omega)]
theorem r_put_eq : ∀ (L : List Int32) (u v : Nat → Int32) (q j : Nat), j < L.length → r_put u q L (q + j) = r_put v q L (q + j) ∧ r_put u q L (q + j) ∈ L
  | [], _, _, _, _, h => absurd h (Nat.not_lt_zero _)
  | x :: L, u, v, q, j, h => by
    show r_put (upd u q x) (q + 1) L (q + j) = r_put (upd v q x) (q + 1) L (q + j) ∧ r_put (upd u q x) (q + 1) L (q + j) ∈ x :: L
    cases j with
    | zero =>
      rw [r_put_lt L _ _ _ (by omega), r_put_lt L _ _ _ (by omega), Nat.add_zero, pk_us, pk_us]
      exact ⟨rfl, List.mem_cons_self⟩
    | succ j =>
      have ih := r_put_eq L (upd u q x) (upd v q x) (q + 1) j (by simpa using h)
      rw [show q + (j + 1) = q + 1 + j by omega]
      exact ⟨ih.1, List.mem_cons_of_mem _ ih.2⟩
theorem i2c_nat (x : Int32) : ∃ c, c < 65536 ∧ (x.toUInt32 % 65536).toInt32 = nI c := by
  refine ⟨(x.toUInt32 % 65536).toNat, by rw [UInt32.toNat_mod]; exact Nat.mod_lt _ (by decide), ?_⟩
  apply Int32.toBitVec_inj.mp
  apply BitVec.eq_of_toNat_eq
  simp [nI]
  show x.toBitVec.toNat % 65536 = x.toBitVec.toNat % 65536 % 4294967296
  omega
theorem nar16 {c : Nat} (h : c < 65536) : narrow .char (.int (nI c)) = .int (nI c) := by
  show Value.int ((nI c).toUInt32.toUInt16.toUInt32.toInt32) = _
  congr 1
  apply Int32.toBitVec_inj.mp
  apply BitVec.eq_of_toNat_eq
  simp [nI]
  omega
theorem g_type_0 {c ns : Nat} (h1 : 32 ≤ c) (h2 : c ≤ 126) (h3 : ns < 60) : g_type (nI c) ns = 0 := by
  unfold g_type
  rw [if_neg (fun z => by
    rw [r_in_z, show (32 : Int32) = nI 32 from rfl, show (126 : Int32) = nI 126 from rfl, nI_ltI (by omega) (by decide), nI_ltI (by decide) (by omega)] at z
    omega), if_neg (by omega)]
theorem g_type_1 {c ns : Nat} (hc : c < 65536) (h : c < 32 ∨ 126 < c) : g_type (nI c) ns = 1 := by
  unfold g_type
  rw [if_pos]
  rw [r_in_z, show (32 : Int32) = nI 32 from rfl, show (126 : Int32) = nI 126 from rfl, nI_ltI (by omega) (by decide), nI_ltI (by decide) (by omega)]
  exact h
theorem g_type_2 {c ns : Nat} (h1 : 32 ≤ c) (h2 : c ≤ 126) (h3 : 60 ≤ ns) (h4 : ns ≤ 60) : g_type (nI c) ns = 2 := by
  unfold g_type
  rw [if_neg (fun z => by
    rw [r_in_z, show (32 : Int32) = nI 32 from rfl, show (126 : Int32) = nI 126 from rfl, nI_ltI (by omega) (by decide), nI_ltI (by decide) (by omega)] at z
    omega), if_pos (by omega)]
section GPX
variable {W : Nat → MS} {π : Nat → Nat} {u : Nat} {hs ep fc : Int32} {no : Nat} {go : Nat → Int32} {ns : Nat} {gs F F' s v p uu tt : Nat → Int32} {n t q : Nat}
theorem SS.hcb2 {M : MS} {A B C T : Nat} (h : SS M s n t A B C T) : ∀ i, i < n → -100000 < (ro s i 1).toInt ∧ (ro s i 1).toInt < 100000 := fun i hi => by
  obtain ⟨a, -, b⟩ := h.1.2.2.2.2.2.2.2 i hi
  rw [a.e1]
  have := b.1
  have := b.2.2.1
  omega
theorem Gp.outp {L : List Int32} (h : Gp W π u hs ep fc no go ns gs F s v p uu tt n t q) (hL : ∀ x ∈ L, ∃ c, c < 128 ∧ x = nI c) (hl : L.length ≤ 16) : Gp W π u hs ep fc L.length (r_put go 0 L) ns gs (upd (upd F 6 0) 8 (nI L.length)) s v p (r_put uu 0 L) tt n t q := by
  obtain ⟨h1, ⟨f1, f2, f3, f4, f5, f6⟩, h3, h4, h5, h6⟩ := h
  refine ⟨h1, ⟨by rw [pk_un (by decide), pk_un (by decide)]; exact f1, by rw [pk_un (by decide), pk_un (by decide)]; exact f2, pk_us, by rw [pk_un (by decide), pk_un (by decide)]; exact f4, by rw [pk_un (by decide), pk_un (by decide)]; exact f5, by rw [pk_un (by decide), pk_un (by decide)]; exact f6⟩, h3, h4, ⟨hl, fun j hj => ?_⟩, h6⟩
  have e := r_put_eq L go uu 0 j hj
  rw [Nat.zero_add] at e
  exact ⟨e.1, hL _ e.2⟩
theorem zl_len {M : MS} {A B C T : Nat} (h : Sw M s n t A B C T) : ∀ k, k ≤ 12 → (r_zl s k).length = k
  | 0, _ => rfl
  | k + 1, hk => by
    obtain ⟨a, z, z1, z6, e⟩ := h.2.2.2.1 k (by omega)
    show (r_zl s k ++ sg (s (9 + k))).length = k + 1
    rw [List.length_append, zl_len h k (by omega), e, sg_l1 (by omega)]
theorem Gp.outz {A B C T : Nat} (h : Gp W π u hs ep fc no go ns gs F s v p uu tt n t q) (hS : Sw (W (π 0)) s n t A B C T) : Gp W π u hs ep fc 12 (r_put go 0 (r_zl s 12)) ns gs (upd (upd F 6 0) 8 (nI 12)) s v p (r_put uu 0 (r_zl s 12)) tt n t q := by
  have e := zl_len hS 12 (Nat.le_refl _)
  have g := h.outp (r_zl_ch s 12) (by rw [e]; decide)
  rw [e] at g
  exact g
theorem Gp.typ {g9 : Nat → Int32} {c : Nat} (h : Gp W π u hs ep fc no go ns gs F s v p uu tt n t q) (h60 : ns < 60) (hc : c ≤ 126) (hg1 : ∀ j, j < ns → g9 j = gs j) (hg2 : g9 ns = nI c) : Gp W π u hs ep fc no go (ns + 1) g9 (upd (upd F 6 0) 10 (nI (ns + 1))) s v p uu (upd tt ns (nI c)) n t q := by
  obtain ⟨h1, ⟨f1, f2, f3, f4, f5, f6⟩, h3, h4, h5, ⟨h6, h7⟩, h8⟩ := h
  refine ⟨h1, ⟨by rw [pk_un (by decide), pk_un (by decide)]; exact f1, by rw [pk_un (by decide), pk_un (by decide)]; exact f2, by rw [pk_un (by decide), pk_un (by decide)]; exact f3, pk_us, by rw [pk_un (by decide), pk_un (by decide)]; exact f5, by rw [pk_un (by decide), pk_un (by decide)]; exact f6⟩, h3, h4, h5, ⟨h60, fun j hj => ?_⟩, h8⟩
  rcases Nat.lt_succ_iff_lt_or_eq.mp hj with e | e
  · obtain ⟨c9, a1, a2, a3⟩ := h7 j e
    exact ⟨c9, a1, (hg1 j e).trans a2, by rw [pk_un (by omega)]; exact a3⟩
  · subst e
    exact ⟨c, by omega, hg2, pk_us⟩
theorem Gp.scr0 {ep1 fc1 : Int32} (h : Gp W π u hs ep fc no go ns gs F s v p uu tt n t q) (e : F' 5 = F 5 ∧ F' 3 = F 3 ∧ F' 8 = F 8 ∧ F' 10 = 0 ∧ F' 13 = ep1 ∧ F' 14 = fc1) (h1 : ep1 = -1 ∨ ∃ e, e < 2 ^ 31 ∧ ep1 = nI e) (h2 : fc1 = -1 ∨ ∃ e, e < 2 ^ 31 ∧ fc1 = nI e) : Gp W π u hs ep1 fc1 no go 0 gs F' s v p uu tt n t q := by
  obtain ⟨g1, ⟨f1, f2, f3, f4, f5, f6⟩, g3, g4, g5, -⟩ := h
  obtain ⟨e1, e2, e3, e4, e5, e6⟩ := e
  exact ⟨g1, ⟨e1.trans f1, e2.trans f2, e3.trans f3, e4, e5, e6⟩, g3, g4, g5, ⟨Nat.zero_le _, fun j hj => absurd hj (Nat.not_lt_zero j)⟩, h1, h2⟩
theorem Gp.back {Mx : MS} (h : Gp W π u hs ep fc no go ns gs F s v p uu tt n t q) (hp : Pm π) (hu : u ≤ 8) : Gp (va_up (va_up W (π 1) (m_copy (W (π 1)) (W (π 0)) n)) (π 0) Mx) (p_swap π 0 1) u hs ep fc no go ns gs F s v p uu tt n t q := by
  obtain ⟨h1, h2, h3, h4, h5⟩ := h
  obtain ⟨p1, p2, p3⟩ := hp
  have n01 : π 1 ≠ π 0 := fun z => absurd (p2 1 0 (by decide) (by decide) z) (by decide)
  have n20 : 2 ≠ π 0 := fun z => absurd (p2 2 0 (by decide) (by decide) (p3.trans z)) (by decide)
  have n21 : 2 ≠ π 1 := fun z => absurd (p2 2 1 (by decide) (by decide) (p3.trans z)) (by decide)
  refine ⟨by rw [p_sw0, vu_ne n01, vu_eq]; exact ⟨h1.1.copy _, h1.2⟩, h2, fun z => by rw [vu_ne n20, vu_ne n21]; exact h3 z, fun k hk => ?_, h5⟩
  have e : p_swap π 0 1 (3 + k) = π (3 + k) := by unfold p_swap; rw [if_neg (by omega), if_neg (by omega)]
  rw [e, vu_ne (fun z => by have := p2 (3 + k) 0 (by omega) (by decide) z; omega), vu_ne (fun z => by have := p2 (3 + k) 1 (by omega) (by decide) z; omega)]
  exact h4 k hk
end GPX
set_option maxRecDepth 100000 in
set_option maxHeartbeats 4000000 in
theorem lc_43 (l : Launch) (D : va_G) (kA : Nat → ClassId) (Hs : Heap) (σ : SG) (hnt : l.stackTraces = false) {Pp : Program} {Ee : Env} {Ss : State} {Mm : MethodId} {Ar : Array Value} {Bl : List Frame} {Me : Method} {Cc : Code} {Q : State → Prop} (Z : Ys Pp Ss Mm Ar Me Cc cL_law 9 (some .boolean) "MetroFaresLaw" D kA (AA Hs nof) Hs σ) (sa N : Nat) (f : Nat → Int32) (hsa : va_X sa N f Ss Ss.heap ∧ sa < Ss.heap.size ∧ ¬ AA Hs nof sa) (hN : N ≤ 1536) (a j : Nat) (hj : 3 * j + 3 ≤ N) (H : Heap) (hI : Inv D kA Hs a H (61 * j)) (kk : ∀ H1, Inv D kA Hs a H1 (61 * (j + 1)) → V Pp l Ee (rmO 2048 94400 603072 7194730) Ss Mm Ar Bl Me Cc 9 (AA Hs nof) Q H1 (400 + 200 * (j + 1)) (6000 + 400 * (j + 1)) 2781 [(5, .int (nI (3 * j))), (4, .ref (a + 338)), (3, .ref (a + 337)), (2, .ref (a + 329)), (1, .ref a), (0, .ref sa)] []) : V Pp l Ee (rmO 2048 94400 603072 7194730) Ss Mm Ar Bl Me Cc 9 (AA Hs nof) Q H (400 + 200 * (j)) (6000 + 400 * (j)) 2365 [(5, .int (nI (3 * j))), (4, .ref (a + 338)), (3, .ref (a + 337)), (2, .ref (a + 329)), (1, .ref a), (0, .ref sa)] [] := by
  obtain ⟨W, π, ES, u, hs, ep, fc, no, go, vs, cs, ns, gs, F, s, b, v, p, uu, tt, cc, n, t, hC, hG⟩ := hI
  have Y := Z.1
  have hS := hG.1.1.1
  have hM9 := hG.1.1
  have hjq : j ≤ 512 := by omega
  have hu8 := hC.1.2.2.2.2.2.2.2.1
  obtain ⟨w1, ho1⟩ := hC.2.2.1
  obtain ⟨x, hx⟩ : ∃ x, f (3 * j + 1) = x := ⟨_, rfl⟩
  obtain ⟨y, hy⟩ : ∃ y, f (3 * j + 2) = y := ⟨_, rfl⟩
  refine V_aload_n Y.1 4 dL_law_2365 (rfl : _ = 2366) rfl rfl ?_
  refine V_aload_n Y.1 5 dL_law_2366 (rfl : _ = 2367) rfl rfl ?_
  refine V_iload Y.1 0 dL_law_2367 (rfl : _ = 2369) rfl ?_
  refine V_iconst Y.1 (v := 1) dL_law_2369 (rfl : _ = 2370) (by decide) ?_
  refine V_iadd Y.1 dL_law_2370 (rfl : _ = 2371) ?_
  refine V_nm (v := nI (3 * j + 1)) (nI_add _ 1) ?_
  refine V_sld Y.1 (v := x) hsa (vp_in_nI (by omega) (by omega)) (by rw [nI_clamp (by omega)]; exact hx) dL_law_2371 (rfl : _ = 2372) ?_
  refine V_aload_n Y.1 2 dL_law_2372 (rfl : _ = 2373) rfl rfl ?_
  refine V_cI Y (sW Z (c_L_renderCard l D kA Hs σ _ hC.2.2.2.2.1 a W π ES u hs ep fc no go vs cs ns gs x (a + 337) w1 hC.1 hnt hM9.hcb hM9.hjt3 hC.2.2.2.2.2.1 ho1 (by omega) (by have := hC.2.2.2.2.2.2.2; omega) (by have := hC.2.2.2.2.2.1; omega)) mh_L_renderCard si_L_305 rfl rfl (Nat.le_of_ble_eq_true rfl) ⟨Nat.le_of_ble_eq_true rfl, Nat.le_of_ble_eq_true rfl⟩ (by show _ ≤ 603072; omega) (by show _ ≤ 7194730; omega) dL_law_2373) (fun q z => Or.inr (by have h9 := hC.2.2.2.2.2.1; rcases z with (z | z) | z <;> (have z : q = _ := z; omega))) (rfl : _ = 2376) (fun v_2373 H2373_8 hq_2373 o_2373 => ?_)
  rcases hq_2373 with ⟨hk9, r9, H9, w9, hP9, hst9, ho9, hw9⟩ | ⟨E9, hX9, hk9, ho9⟩
  · have hk8 := hk9.symm
    subst hk8
    obtain ⟨hr9, hc9, hF9⟩ := hP9
    obtain ⟨i9, hi9, h8, rfl, -, -, -, ei9⟩ := hS.ci hc9
    rw [ei9, card9_eq hS hi9] at hr9 hF9
    have hF8 := hF9.kept (hst9.off (F := fun q => q = a + 337) rfl) (fun q z e => by have e : q = a + 337 := e; have := z.2; omega) (fun e => by have e : vs = a + 337 := e; have := hC.2.2.2.2.2.2.2; omega) (fun q z e => by have e : q = a + 337 := e; have := hC.2.2.2.2.2.2.1 q z; omega)
    have hl9 := hF8.2.2.1.2.2.2.1
    have hC := hC.cls o_2373 (fun q z => z.elim (fun z => Or.inl (z.elim (fun e => e ▸ ⟨by omega, by omega⟩) (fun e => e ▸ ⟨by omega, by omega⟩))) (fun e => Or.inr (Or.inr e))) hF8 ⟨_, ho9⟩ hC.2.2.2.2.2.2.1 hC.2.2.2.2.2.2.2
    refine V_istore Y.1 (ls' := [(6, _), (5, _), (4, _), (3, _), (2, _), (1, _), (0, _)]) dL_law_2376 (rfl : _ = 2378) (by decide) rfl ?_
    refine V_aload_n Y.1 4 dL_law_2378 (rfl : _ = 2379) rfl rfl ?_
    refine V_aload_n Y.1 6 dL_law_2379 (rfl : _ = 2380) rfl rfl ?_
    refine V_iload Y.1 1 dL_law_2380 (rfl : _ = 2382) rfl ?_
    refine V_iconst Y.1 (v := 1) dL_law_2382 (rfl : _ = 2383) (by decide) ?_
    refine V_iadd Y.1 dL_law_2383 (rfl : _ = 2384) ?_
    refine V_nm (v := nI (3 * j + 1)) (nI_add _ 1) ?_
    refine V_sld Y.1 (v := (nI i9)) hsa (vp_in_nI (by omega) (by omega)) (by rw [nI_clamp (by omega)]; exact hx) dL_law_2384 (rfl : _ = 2385) ?_
    refine V_cI Y (rV Y (c_X6_renderCard_y l D kA _ (a + 329) F s b v p uu tt cc n t i9 hi9 hC.2.1 hS.1 hM9.hcb2 (fun z => hc9 ((hS.bc _).mpr z))) mi_X6_renderCard vi_L_307 rfl hC.2.1.1 rfl rfl (Nat.le_of_ble_eq_true rfl) ⟨Nat.le_of_ble_eq_true rfl, Nat.le_of_ble_eq_true rfl⟩ (by show _ ≤ 603072; omega) (by show _ ≤ 7194730; omega) dL_law_2385) (fun q z => Or.inr (by have z := z.1; have := hC.2.2.2.2.2.1; omega)) (rfl : _ = 2388) (fun v_2385 H2385_16 hq_2385 o_2385 => ?_)
    obtain ⟨hb2, hR2⟩ := hq_2385
    have hb3 := hr9.trans hb2.symm
    subst hb3
    have ho9 := ho9.off o_2385 (fun e => by have := e.2; omega)
    have hC := hC.mod o_2385 hR2
    refine V_istore Y.1 (ls' := [(7, _), (6, _), (5, _), (4, _), (3, _), (2, _), (1, _), (0, _)]) dL_law_2388 (rfl : _ = 2390) (by decide) rfl ?_
    refine V_aload_n Y.1 5 dL_law_2390 (rfl : _ = 2391) rfl rfl ?_
    refine V_cP Y (rV Y (c_X6_thrown l D kA _ (a + 329) _ _ _ _ _ _ _ _ hC.2.1) mi_X6_thrown vi_L_159 rfl hC.2.1.1 rfl rfl (Nat.le_of_ble_eq_true rfl) ⟨Nat.le_of_ble_eq_true rfl, Nat.le_of_ble_eq_true rfl⟩ (by show _ ≤ 603072; omega) (by show _ ≤ 7194730; omega) dL_law_2391) (rfl : _ = 2394) ?_
    refine V_iload Y.1 1 dL_law_2394 (rfl : _ = 2396) rfl ?_
    refine V_icmp_eq Y.1 (tgt := 2401) dL_law_2396 (by decide) (rfl : _ = 2399) (fun _ => ?_) (fun c_n => absurd (by rw [pk_un (by decide), pk_us]) c_n)
    refine V_iload Y.1 1 dL_law_2401 (rfl : _ = 2403) rfl ?_
    refine V_if_ne Y.1 (tgt := 2418) dL_law_2403 (by decide) (rfl : _ = 2406) (fun c_n => absurd rfl c_n) (fun _ => ?_)
    refine V_aload_n Y.1 4 dL_law_2406 (rfl : _ = 2407) rfl rfl ?_
    refine V_iconst Y.1 (v := 0) dL_law_2407 (rfl : _ = 2408) (by decide) ?_
    refine V_lald Y.1 (v := r9.toInt64) ho9 (show ¬ ((0 : Int32) < 0 ∨ 1 ≤ (0 : Int32).toNatClampNeg) by decide) hw9 dL_law_2408 (rfl : _ = 2409) ?_
    refine V_iload Y.1 0 dL_law_2409 (rfl : _ = 2411) rfl ?_
    refine V_i2l Y.1 dL_law_2411 (rfl : _ = 2412) rfl ?_
    refine V_lcmp Y.1 dL_law_2412 (rfl : _ = 2413) ?_
    refine V_if_eq Y.1 (tgt := 2418) dL_law_2413 (by decide) (rfl : _ = 2416) (fun _ => ?_) (fun c_n => absurd (lg_self _) c_n)
    refine V_goto Y.1 (tgt := 2781) dL_law_2418 (by decide) ?_
    exact V_forget (ls' := [(5, _), (4, _), (3, _), (2, _), (1, _), (0, _)]) [2, 3, 4, 5, 6, 7] rfl (V_widen (by omega) (by omega) (kk _ ⟨_, _, _, _, _, _, _, _, _, _, _, _, _, _, _, _, _, _, _, _, _, _, _, hC, (hG.outp (r_card_ch s i9) hl9).more (by omega)⟩))
  · obtain ⟨rfl, hc9, hF8⟩ := hX9
    have hk7 : v_2373 = 1 := hk9
    have hk8 := hk7.symm
    subst hk8
    have hC := hC.cls o_2373 (fun q z => z.elim (fun z => Or.inl (z.elim (fun e => e ▸ ⟨by omega, by omega⟩) (fun e => e ▸ ⟨by omega, by omega⟩))) (fun e => Or.inr (Or.inr e))) hF8 ⟨_, ho9⟩ hC.2.2.2.2.2.2.1 hC.2.2.2.2.2.2.2
    refine V_istore Y.1 (ls' := [(6, _), (5, _), (4, _), (3, _), (2, _), (1, _), (0, _)]) dL_law_2376 (rfl : _ = 2378) (by decide) rfl ?_
    refine V_aload_n Y.1 4 dL_law_2378 (rfl : _ = 2379) rfl rfl ?_
    refine V_aload_n Y.1 6 dL_law_2379 (rfl : _ = 2380) rfl rfl ?_
    refine V_iload Y.1 1 dL_law_2380 (rfl : _ = 2382) rfl ?_
    refine V_iconst Y.1 (v := 1) dL_law_2382 (rfl : _ = 2383) (by decide) ?_
    refine V_iadd Y.1 dL_law_2383 (rfl : _ = 2384) ?_
    refine V_nm (v := nI (3 * j + 1)) (nI_add _ 1) ?_
    refine V_sld Y.1 (v := x) hsa (vp_in_nI (by omega) (by omega)) (by rw [nI_clamp (by omega)]; exact hx) dL_law_2384 (rfl : _ = 2385) ?_
    refine V_cI Y (rV Y (c_X6_renderCard_n l D kA _ (a + 329) F s b v p uu tt cc n t x hC.2.1 hS.1 hM9.hcb2 ((hS.bc _).mp hc9)) mi_X6_renderCard vi_L_307 rfl hC.2.1.1 rfl rfl (Nat.le_of_ble_eq_true rfl) ⟨Nat.le_of_ble_eq_true rfl, Nat.le_of_ble_eq_true rfl⟩ (by show _ ≤ 603072; omega) (by show _ ≤ 7194730; omega) dL_law_2385) (fun q z => Or.inr (by have z := z.1; have := hC.2.2.2.2.2.1; omega)) (rfl : _ = 2388) (fun v_2385 H2385_12 hq_2385 o_2385 => ?_)
    obtain ⟨hb2, hR2⟩ := hq_2385
    have hC := hC.mod o_2385 hR2
    refine V_istore Y.1 (ls' := [(7, _), (6, _), (5, _), (4, _), (3, _), (2, _), (1, _), (0, _)]) dL_law_2388 (rfl : _ = 2390) (by decide) rfl ?_
    refine V_aload_n Y.1 5 dL_law_2390 (rfl : _ = 2391) rfl rfl ?_
    refine V_cP Y (rV Y (c_X6_thrown l D kA _ (a + 329) _ _ _ _ _ _ _ _ hC.2.1) mi_X6_thrown vi_L_159 rfl hC.2.1.1 rfl rfl (Nat.le_of_ble_eq_true rfl) ⟨Nat.le_of_ble_eq_true rfl, Nat.le_of_ble_eq_true rfl⟩ (by show _ ≤ 603072; omega) (by show _ ≤ 7194730; omega) dL_law_2391) (rfl : _ = 2394) ?_
    refine V_iload Y.1 1 dL_law_2394 (rfl : _ = 2396) rfl ?_
    refine V_icmp_eq Y.1 (tgt := 2401) dL_law_2396 (by decide) (rfl : _ = 2399) (fun _ => ?_) (fun c_n => absurd pk_us c_n)
    refine V_iload Y.1 1 dL_law_2401 (rfl : _ = 2403) rfl ?_
    refine V_if_ne Y.1 (tgt := 2418) dL_law_2403 (by decide) (rfl : _ = 2406) (fun _ => ?_) (fun c_n => absurd c_n (by decide))
    refine V_goto Y.1 (tgt := 2781) dL_law_2418 (by decide) ?_
    exact V_forget (ls' := [(5, _), (4, _), (3, _), (2, _), (1, _), (0, _)]) [2, 3, 4, 5, 6, 7] rfl (V_widen (by omega) (by omega) (kk _ ⟨_, _, _, _, _, _, _, _, _, _, _, _, _, _, _, _, _, _, _, _, _, _, _, hC, (hG.f6 _).more (by omega)⟩))

set_option maxRecDepth 100000 in
set_option maxHeartbeats 4000000 in
theorem lc_44 (l : Launch) (D : va_G) (kA : Nat → ClassId) (Hs : Heap) (σ : SG) (hnt : l.stackTraces = false) {Pp : Program} {Ee : Env} {Ss : State} {Mm : MethodId} {Ar : Array Value} {Bl : List Frame} {Me : Method} {Cc : Code} {Q : State → Prop} (Z : Ys Pp Ss Mm Ar Me Cc cL_law 9 (some .boolean) "MetroFaresLaw" D kA (AA Hs nof) Hs σ) (sa N : Nat) (f : Nat → Int32) (hsa : va_X sa N f Ss Ss.heap ∧ sa < Ss.heap.size ∧ ¬ AA Hs nof sa) (hN : N ≤ 1536) (a j : Nat) (hj : 3 * j + 3 ≤ N) (H : Heap) (hI : Inv D kA Hs a H (61 * j)) (kk : ∀ H1, Inv D kA Hs a H1 (61 * (j + 1)) → V Pp l Ee (rmO 2048 94400 603072 7194730) Ss Mm Ar Bl Me Cc 9 (AA Hs nof) Q H1 (400 + 200 * (j + 1)) (6000 + 400 * (j + 1)) 2781 [(5, .int (nI (3 * j))), (4, .ref (a + 338)), (3, .ref (a + 337)), (2, .ref (a + 329)), (1, .ref a), (0, .ref sa)] []) : V Pp l Ee (rmO 2048 94400 603072 7194730) Ss Mm Ar Bl Me Cc 9 (AA Hs nof) Q H (400 + 200 * (j)) (6000 + 400 * (j)) 2421 [(5, .int (nI (3 * j))), (4, .ref (a + 338)), (3, .ref (a + 337)), (2, .ref (a + 329)), (1, .ref a), (0, .ref sa)] [] := by
  obtain ⟨W, π, ES, u, hs, ep, fc, no, go, vs, cs, ns, gs, F, s, b, v, p, uu, tt, cc, n, t, hC, hG⟩ := hI
  have Y := Z.1
  have hS := hG.1.1.1
  have hM9 := hG.1.1
  have hjq : j ≤ 512 := by omega
  have hu8 := hC.1.2.2.2.2.2.2.2.1
  obtain ⟨w1, ho1⟩ := hC.2.2.1
  obtain ⟨x, hx⟩ : ∃ x, f (3 * j + 1) = x := ⟨_, rfl⟩
  obtain ⟨y, hy⟩ : ∃ y, f (3 * j + 2) = y := ⟨_, rfl⟩
  refine V_aload_n Y.1 4 dL_law_2421 (rfl : _ = 2422) rfl rfl ?_
  refine V_cI Y (sV Z (c_X5_renderZones l D kA Hs σ _ hC.2.2.2.2.1 a W π ES u hs ep fc no go vs cs ns gs hC.1 hnt hM9.hz9 hC.2.2.2.2.2.1) mi_X5_renderZones vi_L_308 rfl hC.1.1.1 rfl rfl (Nat.le_of_ble_eq_true rfl) ⟨Nat.le_of_ble_eq_true rfl, Nat.le_of_ble_eq_true rfl⟩ (by show _ ≤ 603072; omega) (by show _ ≤ 7194730; omega) dL_law_2422) (fun q z => Or.inr (by have h9 := hC.2.2.2.2.2.1; rcases z with z | z <;> omega)) (rfl : _ = 2425) (fun v_2422 H2422_1 hq_2422 o_2422 => ?_)
  obtain ⟨hr9, hF8⟩ := hq_2422
  rw [zl_eq hS 12 (Nat.le_refl _)] at hF8
  subst hr9
  have ho9 := ho1.off o_2422 (fun e => e.elim (fun e => by omega) (fun e => by omega))
  have hC := hC.cls o_2422 (fun q z => Or.inl (z.elim (fun e => e ▸ ⟨by omega, by omega⟩) (fun e => e ▸ ⟨by omega, by omega⟩))) hF8 ⟨_, ho9⟩ hC.2.2.2.2.2.2.1 hC.2.2.2.2.2.2.2
  refine V_aload_n Y.1 3 dL_law_2425 (rfl : _ = 2426) rfl rfl ?_
  refine V_cI Y (rV Y (c_X6_renderZones l D kA _ (a + 329) F s b v p uu tt cc hC.2.1 (fun j9 h9 => by obtain ⟨w9, q1, q2⟩ := hM9.hz9 j9 h9; exact ⟨w9, q1, (hS.2.2.2.1 j9 h9).1.symm.trans q2⟩)) mi_X6_renderZones vi_L_311 rfl hC.2.1.1 rfl rfl (Nat.le_of_ble_eq_true rfl) ⟨Nat.le_of_ble_eq_true rfl, Nat.le_of_ble_eq_true rfl⟩ (by show _ ≤ 603072; omega) (by show _ ≤ 7194730; omega) dL_law_2426) (fun q z => Or.inr (by have z := z.1; have := hC.2.2.2.2.2.1; omega)) (rfl : _ = 2429) (fun v_2426 H2426_8 hq_2426 o_2426 => ?_)
  obtain ⟨hb2, hR2⟩ := hq_2426
  have hC := hC.mod o_2426 hR2
  refine V_icmp_eq Y.1 (tgt := 2781) dL_law_2429 (by decide) (rfl : _ = 2432) (fun _ => ?_) (fun c_n => absurd (hb2.symm : nI 12 = v_2426) c_n)
  exact V_forget (ls' := [(5, _), (4, _), (3, _), (2, _), (1, _), (0, _)]) [0, 1, 2, 3, 4, 5] rfl (V_widen (by omega) (by omega) (kk _ ⟨_, _, _, _, _, _, _, _, _, _, _, _, _, _, _, _, _, _, _, _, _, _, _, hC, (hG.outz hS).more (by omega)⟩))

set_option maxRecDepth 100000 in
set_option maxHeartbeats 4000000 in
theorem lc_46 (l : Launch) (D : va_G) (kA : Nat → ClassId) (Hs : Heap) (σ : SG) (hnt : l.stackTraces = false) {Pp : Program} {Ee : Env} {Ss : State} {Mm : MethodId} {Ar : Array Value} {Bl : List Frame} {Me : Method} {Cc : Code} {Q : State → Prop} (Z : Ys Pp Ss Mm Ar Me Cc cL_law 9 (some .boolean) "MetroFaresLaw" D kA (AA Hs nof) Hs σ) (sa N : Nat) (f : Nat → Int32) (hsa : va_X sa N f Ss Ss.heap ∧ sa < Ss.heap.size ∧ ¬ AA Hs nof sa) (hN : N ≤ 1536) (a j : Nat) (hj : 3 * j + 3 ≤ N) (H : Heap) (hI : Inv D kA Hs a H (61 * j)) (kk : ∀ H1, Inv D kA Hs a H1 (61 * (j + 1)) → V Pp l Ee (rmO 2048 94400 603072 7194730) Ss Mm Ar Bl Me Cc 9 (AA Hs nof) Q H1 (400 + 200 * (j + 1)) (6000 + 400 * (j + 1)) 2781 [(5, .int (nI (3 * j))), (4, .ref (a + 338)), (3, .ref (a + 337)), (2, .ref (a + 329)), (1, .ref a), (0, .ref sa)] []) : V Pp l Ee (rmO 2048 94400 603072 7194730) Ss Mm Ar Bl Me Cc 9 (AA Hs nof) Q H (400 + 200 * (j)) (6000 + 400 * (j)) 2490 [(5, .int (nI (3 * j))), (4, .ref (a + 338)), (3, .ref (a + 337)), (2, .ref (a + 329)), (1, .ref a), (0, .ref sa)] [] := by
  obtain ⟨W, π, ES, u, hs, ep, fc, no, go, vs, cs, ns, gs, F, s, b, v, p, uu, tt, cc, n, t, hC, hG⟩ := hI
  have Y := Z.1
  have hS := hG.1.1.1
  have hM9 := hG.1.1
  have hjq : j ≤ 512 := by omega
  have hu8 := hC.1.2.2.2.2.2.2.2.1
  obtain ⟨w1, ho1⟩ := hC.2.2.1
  obtain ⟨x, hx⟩ : ∃ x, f (3 * j + 1) = x := ⟨_, rfl⟩
  obtain ⟨y, hy⟩ : ∃ y, f (3 * j + 2) = y := ⟨_, rfl⟩
  obtain ⟨c9, hcl9, hc9⟩ := i2c_nat x
  refine V_aload_n Y.1 4 dL_law_2490 (rfl : _ = 2491) rfl rfl ?_
  refine V_aload_n Y.1 5 dL_law_2491 (rfl : _ = 2492) rfl rfl ?_
  refine V_iload Y.1 0 dL_law_2492 (rfl : _ = 2494) rfl ?_
  refine V_iconst Y.1 (v := 1) dL_law_2494 (rfl : _ = 2495) (by decide) ?_
  refine V_iadd Y.1 dL_law_2495 (rfl : _ = 2496) ?_
  refine V_nm (v := nI (3 * j + 1)) (nI_add _ 1) ?_
  refine V_sld Y.1 (v := x) hsa (vp_in_nI (by omega) (by omega)) (by rw [nI_clamp (by omega)]; exact hx) dL_law_2496 (rfl : _ = 2497) ?_
  refine V_i2c Y.1 (v := nI c9) dL_law_2497 (rfl : _ = 2498) hc9 ?_
  refine V_aload_n Y.1 2 dL_law_2498 (rfl : _ = 2499) rfl rfl ?_
  refine V_cI Y (sW Z (c_L_type l D kA Hs σ _ hC.2.2.2.2.1 a W π ES u hs ep fc no go vs cs ns gs c9 hcl9 (a + 337) w1 hC.1 hnt hC.2.2.2.2.2.1 ho1 (by omega) (by have := hC.2.2.2.2.2.2.2; omega) (by have := hC.2.2.2.2.2.1; omega)) mh_L_type si_L_315 rfl rfl (Nat.le_of_ble_eq_true rfl) ⟨Nat.le_of_ble_eq_true rfl, Nat.le_of_ble_eq_true rfl⟩ (by show _ ≤ 603072; omega) (by show _ ≤ 7194730; omega) dL_law_2499) (fun q z => Or.inr (by have h9 := hC.2.2.2.2.2.1; have h8 := hC.2.2.2.2.2.2.2; rcases z with (z | z) | z <;> (have z : q = _ := z; omega))) (rfl : _ = 2502) (fun v_2499 H2499_9 hq_2499 o_2499 => ?_)
  rcases hq_2499 with ⟨hk9, r9, H9, w9, hP9, hst9, ho9, hw9⟩ | ⟨E9, hX9, hk9, ho9⟩
  · have hk8 := hk9.symm
    subst hk8
    obtain ⟨h32, h126, h60, hr9, vs9, cs9, g9, hvs9, hF9, hg1, hg2⟩ := hP9
    have hF8 := hF9.kept (hst9.off (F := fun q => q = a + 337) rfl) (fun q z e => by have e : q = a + 337 := e; have := z.2; omega) (fun e => by have e : vs9 = a + 337 := e; have := hC.2.2.2.2.2.2.2; have := hC.size; omega) (fun q z e => by have e : q = a + 337 := e; have := hC.2.2.2.2.2.2.1 q z; omega)
    have hC := hC.cls o_2499 (fun q z => z.elim (fun z => z.elim (fun e => Or.inl (e ▸ ⟨by omega, by omega⟩)) (fun e => Or.inr (Or.inl e))) (fun e => Or.inr (Or.inr e))) hF8 ⟨_, ho9⟩ hC.2.2.2.2.2.2.1 (by have := hC.2.2.2.2.2.2.2; have := hC.size; omega)
    refine V_istore Y.1 (ls' := [(6, _), (5, _), (4, _), (3, _), (2, _), (1, _), (0, _)]) dL_law_2502 (rfl : _ = 2504) (by decide) rfl ?_
    refine V_aload_n Y.1 4 dL_law_2504 (rfl : _ = 2505) rfl rfl ?_
    refine V_aload_n Y.1 6 dL_law_2505 (rfl : _ = 2506) rfl rfl ?_
    refine V_iload Y.1 1 dL_law_2506 (rfl : _ = 2508) rfl ?_
    refine V_iconst Y.1 (v := 1) dL_law_2508 (rfl : _ = 2509) (by decide) ?_
    refine V_iadd Y.1 dL_law_2509 (rfl : _ = 2510) ?_
    refine V_nm (v := nI (3 * j + 1)) (nI_add _ 1) ?_
    refine V_sld Y.1 (v := x) hsa (vp_in_nI (by omega) (by omega)) (by rw [nI_clamp (by omega)]; exact hx) dL_law_2510 (rfl : _ = 2511) ?_
    refine V_i2c Y.1 (v := nI c9) dL_law_2511 (rfl : _ = 2512) hc9 ?_
    refine V_cI Y (rV Y (c_X6_type_y l D kA _ (a + 329) F s b v p uu tt cc (nI c9) ns hG.2.1.2.2.2.1 hG.2.2.2.2.2.1.1 (nar16 hcl9) hC.2.1 (g_type_0 h32 h126 h60)) mi_X6_type vi_L_318 rfl hC.2.1.1 rfl rfl (Nat.le_of_ble_eq_true rfl) ⟨Nat.le_of_ble_eq_true rfl, Nat.le_of_ble_eq_true rfl⟩ (by show _ ≤ 603072; omega) (by show _ ≤ 7194730; omega) dL_law_2512) (fun q z => Or.inr (by have z := z.1; have := hC.2.2.2.2.2.1; omega)) (rfl : _ = 2515) (fun v_2512 H2512_14 hq_2512 o_2512 => ?_)
    obtain ⟨hb2, hR2⟩ := hq_2512
    have hb3 := hr9.trans hb2.symm
    subst hb3
    have ho9 := ho9.off o_2512 (fun e => by have := e.2; omega)
    have hC := hC.mod o_2512 hR2
    refine V_istore Y.1 (ls' := [(7, _), (6, _), (5, _), (4, _), (3, _), (2, _), (1, _), (0, _)]) dL_law_2515 (rfl : _ = 2517) (by decide) rfl ?_
    refine V_aload_n Y.1 5 dL_law_2517 (rfl : _ = 2518) rfl rfl ?_
    refine V_cP Y (rV Y (c_X6_thrown l D kA _ (a + 329) _ _ _ _ _ _ _ _ hC.2.1) mi_X6_thrown vi_L_159 rfl hC.2.1.1 rfl rfl (Nat.le_of_ble_eq_true rfl) ⟨Nat.le_of_ble_eq_true rfl, Nat.le_of_ble_eq_true rfl⟩ (by show _ ≤ 603072; omega) (by show _ ≤ 7194730; omega) dL_law_2518) (rfl : _ = 2521) ?_
    refine V_iload Y.1 1 dL_law_2521 (rfl : _ = 2523) rfl ?_
    refine V_icmp_eq Y.1 (tgt := 2528) dL_law_2523 (by decide) (rfl : _ = 2526) (fun _ => ?_) (fun c_n => absurd (by rw [pk_un (by decide), pk_us]) c_n)
    refine V_iload Y.1 1 dL_law_2528 (rfl : _ = 2530) rfl ?_
    refine V_if_ne Y.1 (tgt := 2545) dL_law_2530 (by decide) (rfl : _ = 2533) (fun c_n => absurd rfl c_n) (fun _ => ?_)
    refine V_aload_n Y.1 4 dL_law_2533 (rfl : _ = 2534) rfl rfl ?_
    refine V_iconst Y.1 (v := 0) dL_law_2534 (rfl : _ = 2535) (by decide) ?_
    refine V_lald Y.1 (v := r9.toInt64) ho9 (show ¬ ((0 : Int32) < 0 ∨ 1 ≤ (0 : Int32).toNatClampNeg) by decide) hw9 dL_law_2535 (rfl : _ = 2536) ?_
    refine V_iload Y.1 0 dL_law_2536 (rfl : _ = 2538) rfl ?_
    refine V_i2l Y.1 dL_law_2538 (rfl : _ = 2539) rfl ?_
    refine V_lcmp Y.1 dL_law_2539 (rfl : _ = 2540) ?_
    refine V_if_eq Y.1 (tgt := 2545) dL_law_2540 (by decide) (rfl : _ = 2543) (fun _ => ?_) (fun c_n => absurd (lg_self _) c_n)
    refine V_goto Y.1 (tgt := 2781) dL_law_2545 (by decide) ?_
    exact V_forget (ls' := [(5, _), (4, _), (3, _), (2, _), (1, _), (0, _)]) [2, 3, 4, 5, 6, 7] rfl (V_widen (by omega) (by omega) (kk _ ⟨_, _, _, _, _, _, _, _, _, _, _, _, _, _, _, _, _, _, _, _, _, _, _, hC, (hG.typ h60 h126 hg1 hg2).more (by omega)⟩))
  · rcases hX9 with ⟨⟨rfl, hc8⟩ | ⟨rfl, h32, h126, h60⟩, hF8⟩
    · have hk7 : v_2499 = 1 := hk9.trans (by decide)
      have hk8 := hk7.symm
      subst hk8
      have hC := hC.cls o_2499 (fun q z => z.elim (fun z => z.elim (fun e => Or.inl (e ▸ ⟨by omega, by omega⟩)) (fun e => Or.inr (Or.inl e))) (fun e => Or.inr (Or.inr e))) hF8 ⟨_, ho9⟩ hC.2.2.2.2.2.2.1 hC.2.2.2.2.2.2.2
      refine V_istore Y.1 (ls' := [(6, _), (5, _), (4, _), (3, _), (2, _), (1, _), (0, _)]) dL_law_2502 (rfl : _ = 2504) (by decide) rfl ?_
      refine V_aload_n Y.1 4 dL_law_2504 (rfl : _ = 2505) rfl rfl ?_
      refine V_aload_n Y.1 6 dL_law_2505 (rfl : _ = 2506) rfl rfl ?_
      refine V_iload Y.1 1 dL_law_2506 (rfl : _ = 2508) rfl ?_
      refine V_iconst Y.1 (v := 1) dL_law_2508 (rfl : _ = 2509) (by decide) ?_
      refine V_iadd Y.1 dL_law_2509 (rfl : _ = 2510) ?_
      refine V_nm (v := nI (3 * j + 1)) (nI_add _ 1) ?_
      refine V_sld Y.1 (v := x) hsa (vp_in_nI (by omega) (by omega)) (by rw [nI_clamp (by omega)]; exact hx) dL_law_2510 (rfl : _ = 2511) ?_
      refine V_i2c Y.1 (v := nI c9) dL_law_2511 (rfl : _ = 2512) hc9 ?_
      refine V_cI Y (rV Y (c_X6_type_n l D kA _ (a + 329) F s b v p uu tt cc (nI c9) ns hG.2.1.2.2.2.1 hG.2.2.2.2.2.1.1 (nar16 hcl9) hC.2.1 (by rw [g_type_1 hcl9 hc8]; decide)) mi_X6_type vi_L_318 rfl hC.2.1.1 rfl rfl (Nat.le_of_ble_eq_true rfl) ⟨Nat.le_of_ble_eq_true rfl, Nat.le_of_ble_eq_true rfl⟩ (by show _ ≤ 603072; omega) (by show _ ≤ 7194730; omega) dL_law_2512) (fun q z => Or.inr (by have z := z.1; have := hC.2.2.2.2.2.1; omega)) (rfl : _ = 2515) (fun v_2512 H2512_13 hq_2512 o_2512 => ?_)
      obtain ⟨hb2, hR2⟩ := hq_2512
      rw [g_type_1 hcl9 hc8] at hR2
      have hC := hC.mod o_2512 hR2
      refine V_istore Y.1 (ls' := [(7, _), (6, _), (5, _), (4, _), (3, _), (2, _), (1, _), (0, _)]) dL_law_2515 (rfl : _ = 2517) (by decide) rfl ?_
      refine V_aload_n Y.1 5 dL_law_2517 (rfl : _ = 2518) rfl rfl ?_
      refine V_cP Y (rV Y (c_X6_thrown l D kA _ (a + 329) _ _ _ _ _ _ _ _ hC.2.1) mi_X6_thrown vi_L_159 rfl hC.2.1.1 rfl rfl (Nat.le_of_ble_eq_true rfl) ⟨Nat.le_of_ble_eq_true rfl, Nat.le_of_ble_eq_true rfl⟩ (by show _ ≤ 603072; omega) (by show _ ≤ 7194730; omega) dL_law_2518) (rfl : _ = 2521) ?_
      refine V_iload Y.1 1 dL_law_2521 (rfl : _ = 2523) rfl ?_
      refine V_icmp_eq Y.1 (tgt := 2528) dL_law_2523 (by decide) (rfl : _ = 2526) (fun _ => ?_) (fun c_n => absurd pk_us c_n)
      refine V_iload Y.1 1 dL_law_2528 (rfl : _ = 2530) rfl ?_
      refine V_if_ne Y.1 (tgt := 2545) dL_law_2530 (by decide) (rfl : _ = 2533) (fun _ => ?_) (fun c_n => absurd c_n (by decide))
      refine V_goto Y.1 (tgt := 2781) dL_law_2545 (by decide) ?_
      exact V_forget (ls' := [(5, _), (4, _), (3, _), (2, _), (1, _), (0, _)]) [2, 3, 4, 5, 6, 7] rfl (V_widen (by omega) (by omega) (kk _ ⟨_, _, _, _, _, _, _, _, _, _, _, _, _, _, _, _, _, _, _, _, _, _, _, hC, (hG.f6 _).more (by omega)⟩))
    · have hk7 : v_2499 = 2 := hk9.trans (by decide)
      have hk8 := hk7.symm
      subst hk8
      have hC := hC.cls o_2499 (fun q z => z.elim (fun z => z.elim (fun e => Or.inl (e ▸ ⟨by omega, by omega⟩)) (fun e => Or.inr (Or.inl e))) (fun e => Or.inr (Or.inr e))) hF8 ⟨_, ho9⟩ hC.2.2.2.2.2.2.1 hC.2.2.2.2.2.2.2
      refine V_istore Y.1 (ls' := [(6, _), (5, _), (4, _), (3, _), (2, _), (1, _), (0, _)]) dL_law_2502 (rfl : _ = 2504) (by decide) rfl ?_
      refine V_aload_n Y.1 4 dL_law_2504 (rfl : _ = 2505) rfl rfl ?_
      refine V_aload_n Y.1 6 dL_law_2505 (rfl : _ = 2506) rfl rfl ?_
      refine V_iload Y.1 1 dL_law_2506 (rfl : _ = 2508) rfl ?_
      refine V_iconst Y.1 (v := 1) dL_law_2508 (rfl : _ = 2509) (by decide) ?_
      refine V_iadd Y.1 dL_law_2509 (rfl : _ = 2510) ?_
      refine V_nm (v := nI (3 * j + 1)) (nI_add _ 1) ?_
      refine V_sld Y.1 (v := x) hsa (vp_in_nI (by omega) (by omega)) (by rw [nI_clamp (by omega)]; exact hx) dL_law_2510 (rfl : _ = 2511) ?_
      refine V_i2c Y.1 (v := nI c9) dL_law_2511 (rfl : _ = 2512) hc9 ?_
      refine V_cI Y (rV Y (c_X6_type_n l D kA _ (a + 329) F s b v p uu tt cc (nI c9) ns hG.2.1.2.2.2.1 hG.2.2.2.2.2.1.1 (nar16 hcl9) hC.2.1 (by rw [g_type_2 h32 h126 h60 hG.2.2.2.2.2.1.1]; decide)) mi_X6_type vi_L_318 rfl hC.2.1.1 rfl rfl (Nat.le_of_ble_eq_true rfl) ⟨Nat.le_of_ble_eq_true rfl, Nat.le_of_ble_eq_true rfl⟩ (by show _ ≤ 603072; omega) (by show _ ≤ 7194730; omega) dL_law_2512) (fun q z => Or.inr (by have z := z.1; have := hC.2.2.2.2.2.1; omega)) (rfl : _ = 2515) (fun v_2512 H2512_13 hq_2512 o_2512 => ?_)
      obtain ⟨hb2, hR2⟩ := hq_2512
      rw [g_type_2 h32 h126 h60 hG.2.2.2.2.2.1.1] at hR2
      have hC := hC.mod o_2512 hR2
      refine V_istore Y.1 (ls' := [(7, _), (6, _), (5, _), (4, _), (3, _), (2, _), (1, _), (0, _)]) dL_law_2515 (rfl : _ = 2517) (by decide) rfl ?_
      refine V_aload_n Y.1 5 dL_law_2517 (rfl : _ = 2518) rfl rfl ?_
      refine V_cP Y (rV Y (c_X6_thrown l D kA _ (a + 329) _ _ _ _ _ _ _ _ hC.2.1) mi_X6_thrown vi_L_159 rfl hC.2.1.1 rfl rfl (Nat.le_of_ble_eq_true rfl) ⟨Nat.le_of_ble_eq_true rfl, Nat.le_of_ble_eq_true rfl⟩ (by show _ ≤ 603072; omega) (by show _ ≤ 7194730; omega) dL_law_2518) (rfl : _ = 2521) ?_
      refine V_iload Y.1 1 dL_law_2521 (rfl : _ = 2523) rfl ?_
      refine V_icmp_eq Y.1 (tgt := 2528) dL_law_2523 (by decide) (rfl : _ = 2526) (fun _ => ?_) (fun c_n => absurd pk_us c_n)
      refine V_iload Y.1 1 dL_law_2528 (rfl : _ = 2530) rfl ?_
      refine V_if_ne Y.1 (tgt := 2545) dL_law_2530 (by decide) (rfl : _ = 2533) (fun _ => ?_) (fun c_n => absurd c_n (by decide))
      refine V_goto Y.1 (tgt := 2781) dL_law_2545 (by decide) ?_
      exact V_forget (ls' := [(5, _), (4, _), (3, _), (2, _), (1, _), (0, _)]) [2, 3, 4, 5, 6, 7] rfl (V_widen (by omega) (by omega) (kk _ ⟨_, _, _, _, _, _, _, _, _, _, _, _, _, _, _, _, _, _, _, _, _, _, _, hC, (hG.f6 _).more (by omega)⟩))

set_option maxRecDepth 100000 in
set_option maxHeartbeats 4000000 in
theorem lc_47 (l : Launch) (D : va_G) (kA : Nat → ClassId) (Hs : Heap) (σ : SG) (hnt : l.stackTraces = false) {Pp : Program} {Ee : Env} {Ss : State} {Mm : MethodId} {Ar : Array Value} {Bl : List Frame} {Me : Method} {Cc : Code} {Q : State → Prop} (Z : Ys Pp Ss Mm Ar Me Cc cL_law 9 (some .boolean) "MetroFaresLaw" D kA (AA Hs nof) Hs σ) (sa N : Nat) (f : Nat → Int32) (hsa : va_X sa N f Ss Ss.heap ∧ sa < Ss.heap.size ∧ ¬ AA Hs nof sa) (hN : N ≤ 1536) (a j : Nat) (hj : 3 * j + 3 ≤ N) (H : Heap) (hI : Inv D kA Hs a H (61 * j)) (kk : ∀ H1, Inv D kA Hs a H1 (61 * (j + 1)) → V Pp l Ee (rmO 2048 94400 603072 7194730) Ss Mm Ar Bl Me Cc 9 (AA Hs nof) Q H1 (400 + 200 * (j + 1)) (6000 + 400 * (j + 1)) 2781 [(5, .int (nI (3 * j))), (4, .ref (a + 338)), (3, .ref (a + 337)), (2, .ref (a + 329)), (1, .ref a), (0, .ref sa)] []) : V Pp l Ee (rmO 2048 94400 603072 7194730) Ss Mm Ar Bl Me Cc 9 (AA Hs nof) Q H (400 + 200 * (j)) (6000 + 400 * (j)) 2548 [(5, .int (nI (3 * j))), (4, .ref (a + 338)), (3, .ref (a + 337)), (2, .ref (a + 329)), (1, .ref a), (0, .ref sa)] [] := by
  obtain ⟨W, π, ES, u, hs, ep, fc, no, go, vs, cs, ns, gs, F, s, b, v, p, uu, tt, cc, n, t, hC, hG⟩ := hI
  have Y := Z.1
  have hS := hG.1.1.1
  have hM9 := hG.1.1
  have hjq : j ≤ 512 := by omega
  have hu8 := hC.1.2.2.2.2.2.2.2.1
  obtain ⟨w1, ho1⟩ := hC.2.2.1
  obtain ⟨x, hx⟩ : ∃ x, f (3 * j + 1) = x := ⟨_, rfl⟩
  obtain ⟨y, hy⟩ : ∃ y, f (3 * j + 2) = y := ⟨_, rfl⟩
  have hln := hG.2.2.2.2.2.1.1
  obtain ⟨z9, hz9⟩ : ∃ z9, (q_cmds tt ns 61 (q_cmd tt ns (0, 0, 0, cc))) = z9 := ⟨_, rfl⟩
  have hok9 : okC ns z9 := by rw [← hz9]; exact okC.cmds _ _ (okC.cmd (Nat.zero_le _) (Nat.zero_le _) (fun i hi => absurd hi (Nat.not_lt_zero i)))
  have hz21 := hok9.2.1
  have hcnt : (z9.1 = 0 ∧ ns ≤ z9.2.1) → z9.2.2.1 ≤ 60 := fun z => by have := (hok9.2.2 z.1).1; omega
  obtain ⟨j9, hq8, hrun9⟩ : ∃ j9, ((z9.1 = 0 ∧ ns ≤ z9.2.1) → j9 ≤ z9.2.2.1 ∧ (∀ i, i < j9 → m_pb (W (π 0)) z9.2.2.2 i = 0) ∧ (j9 < z9.2.2.1 → ¬ m_pb (W (π 0)) z9.2.2.2 j9 = 0) ∧ ∀ i, i < j9 → ∃ n d, MI (m_st (W (π 0)) z9.2.2.2 i) n d) ∧ ((z9.1 = 0 ∧ ns ≤ z9.2.1) → (j9 < z9.2.2.1 ∧ (q_run z9.2.2.2 z9.2.2.1 0 s).1 = some j9) ∨ (j9 = z9.2.2.1 ∧ (q_run z9.2.2.2 z9.2.2.1 0 s).1 = none ∧ ∃ n8 t8, SQ (m_st (W (π 0)) z9.2.2.2 j9) (q_run z9.2.2.2 z9.2.2.1 0 s).2 n8 t8 (61 * j + z9.2.2.1))) := by
    by_cases hfm : (z9.1 = 0 ∧ ns ≤ z9.2.1)
    · have hcn := hcnt hfm
      obtain ⟨j9, -, j2, j3, j4⟩ := run_sim (W (π 0)) z9.2.2.2 z9.2.2.1 0 s n t (61 * j) hG.1 (by omega)
      refine ⟨j9, fun _ => ⟨by omega, fun i hi => (j3 i (Nat.zero_le _) hi).1, fun hlt => ?_, fun i hi => (j3 i (Nat.zero_le _) hi).2⟩, fun _ => ?_⟩
      · rcases j4 with ⟨-, u2, -⟩ | ⟨u1, -⟩
        · exact u2
        · omega
      · rcases j4 with ⟨u1, -, u3⟩ | ⟨u1, u2, u3⟩
        · exact Or.inl ⟨by omega, u3⟩
        · exact Or.inr ⟨by omega, u2, u3⟩
    · exact ⟨0, fun z => absurd z hfm, fun z => absurd z hfm⟩
  refine V_aload_n Y.1 4 dL_law_2548 (rfl : _ = 2549) rfl rfl ?_
  refine V_aload_n Y.1 2 dL_law_2549 (rfl : _ = 2550) rfl rfl ?_
  refine V_cI Y (sW Z (c_L_runScript l D kA Hs σ _ hC.2.2.2.2.1 a W π ES u hs ep fc no go vs cs ns gs tt cc z9 j9 n (t / 1440) (a + 337) w1 hC.1 hnt hM9.mi hC.2.2.2.2.2.1 hG.2.2.2.2.2.1.2 hln hz9 hq8 ho1 (by omega) (by have := hC.2.2.2.2.2.2.2; omega) (by have := hC.2.2.2.2.2.1; omega)) mh_L_runScript si_L_319 rfl rfl (Nat.le_of_ble_eq_true rfl) ⟨Nat.le_of_ble_eq_true rfl, Nat.le_of_ble_eq_true rfl⟩ (by show _ ≤ 603072; omega) (by show _ ≤ 7194730; omega) dL_law_2550) (fun q z => Or.inr (by have h9 := hC.2.2.2.2.2.1; rcases z with z | z; exact (by have := z.1; omega); exact (by have z : q = a + 337 := z; omega))) (rfl : _ = 2553) (fun v_2550 H2550_2 hq_2550 o_2550 => ?_)
  rcases hq_2550 with ⟨hk9, r9, H9, w9, hP9, hst9, ho9, hw9⟩ | ⟨E9, hX9, hk9, ho9⟩
  · have hk8 := hk9.symm
    subst hk8
    obtain ⟨hfm, hj9, hr9, hF9⟩ := hP9
    have hPm := hC.1.2.2.2.2.2.1
    have hF8 := hF9.kept (hst9.off (F := fun q => q = a + 337) rfl) (fun q z e => by have e : q = a + 337 := e; have := z.2; omega) (fun e => by have e : vs = a + 337 := e; have := hC.2.2.2.2.2.2.2; omega) (fun q z e => by have e : q = a + 337 := e; have := hC.gro q z; omega)
    have hC := hC.cls o_2550 (fun q z => z.elim Or.inl (fun e => Or.inr (Or.inr e))) hF8 ⟨_, ho9⟩ hC.gro hC.2.2.2.2.2.2.2
    obtain ⟨hje, hr8, n8, t8, hS8⟩ := (hrun9 hfm).resolve_left (fun z => hj9 z.1)
    have hcn := hcnt hfm
    refine V_istore Y.1 (ls' := [(6, _), (5, _), (4, _), (3, _), (2, _), (1, _), (0, _)]) dL_law_2553 (rfl : _ = 2555) (by decide) rfl ?_
    refine V_aload_n Y.1 4 dL_law_2555 (rfl : _ = 2556) rfl rfl ?_
    refine V_cI Y (sV Z (c_X6_runScript_y l D kA Hs σ _ hC.2.2.2.2.1 (a + 329) F s b v p uu tt cc ns n t u hC.2.1 hG.2.1.2.2.2.1 hln (by have := hC.2.2.2.2.2.1; omega) (by rw [hz9]; exact hfm) hS.1 (by have := hG.1.2; omega) hG.2.1.1 hu8 (by rw [hz9]; exact hr8)) mi_X6_runScript vi_L_321 rfl hC.2.1.1 rfl rfl (Nat.le_of_ble_eq_true rfl) ⟨Nat.le_of_ble_eq_true rfl, Nat.le_of_ble_eq_true rfl⟩ (by show _ ≤ 603072; omega) (by show _ ≤ 7194730; omega) dL_law_2556) (fun q z => Or.inr (by have z := z.1; have := hC.2.2.2.2.2.1; omega)) (rfl : _ = 2559) (fun v_2556 H2556_10 hq_2556 o_2556 => ?_)
    obtain ⟨hb2, hR2⟩ := hq_2556
    obtain ⟨F9, c8, hR9, f6, f13, f10, f3, f5, f8, f14⟩ := hR2
    rw [hz9] at hb2 hR9
    have hb3 := hr9.trans hb2.symm
    subst hb3
    have ho9 := ho9.off o_2556 (fun e => by have := e.2; omega)
    have hC := hC.mod o_2556 hR9
    refine V_istore Y.1 (ls' := [(7, _), (6, _), (5, _), (4, _), (3, _), (2, _), (1, _), (0, _)]) dL_law_2559 (rfl : _ = 2561) (by decide) rfl ?_
    refine V_aload_n Y.1 5 dL_law_2561 (rfl : _ = 2562) rfl rfl ?_
    refine V_cP Y (rV Y (c_X6_thrown l D kA _ (a + 329) _ _ _ _ _ _ _ _ hC.2.1) mi_X6_thrown vi_L_159 rfl hC.2.1.1 rfl rfl (Nat.le_of_ble_eq_true rfl) ⟨Nat.le_of_ble_eq_true rfl, Nat.le_of_ble_eq_true rfl⟩ (by show _ ≤ 603072; omega) (by show _ ≤ 7194730; omega) dL_law_2562) (rfl : _ = 2565) ?_
    refine V_iload Y.1 1 dL_law_2565 (rfl : _ = 2567) rfl ?_
    refine V_icmp_eq Y.1 (tgt := 2572) dL_law_2567 (by decide) (rfl : _ = 2570) (fun _ => ?_) (fun c_n => absurd f6 c_n)
    refine V_iload Y.1 1 dL_law_2572 (rfl : _ = 2574) rfl ?_
    refine V_if_ne Y.1 (tgt := 2589) dL_law_2574 (by decide) (rfl : _ = 2577) (fun c_n => absurd rfl c_n) (fun _ => ?_)
    refine V_aload_n Y.1 4 dL_law_2577 (rfl : _ = 2578) rfl rfl ?_
    refine V_iconst Y.1 (v := 0) dL_law_2578 (rfl : _ = 2579) (by decide) ?_
    refine V_lald Y.1 (v := r9.toInt64) ho9 (show ¬ ((0 : Int32) < 0 ∨ 1 ≤ (0 : Int32).toNatClampNeg) by decide) hw9 dL_law_2579 (rfl : _ = 2580) ?_
    refine V_iload Y.1 0 dL_law_2580 (rfl : _ = 2582) rfl ?_
    refine V_i2l Y.1 dL_law_2582 (rfl : _ = 2583) rfl ?_
    refine V_lcmp Y.1 dL_law_2583 (rfl : _ = 2584) ?_
    refine V_if_eq Y.1 (tgt := 2589) dL_law_2584 (by decide) (rfl : _ = 2587) (fun _ => ?_) (fun c_n => absurd (lg_self _) c_n)
    refine V_goto Y.1 (tgt := 2781) dL_law_2589 (by decide) ?_
    exact V_forget (ls' := [(5, _), (4, _), (3, _), (2, _), (1, _), (0, _)]) [2, 3, 4, 5, 6, 7] rfl (V_widen (by omega) (by omega) (kk _ ⟨_, _, _, _, _, _, _, _, _, _, _, _, _, _, _, _, _, _, _, _, _, _, _, hC, ((hG.scr0 (F' := upd F 10 0) ⟨pk_un (by decide), pk_un (by decide), pk_un (by decide), pk_us, (pk_un (by decide)).trans hG.2.1.2.2.2.2.1, (pk_un (by decide)).trans hG.2.1.2.2.2.2.2⟩ hG.2.2.2.2.2.2.1 hG.2.2.2.2.2.2.2).push hPm hu8 (by omega) (hS8.more (by omega)) ⟨f5, f3.trans (pk_un (by decide)).symm, f8.trans (pk_un (by decide)).symm, f10.trans pk_us.symm, f13.trans (pk_un (by decide)).symm, f14.trans (pk_un (by decide)).symm⟩)⟩))
  · rcases hX9 with ⟨rfl, hnf, hF8⟩ | ⟨rfl, hfm, hj9, hF8⟩
    · have hk7 : v_2550 = 1 := hk9.trans (by decide)
      have hk8 := hk7.symm
      subst hk8
      have hC := hC.cls o_2550 (fun q z => z.elim Or.inl (fun e => Or.inr (Or.inr e))) hF8 ⟨_, ho9⟩ hC.2.2.2.2.2.2.1 hC.2.2.2.2.2.2.2
      refine V_istore Y.1 (ls' := [(6, _), (5, _), (4, _), (3, _), (2, _), (1, _), (0, _)]) dL_law_2553 (rfl : _ = 2555) (by decide) rfl ?_
      refine V_aload_n Y.1 4 dL_law_2555 (rfl : _ = 2556) rfl rfl ?_
      refine V_cI Y (sV Z (c_X6_runScript_w l D kA Hs σ _ hC.2.2.2.2.1 (a + 329) F s b v p uu tt cc ns hC.2.1 hG.2.1.2.2.2.1 hln (by have := hC.2.2.2.2.2.1; omega) (by rw [hz9]; exact hnf)) mi_X6_runScript vi_L_321 rfl hC.2.1.1 rfl rfl (Nat.le_of_ble_eq_true rfl) ⟨Nat.le_of_ble_eq_true rfl, Nat.le_of_ble_eq_true rfl⟩ (by show _ ≤ 603072; omega) (by show _ ≤ 7194730; omega) dL_law_2556) (fun q z => Or.inr (by have z := z.1; have := hC.2.2.2.2.2.1; omega)) (rfl : _ = 2559) (fun v_2556 H2556_6 hq_2556 o_2556 => ?_)
      obtain ⟨hb2, hR2⟩ := hq_2556
      obtain ⟨F9, c8, hR9, f6, f13, f10, f3, f5, f8, f14⟩ := hR2
      rw [hz9] at f13
      have hC := hC.mod o_2556 hR9
      refine V_istore Y.1 (ls' := [(7, _), (6, _), (5, _), (4, _), (3, _), (2, _), (1, _), (0, _)]) dL_law_2559 (rfl : _ = 2561) (by decide) rfl ?_
      refine V_aload_n Y.1 5 dL_law_2561 (rfl : _ = 2562) rfl rfl ?_
      refine V_cP Y (rV Y (c_X6_thrown l D kA _ (a + 329) _ _ _ _ _ _ _ _ hC.2.1) mi_X6_thrown vi_L_159 rfl hC.2.1.1 rfl rfl (Nat.le_of_ble_eq_true rfl) ⟨Nat.le_of_ble_eq_true rfl, Nat.le_of_ble_eq_true rfl⟩ (by show _ ≤ 603072; omega) (by show _ ≤ 7194730; omega) dL_law_2562) (rfl : _ = 2565) ?_
      refine V_iload Y.1 1 dL_law_2565 (rfl : _ = 2567) rfl ?_
      refine V_icmp_eq Y.1 (tgt := 2572) dL_law_2567 (by decide) (rfl : _ = 2570) (fun _ => ?_) (fun c_n => absurd f6 c_n)
      refine V_iload Y.1 1 dL_law_2572 (rfl : _ = 2574) rfl ?_
      refine V_if_ne Y.1 (tgt := 2589) dL_law_2574 (by decide) (rfl : _ = 2577) (fun _ => ?_) (fun c_n => absurd c_n (by decide))
      refine V_goto Y.1 (tgt := 2781) dL_law_2589 (by decide) ?_
      exact V_forget (ls' := [(5, _), (4, _), (3, _), (2, _), (1, _), (0, _)]) [2, 3, 4, 5, 6, 7] rfl (V_widen (by omega) (by omega) (kk _ ⟨_, _, _, _, _, _, _, _, _, _, _, _, _, _, _, _, _, _, _, _, _, _, _, hC, (hG.scr0 ⟨f5, f3, f8, f10, f13, f14.trans hG.2.1.2.2.2.2.2⟩ (Or.inr ⟨z9.2.1, by omega, rfl⟩) hG.2.2.2.2.2.2.2).more (by omega)⟩))
    · have hk7 : v_2550 = 2 := hk9.trans (by decide)
      have hk8 := hk7.symm
      subst hk8
      have hPm := hC.1.2.2.2.2.2.1
      have hC := hC.cls o_2550 (fun q z => z.elim Or.inl (fun e => Or.inr (Or.inr e))) hF8 ⟨_, ho9⟩ hC.gro hC.2.2.2.2.2.2.2
      have hr8 := ((hrun9 hfm).resolve_right (fun z => by have := z.1; omega)).2
      have hcn := hcnt hfm
      refine V_istore Y.1 (ls' := [(6, _), (5, _), (4, _), (3, _), (2, _), (1, _), (0, _)]) dL_law_2553 (rfl : _ = 2555) (by decide) rfl ?_
      refine V_aload_n Y.1 4 dL_law_2555 (rfl : _ = 2556) rfl rfl ?_
      refine V_cI Y (sV Z (c_X6_runScript_f l D kA Hs σ _ hC.2.2.2.2.1 (a + 329) F s b v p uu tt cc ns n t u hC.2.1 hG.2.1.2.2.2.1 hln (by have := hC.2.2.2.2.2.1; omega) (by rw [hz9]; exact hfm) hS.1 (by have := hG.1.2; omega) hG.2.1.1 hu8 j9 (by rw [hz9]; exact hr8)) mi_X6_runScript vi_L_321 rfl hC.2.1.1 rfl rfl (Nat.le_of_ble_eq_true rfl) ⟨Nat.le_of_ble_eq_true rfl, Nat.le_of_ble_eq_true rfl⟩ (by show _ ≤ 603072; omega) (by show _ ≤ 7194730; omega) dL_law_2556) (fun q z => Or.inr (by have z := z.1; have := hC.2.2.2.2.2.1; omega)) (rfl : _ = 2559) (fun v_2556 H2556_9 hq_2556 o_2556 => ?_)
      obtain ⟨hb2, hR2⟩ := hq_2556
      obtain ⟨F9, c8, hR9, f6, f13, f10, f3, f5, f8, f14⟩ := hR2
      have hC := hC.mod o_2556 hR9
      refine V_istore Y.1 (ls' := [(7, _), (6, _), (5, _), (4, _), (3, _), (2, _), (1, _), (0, _)]) dL_law_2559 (rfl : _ = 2561) (by decide) rfl ?_
      refine V_aload_n Y.1 5 dL_law_2561 (rfl : _ = 2562) rfl rfl ?_
      refine V_cP Y (rV Y (c_X6_thrown l D kA _ (a + 329) _ _ _ _ _ _ _ _ hC.2.1) mi_X6_thrown vi_L_159 rfl hC.2.1.1 rfl rfl (Nat.le_of_ble_eq_true rfl) ⟨Nat.le_of_ble_eq_true rfl, Nat.le_of_ble_eq_true rfl⟩ (by show _ ≤ 603072; omega) (by show _ ≤ 7194730; omega) dL_law_2562) (rfl : _ = 2565) ?_
      refine V_iload Y.1 1 dL_law_2565 (rfl : _ = 2567) rfl ?_
      refine V_icmp_eq Y.1 (tgt := 2572) dL_law_2567 (by decide) (rfl : _ = 2570) (fun _ => ?_) (fun c_n => absurd f6 c_n)
      refine V_iload Y.1 1 dL_law_2572 (rfl : _ = 2574) rfl ?_
      refine V_if_ne Y.1 (tgt := 2589) dL_law_2574 (by decide) (rfl : _ = 2577) (fun _ => ?_) (fun c_n => absurd c_n (by decide))
      refine V_goto Y.1 (tgt := 2781) dL_law_2589 (by decide) ?_
      exact V_forget (ls' := [(5, _), (4, _), (3, _), (2, _), (1, _), (0, _)]) [2, 3, 4, 5, 6, 7] rfl (V_widen (by omega) (by omega) (kk _ ⟨_, _, _, _, _, _, _, _, _, _, _, _, _, _, _, _, _, _, _, _, _, _, _, hC, ((hG.back hPm hu8).scr0 ⟨f5, f3, f8, f10, f13.trans hG.2.1.2.2.2.2.1, f14⟩ hG.2.2.2.2.2.2.1 (Or.inr ⟨j9, by omega, rfl⟩)).more (by omega)⟩))

