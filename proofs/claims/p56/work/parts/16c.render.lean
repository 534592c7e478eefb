/-! The law's outputs; the means. -/
theorem SQ.tot {M : MS} {s : Nat → Int32} {n t q : Nat} (h : SQ M s n t q) : ∃ A B C : Nat, A ≤ 7000 * q ∧ B ≤ q ∧ C ≤ 10 * q ∧ M.1 3 = nI A ∧ M.1 5 = nI B ∧ M.1 6 = nI C := by
  obtain ⟨-, ⟨-, -, -, e3, -, e5, e6, -, -⟩, -, -, -, ⟨A, B, C, hA, eA, hB, eB, hC, eC⟩, -⟩ := h.1.1
  exact ⟨A, B, C, hA, hB, hC, e3.trans eA, e5.trans eB, e6.trans eC⟩
theorem lg_self (x : Int64) : lg_cmp x x = 0 := by
  unfold lg_cmp
  rw [if_neg (Int64.lt_irrefl), if_pos rfl]
theorem cns_ch {x : Nat} {A : List Int32} (hx : x < 128) (hA : ∀ y ∈ A, ∃ c, c < 128 ∧ y = nI c) : ∀ y ∈ (nI x :: A), ∃ c, c < 128 ∧ y = nI c := fun y hy => (List.mem_cons.mp hy).elim (fun e => ⟨x, hx, e⟩) (hA y)
theorem m_card9_ch (M : MS) (i : Nat) : ∀ y ∈ m_card9 M i, ∃ c, c < 128 ∧ y = nI c := by
  unfold m_card9
  have hk : ∀ y ∈ (if (M.2.2.2.1 i).1 2 = 0 then [] else 64 :: sg ((M.2.2.2.1 i).1 3)), ∃ c, c < 128 ∧ y = nI c := by
    split
    · exact fun y hy => absurd hy List.not_mem_nil
    · exact cns_ch (x := 64) (by decide) (sg_ch _)
  refine ch_app (sg_ch _) ?_
  split
  · exact cns_ch (x := 102) (by decide) (cns_ch (x := 58) (by decide) (ch_app (sg_ch _) hk))
  · exact cns_ch (x := 114) (by decide) (cns_ch (x := 58) (by decide) (ch_app (sg_ch _) hk))
theorem z_l_ch (z : Nat → Int32) : ∀ k, ∀ y ∈ z_l z k, ∃ c, c < 128 ∧ y = nI c
  | 0 => fun y hy => absurd hy List.not_mem_nil
  | k + 1 => ch_app (z_l_ch z k) (sg_ch _)
theorem sg_l10 {i : Nat} (h : i < 10) : (sg (nI i)).length = 1 := by
  rw [sg_pos (by omega), dg_9 (by omega)]
  rfl
theorem z_l_len {z : Nat → Int32} (hz : ∀ j, j < 12 → ∃ w, w < 10 ∧ z j = nI w) : ∀ k, k ≤ 12 → (z_l z k).length = k
  | 0, _ => rfl
  | k + 1, h => by
    obtain ⟨w, hw, e⟩ := hz k (by omega)
    show (z_l z k ++ sg (z k)).length = _
    rw [List.length_append, z_l_len hz k (by omega), e, sg_l10 hw]
theorem rp_ch {L : List Int32} (h : ∀ y ∈ L, ∃ c, c < 128 ∧ y = nI c) (g : Nat → Int32) : ∀ j, j < L.length → ∃ c, c < 128 ∧ r_put g 0 L j = nI c := fun j hj => by
  have e := put_ge9 L g 0 j hj
  rw [Nat.zero_add] at e
  rw [e]
  refine h _ ?_
  rw [List.getD_eq_getElem?_getD, List.getElem?_eq_getElem hj]
  exact List.getElem_mem hj
theorem lw_F {D : va_G} {kA : Nat → ClassId} {Hs H0 H : Heap} {a : Nat} {W : Nat → MS} {s : Nat → Int32} {n t q u : Nat} {p : Nat → Nat → Int32} {no n9 : Nat} {go g9 : Nat → Int32} {ns : Nat} {X ES : Nat → Prop} {π : Nat → Nat} {ep fc : Int32} {vs cs : Nat} {gs tt : Nat → Int32}
    (hJ : Lw D kA Hs H0 a (W (π 0)) s n t q u p no go ns X) (hF9 : Fs D kA H a W π ES u 0 ep fc n9 g9 vs cs ns gs)
    (hS : SQ (W (π 0)) s n t q) (hH : Hq W π u p q) (hba : Hs.size ≤ a) (hou : n9 ≤ 16 ∧ ∀ j, j < n9 → ∃ c, c < 128 ∧ g9 j = nI c) (hsc : ns ≤ 60 ∧ Tx gs tt ns) (hX : ∀ x, X x → Hs.size ≤ x ∧ x < H0.size ∧ x ≠ vs ∧ ¬ ES x ∧ ¬ blk a 329 x)
    (o : off (fun q => q = a + 321 ∨ q = a + 322) H0 H) :
    Lw D kA Hs H a (W (π 0)) s n t q u p n9 g9 ns X := by
  have hg := hJ.ag
  refine ⟨W, π, ES, ep, fc, vs, cs, gs, tt, hF9, rfl, hS, hH, hg.keep o (fun x hx => ?_), hba, hou, hsc, fun x hx => ?_⟩
  · have := hg.1
    rcases hx with z | z <;> omega
  · obtain ⟨b1, b2, b3⟩ := hX x hx
    exact ⟨b1, Nat.lt_of_lt_of_le b2 o.1, b3⟩
theorem lw_out {D : va_G} {kA : Nat → ClassId} {Hs H0 H : Heap} {a : Nat} {W : Nat → MS} {s : Nat → Int32} {n t q u : Nat} {p : Nat → Nat → Int32} {no n9 : Nat} {go : Nat → Int32} {ns : Nat} {X ES : Nat → Prop} {π : Nat → Nat} {ep fc : Int32} {vs cs : Nat} {gs tt : Nat → Int32} {L : List Int32}
    (hJ : Lw D kA Hs H0 a (W (π 0)) s n t q u p no go ns X) (hF : Fs D kA H0 a W π ES u 0 ep fc no go vs cs ns gs) (hF9 : Fs D kA H a W π ES u 0 ep fc n9 (r_put go 0 L) vs cs ns gs)
    (hS : SQ (W (π 0)) s n t q) (hH : Hq W π u p q) (hba : Hs.size ≤ a) (hsc : ns ≤ 60 ∧ Tx gs tt ns) (hX : ∀ x, X x → Hs.size ≤ x ∧ x < H0.size ∧ x ≠ vs ∧ ¬ ES x ∧ ¬ blk a 329 x)
    (hL : ∀ y ∈ L, ∃ c, c < 128 ∧ y = nI c) (hn : L.length = n9) (o : off (fun q => q = a + 321 ∨ q = a + 322) H0 H) :
    Lw D kA Hs H a (W (π 0)) s n t q u p n9 (r_put go 0 L) ns X := by
  subst hn
  have hg := hJ.ag
  refine ⟨W, π, ES, ep, fc, vs, cs, gs, tt, hF9, rfl, hS, hH, hg.keep o (fun x hx => ?_), hba, ⟨hF9.2.2.1.2.2.2.1, rp_ch hL go⟩, hsc, fun x hx => ?_⟩
  · have := hg.1
    rcases hx with z | z <;> omega
  · obtain ⟨b1, b2, b3⟩ := hX x hx
    exact ⟨b1, Nat.lt_of_lt_of_le b2 o.1, b3⟩
theorem mh_L_renderCard : Mw yL_renderCard cL_renderCard 3 (some .int) [(0, 5, 6, 20)] 2 := ⟨(tm 1185 (by decide +kernel) (by decide +kernel)), (tm 8 (by decide +kernel) (by decide +kernel)), by decide +kernel, by decide +kernel, by decide +kernel⟩
theorem c_D_renderZones (l : Launch) (D : va_G) (kA : Nat → ClassId) (Hs : Heap) (σ : SG) (H0 : Heap) (hg : Ag Hs H0) (a : Nat) (M : MS) (s : Nat → Int32) (n t q u : Nat) (p : Nat → Nat → Int32) (no : Nat) (go : Nat → Int32) (ns : Nat) (X : Nat → Prop)  (hJ : Lw D kA Hs H0 a M s n t q u p no go ns X) (hnt : l.stackTraces = false)  : CtS l D kA Hs σ yX5_renderZones cX5_renderZones 2 (some .int) 10 162 0 0 H0 [.ref a] (fun q => q = a + 321 ∨ q = a + 322) (pI fun v9 H => v9 = nI 12 ∧ Lw D kA Hs H a M s n t q u p 12 (r_put go 0 (z_l M.2.1 12)) ns X) := by
  obtain ⟨W, π, ES, ep, fc, vs, cs, gs, tt, hF, rfl, hS, hH, -, hba, hou, hsc, hX⟩ := id hJ
  refine CtS.mono (c_X5_renderZones l D kA Hs σ H0 hg a W π ES u 0 ep fc no go vs cs ns gs hF hnt hS.1.hz9 hba) (fun v9 H9 o9 hp9 => ?_)
  obtain ⟨r9, e9, h1, hF9⟩ := hp9
  exact ⟨r9, e9, h1, lw_out hJ hF hF9 hS hH hba hsc hX (z_l_ch (W (π 0)).2.1 12) (z_l_len hS.1.hz9 12 (Nat.le_refl _)) o9⟩

theorem c_D_meanCharge (l : Launch) (D : va_G) (kA : Nat → ClassId) (Hs : Heap) (σ : SG) (H0 : Heap) (hg : Ag Hs H0) (a : Nat) (M : MS) (s : Nat → Int32) (n t q u : Nat) (p : Nat → Nat → Int32) (no : Nat) (go : Nat → Int32) (ns : Nat) (X : Nat → Prop)  (hJ : Lw D kA Hs H0 a M s n t q u p no go ns X) (hnt : l.stackTraces = false) (hq4 : q ≤ 40000) (hne : ¬ M.1 5 + M.1 6 = 0) : CtS l D kA Hs σ yX5_meanCharge cX5_meanCharge 2 (some .double) 8 120 4 24 H0 [.ref a] (nof) (pD fun v9 H => v9 = FP.ddiv (FP.i2d (M.1 3)) (FP.i2d (M.1 5 + M.1 6)) ∧ H = H0) := by
  obtain ⟨A, B, C, hA9, hB9, hC9, eA, eB, eC⟩ := hJ.sq.tot
  obtain ⟨W, π, ES, ep, fc, vs, cs, gs, tt, hF, rfl, hS, hH, -, hba, hou, hsc, hX⟩ := id hJ
  refine CtSX.pure (c_X5_meanCharge l D kA Hs σ H0 hg a W π ES u 0 ep fc no go vs cs ns gs hF hnt) (fun E9 H9 hx9 => hne hx9.2) (fun v9 H9 o9 hp9 => ?_)
  obtain ⟨r9, e9, h1, h2, h3⟩ := hp9
  exact ⟨r9, e9, h1, h2⟩

theorem c_D_incompleteShare (l : Launch) (D : va_G) (kA : Nat → ClassId) (Hs : Heap) (σ : SG) (H0 : Heap) (hg : Ag Hs H0) (a : Nat) (M : MS) (s : Nat → Int32) (n t q u : Nat) (p : Nat → Nat → Int32) (no : Nat) (go : Nat → Int32) (ns : Nat) (X : Nat → Prop)  (hJ : Lw D kA Hs H0 a M s n t q u p no go ns X) (hnt : l.stackTraces = false) (hq4 : q ≤ 40000) (hne : ¬ M.1 5 + M.1 6 = 0) : CtS l D kA Hs σ yX5_incompleteShare cX5_incompleteShare 2 (some .float) 8 120 4 24 H0 [.ref a] (nof) (pF fun v9 H => v9 = FP.fdiv (FP.i2f (M.1 6)) (FP.i2f (M.1 5 + M.1 6)) ∧ H = H0) := by
  obtain ⟨A, B, C, hA9, hB9, hC9, eA, eB, eC⟩ := hJ.sq.tot
  obtain ⟨W, π, ES, ep, fc, vs, cs, gs, tt, hF, rfl, hS, hH, -, hba, hou, hsc, hX⟩ := id hJ
  refine CtSX.pure (c_X5_incompleteShare l D kA Hs σ H0 hg a W π ES u 0 ep fc no go vs cs ns gs hF hnt) (fun E9 H9 hx9 => hne hx9.2) (fun v9 H9 o9 hp9 => ?_)
  obtain ⟨r9, e9, h1, h2, h3⟩ := hp9
  exact ⟨r9, e9, h1, h2⟩

theorem c_D_meanChargeBits (l : Launch) (D : va_G) (kA : Nat → ClassId) (Hs : Heap) (σ : SG) (H0 : Heap) (hg : Ag Hs H0) (a : Nat) (M : MS) (s : Nat → Int32) (n t q u : Nat) (p : Nat → Nat → Int32) (no : Nat) (go : Nat → Int32) (ns : Nat) (X : Nat → Prop)  (hJ : Lw D kA Hs H0 a M s n t q u p no go ns X) (hnt : l.stackTraces = false) (hq4 : q ≤ 40000) (hne : ¬ M.1 5 + M.1 6 = 0) : CtS l D kA Hs σ yX5_meanChargeBits cX5_meanChargeBits 1 (some .long) 9 141 4 24 H0 [.ref a] (nof) (pL fun v9 H => v9 = (FP.ddiv (FP.i2d (M.1 3)) (FP.i2d (M.1 5 + M.1 6))).toInt64 ∧ H = H0) := by
  obtain ⟨A, B, C, hA9, hB9, hC9, eA, eB, eC⟩ := hJ.sq.tot
  obtain ⟨W, π, ES, ep, fc, vs, cs, gs, tt, hF, rfl, hS, hH, -, hba, hou, hsc, hX⟩ := id hJ
  refine CtSX.pure (c_X5_meanChargeBits l D kA Hs σ H0 hg a W π ES u 0 ep fc no go vs cs ns gs A (B + C) hF hnt eA (by rw [eB, eC, nI_add]) (by omega) (by omega)) (fun E9 H9 hx9 => hne hx9.2) (fun v9 H9 o9 hp9 => ?_)
  obtain ⟨r9, e9, h1, h2, h3⟩ := hp9
  exact ⟨r9, e9, h1, h2⟩

theorem c_D_incompleteShareBits (l : Launch) (D : va_G) (kA : Nat → ClassId) (Hs : Heap) (σ : SG) (H0 : Heap) (hg : Ag Hs H0) (a : Nat) (M : MS) (s : Nat → Int32) (n t q u : Nat) (p : Nat → Nat → Int32) (no : Nat) (go : Nat → Int32) (ns : Nat) (X : Nat → Prop)  (hJ : Lw D kA Hs H0 a M s n t q u p no go ns X) (hnt : l.stackTraces = false) (hq4 : q ≤ 40000) (hne : ¬ M.1 5 + M.1 6 = 0) : CtS l D kA Hs σ yX5_incompleteShareBits cX5_incompleteShareBits 1 (some .int) 9 141 4 24 H0 [.ref a] (nof) (pI fun v9 H => v9 = (FP.fdiv (FP.i2f (M.1 6)) (FP.i2f (M.1 5 + M.1 6))).toInt32 ∧ H = H0) := by
  obtain ⟨A, B, C, hA9, hB9, hC9, eA, eB, eC⟩ := hJ.sq.tot
  obtain ⟨W, π, ES, ep, fc, vs, cs, gs, tt, hF, rfl, hS, hH, -, hba, hou, hsc, hX⟩ := id hJ
  refine CtSX.pure (c_X5_incompleteShareBits l D kA Hs σ H0 hg a W π ES u 0 ep fc no go vs cs ns gs C (B + C) hF hnt eC (by rw [eB, eC, nI_add]) (by omega) (by omega)) (fun E9 H9 hx9 => hne hx9.2) (fun v9 H9 o9 hp9 => ?_)
  obtain ⟨r9, e9, h1, h2, h3⟩ := hp9
  exact ⟨r9, e9, h1, h2⟩
set_option maxRecDepth 100000 in
set_option maxHeartbeats 4000000 in
theorem c_L_renderCard (l : Launch) (D : va_G) (kA : Nat → ClassId) (Hs : Heap) (σ : SG) (H0 : Heap) (hg : Ag Hs H0) (a : Nat) (M : MS) (s : Nat → Int32) (n t q u : Nat) (p : Nat → Nat → Int32) (no : Nat) (go : Nat → Int32) (ns : Nat) (X : Nat → Prop) (x : Int32) (hJ : Lw D kA Hs H0 a M s n t q u p no go ns X) (hnt : l.stackTraces = false) : CtW l D kA Hs σ yL_renderCard cL_renderCard 3 (some .int) [(0, 5, 6, 20)] 11 184 4 24 H0 [.ref a, .int x] (fun q => q = a + 321 ∨ q = a + 322) (pI fun k9 H9 => (¬ b_card M x = 0 ∧ k9 = nI (m_card9 M x.toNatClampNeg).length ∧ Lw D kA Hs H9 a M s n t q u p (m_card9 M x.toNatClampNeg).length (r_put go 0 (m_card9 M x.toNatClampNeg)) ns X) ∨ (b_card M x = 0 ∧ k9 = -11 ∧ Lw D kA Hs H9 a M s n t q u p no go ns X)) := by
  refine CtW.of mh_L_renderCard (Nat.le_of_ble_eq_true rfl) (ls0 := [(0, _), (1, _)]) rfl hg (fun q hq => by have := hJ.ha; omega) ?_
  intro Pp Ee Ss Mm Ar Bl Me Cc Z hsH htab
  have Y := Z.1
  obtain ⟨W, π, ES, ep, fc, vs, cs, gs, tt, hF, rfl, hS, hH, -, hba, hou, hsc, hX⟩ := id hJ
  refine V_aload_n Y.1 0 dL_renderCard_0 (rfl : _ = 1) rfl rfl ?_
  refine V_iload_n Y.1 1 dL_renderCard_1 (rfl : _ = 2) rfl rfl ?_
  refine V_xI Y (sxV Z (c_X5_renderCard l D kA Hs σ _ hg a W π ES u 0 ep fc no go vs cs ns gs x hF hnt hS.1.hcb hS.1.hjt3 hba) mi_X5_renderCard vi_L_106 rfl hF.1.1 rfl rfl (Nat.le_of_ble_eq_true rfl) ⟨Nat.le_of_ble_eq_true rfl, Nat.le_of_ble_eq_true rfl⟩ (Nat.le_of_ble_eq_true rfl) (Nat.le_of_ble_eq_true rfl) dL_renderCard_2) (fun _ z => Or.inl z) (rfl : _ = 5) (fun E_2 H2_2 hx_2 o_2 => ?_) (fun v_2 H2_2 hq_2 o_2 => ?_)
  · obtain ⟨rfl, hc, hF9⟩ := hx_2
    have hJ9 := lw_F hJ hF9 hS hH hba hou hsc hX o_2
    refine VX_catch Z (pre := []) (x := ⟨0, 5, 6, 20⟩) (suf := []) (htab.trans rfl) (fun z hz => nomatch hz) (by decide) (by decide) (by decide) (tm 650 (by decide +kernel) (by decide +kernel)) (by decide +kernel) rfl (fun q9 => ?_)
    refine V_astore_n Y.1 (ls' := [(2, _), (0, _), (1, _)]) dL_renderCard_6 (rfl : _ = 7) rfl (by decide) rfl ?_
    refine V_bipush Y.1 (v := -11) dL_renderCard_7 (rfl : _ = 9) (by decide) ?_
    exact V_ret Y.1 dL_renderCard_9 rfl (Nat.le_of_ble_eq_true rfl) (Nat.le_of_ble_eq_true rfl) (Or.inr ⟨hc, rfl, hJ9⟩)
  obtain ⟨e9, nb9, hF9⟩ := hq_2
  have hJ9 := lw_out hJ hF hF9 hS hH hba hsc hX (m_card9_ch (W (π 0)) x.toNatClampNeg) rfl o_2
  exact V_ret Y.1 dL_renderCard_5 rfl (Nat.le_of_ble_eq_true rfl) (Nat.le_of_ble_eq_true rfl) (Or.inl ⟨nb9, e9, hJ9⟩)

