theorem b_card_i {M : MS} {x : Int32} (h : ¬ b_card M x = 0) : ∃ i : Nat, i < 8 ∧ x = nI i ∧ nI i < M.1 0 := by
  have hin := b_card_in h
  have hx : ¬ x < 0 := fun q => hin (Or.inl q)
  obtain ⟨i, hi, rfl⟩ := nI_of hx
  have h8 : i < 8 := Nat.not_le.mp fun q => hin (Or.inr (by rw [nI_clamp hi]; exact q))
  refine ⟨i, h8, rfl, ?_⟩
  unfold b_card at h
  rw [if_neg (nI_pos (by omega))] at h
  by_cases g : M.1 0 ≤ nI i
  · rw [if_pos g] at h; exact absurd rfl h
  · exact Int32.not_le.mp g
theorem m_rep_1 {M : MS} {x : Int32} (h : ¬ m_rep M x = 0) : m_rep M x = 1 := by
  unfold m_rep at h ⊢
  split
  · rename_i q
    rw [if_pos q] at h
    exact absurd rfl h
  · rfl
theorem k_cont_01 (κ : KS) (a b : Int32) : k_cont κ a b = 0 ∨ k_cont κ a b = 1 := by
  unfold k_cont
  split
  · exact Or.inr rfl
  · exact Or.inl rfl
set_option maxRecDepth 100000 in
set_option maxHeartbeats 4000000 in
theorem c_X5_requireStation (l : Launch) (D : va_G) (kA : Nat → ClassId) (Hs : Heap) (σ : SG) (H0 : Heap) (hg : Ag Hs H0)  (x : Int32) (hnt : l.stackTraces = false)  : CtSX l D kA Hs σ yX5_requireStation cX5_requireStation 1 none 8 120 1 6 H0 [.int x] (nof) (pV fun H => H = H0 ∧ ¬ b_st x = 0) (fun E H => E = "java/lang/IndexOutOfBoundsException" ∧ b_st x = 0) := by
  refine CtSX.of mi_X5_requireStation (by decide +kernel) (Nat.le_of_ble_eq_true rfl) (ls0 := [(0, _)]) rfl hg (fun _ z => z.elim) ?_
  intro Pp Ee Ss Mm Ar Bl Me Cc Z hsH hnm
  have Y := Z.1
  refine V_iload_n Y.1 0 dX5_requireStation_0 (rfl : _ = 1) rfl rfl ?_
  refine V_cP Y (rS Y (c_X2_hasStation l D kA _ x) mi_X2_hasStation si_X5_327 rfl rfl (Nat.le_of_ble_eq_true rfl) ⟨Nat.le_of_ble_eq_true rfl, Nat.le_of_ble_eq_true rfl⟩ (Nat.le_of_ble_eq_true rfl) (Nat.le_of_ble_eq_true rfl) dX5_requireStation_1) (rfl : _ = 4) ?_
  refine V_if_ne Y.1 (tgt := 18) dX5_requireStation_4 (by decide) (rfl : _ = 7) (fun c_4 => ?_) (fun c_4 => ?_)
  · exact V_X (V_retV Y.1 dX5_requireStation_18 (Nat.le_of_ble_eq_true rfl) (Nat.le_of_ble_eq_true rfl) ⟨rfl, c_4⟩)
  · refine V_thrW Z hnt th_X5_231 (show ("MetroFares", 330, "no such station") ∈ wL by decide +kernel) dX5_requireStation_7 dX5_requireStation_10 dX5_requireStation_11 dX5_requireStation_14 dX5_requireStation_17 (Nat.le_of_ble_eq_true rfl) (Nat.le_of_ble_eq_true rfl) (Nat.le_of_ble_eq_true rfl) (Nat.le_of_ble_eq_true rfl) (fun H9 o9 => VX_out Y.1 hnm (Nat.le_of_ble_eq_true rfl) (Nat.le_of_ble_eq_true rfl) ⟨rfl, c_4⟩)

set_option maxRecDepth 100000 in
set_option maxHeartbeats 4000000 in
theorem c_X5_requireCard (l : Launch) (D : va_G) (kA : Nat → ClassId) (Hs : Heap) (σ : SG) (H0 : Heap) (hg : Ag Hs H0) (a : Nat) (W : Nat → MS) (π : Nat → Nat) (ES : Nat → Prop) (u : Nat) (hs ep fc : Int32) (no : Nat) (go : Nat → Int32) (vs cs ns : Nat) (gs : Nat → Int32) (x : Int32) (hF : Fs D kA H0 a W π ES u hs ep fc no go vs cs ns gs) (hnt : l.stackTraces = false)  : CtSX l D kA Hs σ yX5_requireCard cX5_requireCard 2 none 8 120 1 6 H0 [.ref a, .int x] (nof) (pV fun H => H = H0 ∧ ¬ b_card (W (π 0)) x = 0) (fun E H => E = "java/lang/IndexOutOfBoundsException" ∧ b_card (W (π 0)) x = 0) := by
  refine CtSX.of mi_X5_requireCard (by decide +kernel) (Nat.le_of_ble_eq_true rfl) (ls0 := [(0, _), (1, _)]) rfl hg (fun _ z => z.elim) ?_
  intro Pp Ee Ss Mm Ar Bl Me Cc Z hsH hnm
  have Y := Z.1
  obtain ⟨E0, hE⟩ := hF.now
  refine V_aload_n Y.1 0 dX5_requireCard_0 (rfl : _ = 1) rfl rfl ?_
  refine V_get Y.1 fi_X5_10 hF.1.1 rfl dX5_requireCard_1 (rfl : _ = 4) ?_
  refine V_iload_n Y.1 1 dX5_requireCard_4 (rfl : _ = 5) rfl rfl ?_
  refine V_cP Y (rV Y (c_X3_hasCard l D kA _ _ _ ES x hF.now) mi_X3_hasCard vi_X5_322 rfl hE.1.1 rfl rfl (Nat.le_of_ble_eq_true rfl) ⟨Nat.le_of_ble_eq_true rfl, Nat.le_of_ble_eq_true rfl⟩ (Nat.le_of_ble_eq_true rfl) (Nat.le_of_ble_eq_true rfl) dX5_requireCard_5) (rfl : _ = 8) ?_
  refine V_if_ne Y.1 (tgt := 22) dX5_requireCard_8 (by decide) (rfl : _ = 11) (fun c_8 => ?_) (fun c_8 => ?_)
  · exact V_X (V_retV Y.1 dX5_requireCard_22 (Nat.le_of_ble_eq_true rfl) (Nat.le_of_ble_eq_true rfl) ⟨rfl, c_8⟩)
  · refine V_thrW Z hnt th_X5_231 (show ("MetroFares", 325, "no such card") ∈ wL by decide +kernel) dX5_requireCard_11 dX5_requireCard_14 dX5_requireCard_15 dX5_requireCard_18 dX5_requireCard_21 (Nat.le_of_ble_eq_true rfl) (Nat.le_of_ble_eq_true rfl) (Nat.le_of_ble_eq_true rfl) (Nat.le_of_ble_eq_true rfl) (fun H9 o9 => VX_out Y.1 hnm (Nat.le_of_ble_eq_true rfl) (Nat.le_of_ble_eq_true rfl) ⟨rfl, c_8⟩)

set_option maxRecDepth 100000 in
set_option maxHeartbeats 4000000 in
theorem c_X5_requireTrip (l : Launch) (D : va_G) (kA : Nat → ClassId) (Hs : Heap) (σ : SG) (H0 : Heap) (hg : Ag Hs H0) (a : Nat) (W : Nat → MS) (π : Nat → Nat) (ES : Nat → Prop) (u : Nat) (hs ep fc : Int32) (no : Nat) (go : Nat → Int32) (vs cs ns : Nat) (gs : Nat → Int32) (x : Int32) (hF : Fs D kA H0 a W π ES u hs ep fc no go vs cs ns gs) (hnt : l.stackTraces = false)  : CtSX l D kA Hs σ yX5_requireTrip cX5_requireTrip 2 none 9 141 2 12 H0 [.ref a, .int x] (nof) (pV fun H => H = H0 ∧ ¬ b_card (W (π 0)) x = 0 ∧ ¬ (m_c (W (π 0)) x).1 2 = 0) (fun E H => (E = "java/lang/IndexOutOfBoundsException" ∧ b_card (W (π 0)) x = 0) ∨ (E = "java/util/NoSuchElementException" ∧ ¬ b_card (W (π 0)) x = 0 ∧ (m_c (W (π 0)) x).1 2 = 0)) := by
  refine CtSX.of mi_X5_requireTrip (by decide +kernel) (Nat.le_of_ble_eq_true rfl) (ls0 := [(0, _), (1, _)]) rfl hg (fun _ z => z.elim) ?_
  intro Pp Ee Ss Mm Ar Bl Me Cc Z hsH hnm
  have Y := Z.1
  obtain ⟨E0, hE⟩ := hF.now
  refine V_aload_n Y.1 0 dX5_requireTrip_0 (rfl : _ = 1) rfl rfl ?_
  refine V_iload_n Y.1 1 dX5_requireTrip_1 (rfl : _ = 2) rfl rfl ?_
  refine V_xV Y (sxV Z (c_X5_requireCard l D kA Hs σ _ hg _ _ _ _ _ _ _ _ _ _ _ _ _ _ x hF hnt) mi_X5_requireCard vi_X5_111 rfl hF.1.1 rfl rfl (Nat.le_of_ble_eq_true rfl) ⟨Nat.le_of_ble_eq_true rfl, Nat.le_of_ble_eq_true rfl⟩ (Nat.le_of_ble_eq_true rfl) (Nat.le_of_ble_eq_true rfl) dX5_requireTrip_2) (fun _ z => z.elim) (rfl : _ = 5) (fun E_2 H2_2 hx_2 o_2 => ?_) (fun H2_2 hq_2 o_2 => ?_)
  · obtain ⟨rfl, hb9⟩ := hx_2
    exact VX_out Y.1 hnm (Nat.le_of_ble_eq_true rfl) (Nat.le_of_ble_eq_true rfl) (Or.inl ⟨rfl, hb9⟩)
  obtain ⟨rfl, hb9⟩ := hq_2
  obtain ⟨i, hi, rfl, hi0⟩ := b_card_i hb9
  have ec : m_c (W (π 0)) (nI i) = (W (π 0)).2.2.2.1 i := by rw [m_c, nI_clamp (by omega)]
  refine V_aload_n Y.1 0 dX5_requireTrip_5 (rfl : _ = 6) rfl rfl ?_
  refine V_get Y.1 fi_X5_10 hF.1.1 rfl dX5_requireTrip_6 (rfl : _ = 9) ?_
  refine V_get Y.1 fi_X5_114 hE.1.1 rfl dX5_requireTrip_9 (rfl : _ = 12) ?_
  refine V_iload_n Y.1 1 dX5_requireTrip_12 (rfl : _ = 13) rfl rfl ?_
  refine V_aldK Y.1 (v := m_ca (sl a (π 0)) i) hE.1.2.2.1 (by first | assumption | exact vp_in_nI (by omega) (by omega)) (by rw [nI_clamp (by omega)]) dX5_requireTrip_13 (rfl : _ = 14) ?_
  refine V_get Y.1 fi_X5_127 (hE.1.2.2.2 i hi).1 rfl dX5_requireTrip_14 (rfl : _ = 17) ?_
  refine V_if_ne Y.1 (tgt := 31) dX5_requireTrip_17 (by decide) (rfl : _ = 20) (fun c_17 => ?_) (fun c_17 => ?_)
  · exact V_X (V_retV Y.1 dX5_requireTrip_31 (Nat.le_of_ble_eq_true rfl) (Nat.le_of_ble_eq_true rfl) ⟨rfl, hb9, by rw [ec]; exact c_17⟩)
  · refine V_thrW Z hnt th_X5_101 (show ("MetroFares", 332, "the card is not on a trip") ∈ wL by decide +kernel) dX5_requireTrip_20 dX5_requireTrip_23 dX5_requireTrip_24 dX5_requireTrip_27 dX5_requireTrip_30 (Nat.le_of_ble_eq_true rfl) (Nat.le_of_ble_eq_true rfl) (Nat.le_of_ble_eq_true rfl) (Nat.le_of_ble_eq_true rfl) (fun H9 o9 => VX_out Y.1 hnm (Nat.le_of_ble_eq_true rfl) (Nat.le_of_ble_eq_true rfl) (Or.inr ⟨rfl, hb9, by rw [ec]; exact c_17⟩))

set_option maxRecDepth 100000 in
set_option maxHeartbeats 4000000 in
theorem c_X5_requireRecentDay (l : Launch) (D : va_G) (kA : Nat → ClassId) (Hs : Heap) (σ : SG) (H0 : Heap) (hg : Ag Hs H0) (a : Nat) (W : Nat → MS) (π : Nat → Nat) (ES : Nat → Prop) (u : Nat) (hs ep fc : Int32) (no : Nat) (go : Nat → Int32) (vs cs ns : Nat) (gs : Nat → Int32) (y : Int32) (d : Nat) (hd : (W (π 0)).1 1 / 1440 = nI d) (hd2 : d < 2 ^ 30) (hF : Fs D kA H0 a W π ES u hs ep fc no go vs cs ns gs) (hnt : l.stackTraces = false)  : CtSX l D kA Hs σ yX5_requireRecentDay cX5_requireRecentDay 3 none 8 120 1 6 H0 [.ref a, .int y] (nof) (pV fun H => H = H0 ∧ ¬ (y < 0 ∨ nI d < y ∨ ¬ nI d - 2 ≤ y)) (fun E H => E = "java/lang/IllegalArgumentException" ∧ (y < 0 ∨ nI d < y ∨ ¬ nI d - 2 ≤ y)) := by
  refine CtSX.of mi_X5_requireRecentDay (by decide +kernel) (Nat.le_of_ble_eq_true rfl) (ls0 := [(0, _), (1, _)]) rfl hg (fun _ z => z.elim) ?_
  intro Pp Ee Ss Mm Ar Bl Me Cc Z hsH hnm
  have Y := Z.1
  obtain ⟨E0, hE⟩ := hF.now
  refine V_aload_n Y.1 0 dX5_requireRecentDay_0 (rfl : _ = 1) rfl rfl ?_
  refine V_get Y.1 fi_X5_10 hF.1.1 rfl dX5_requireRecentDay_1 (rfl : _ = 4) ?_
  refine V_cP Y (rV Y (c_X3_presentDay l D kA _ _ _ ES hF.now) mi_X3_presentDay vi_X5_57 rfl hE.1.1 rfl rfl (Nat.le_of_ble_eq_true rfl) ⟨Nat.le_of_ble_eq_true rfl, Nat.le_of_ble_eq_true rfl⟩ (Nat.le_of_ble_eq_true rfl) (Nat.le_of_ble_eq_true rfl) dX5_requireRecentDay_4) (rfl : _ = 7) ?_
  refine V_nm (v := nI d) hd ?_
  refine V_istore_n Y.1 (ls' := [(2, _), (0, _), (1, _)]) dX5_requireRecentDay_7 (rfl : _ = 8) rfl (by decide) rfl ?_
  refine V_iload_n Y.1 2 dX5_requireRecentDay_8 (rfl : _ = 9) rfl rfl ?_
  refine V_if_lt Y.1 (tgt := 24) dX5_requireRecentDay_9 (by decide) (rfl : _ = 12) (fun c_9 => ?_) (fun c_9 => ?_)
  · refine V_thrW Z hnt th_X5_240 (show ("MetroFares", 334, "no recent day") ∈ wL by decide +kernel) dX5_requireRecentDay_24 dX5_requireRecentDay_27 dX5_requireRecentDay_28 dX5_requireRecentDay_31 dX5_requireRecentDay_34 (Nat.le_of_ble_eq_true rfl) (Nat.le_of_ble_eq_true rfl) (Nat.le_of_ble_eq_true rfl) (Nat.le_of_ble_eq_true rfl) (fun H9 o9 => VX_out Y.1 hnm (Nat.le_of_ble_eq_true rfl) (Nat.le_of_ble_eq_true rfl) ⟨rfl, Or.inl c_9⟩)
  · refine V_iload_n Y.1 2 dX5_requireRecentDay_12 (rfl : _ = 13) rfl rfl ?_
    refine V_iload_n Y.1 0 dX5_requireRecentDay_13 (rfl : _ = 14) rfl rfl ?_
    refine V_icmp_gt Y.1 (tgt := 24) dX5_requireRecentDay_14 (by decide) (rfl : _ = 17) (fun c_14 => ?_) (fun c_14 => ?_)
    · refine V_thrW Z hnt th_X5_240 (show ("MetroFares", 334, "no recent day") ∈ wL by decide +kernel) dX5_requireRecentDay_24 dX5_requireRecentDay_27 dX5_requireRecentDay_28 dX5_requireRecentDay_31 dX5_requireRecentDay_34 (Nat.le_of_ble_eq_true rfl) (Nat.le_of_ble_eq_true rfl) (Nat.le_of_ble_eq_true rfl) (Nat.le_of_ble_eq_true rfl) (fun H9 o9 => VX_out Y.1 hnm (Nat.le_of_ble_eq_true rfl) (Nat.le_of_ble_eq_true rfl) ⟨rfl, Or.inr (Or.inl c_14)⟩)
    · refine V_iload_n Y.1 2 dX5_requireRecentDay_17 (rfl : _ = 18) rfl rfl ?_
      refine V_iload_n Y.1 0 dX5_requireRecentDay_18 (rfl : _ = 19) rfl rfl ?_
      refine V_iconst Y.1 (v := 2) dX5_requireRecentDay_19 (rfl : _ = 20) (by decide) ?_
      refine V_isub Y.1 dX5_requireRecentDay_20 (rfl : _ = 21) ?_
      refine V_icmp_ge Y.1 (tgt := 35) dX5_requireRecentDay_21 (by decide) (rfl : _ = 24) (fun c_21 => ?_) (fun c_21 => ?_)
      · exact V_X (V_retV Y.1 dX5_requireRecentDay_35 (Nat.le_of_ble_eq_true rfl) (Nat.le_of_ble_eq_true rfl) ⟨rfl, fun q => q.elim c_9 (fun q => q.elim c_14 (fun q => q c_21))⟩)
      · refine V_thrW Z hnt th_X5_240 (show ("MetroFares", 334, "no recent day") ∈ wL by decide +kernel) dX5_requireRecentDay_24 dX5_requireRecentDay_27 dX5_requireRecentDay_28 dX5_requireRecentDay_31 dX5_requireRecentDay_34 (Nat.le_of_ble_eq_true rfl) (Nat.le_of_ble_eq_true rfl) (Nat.le_of_ble_eq_true rfl) (Nat.le_of_ble_eq_true rfl) (fun H9 o9 => VX_out Y.1 hnm (Nat.le_of_ble_eq_true rfl) (Nat.le_of_ble_eq_true rfl) ⟨rfl, Or.inr (Or.inr c_21)⟩)

set_option maxRecDepth 100000 in
set_option maxHeartbeats 4000000 in
theorem c_X5_time (l : Launch) (D : va_G) (kA : Nat → ClassId) (Hs : Heap) (σ : SG) (H0 : Heap) (hg : Ag Hs H0) (a : Nat) (W : Nat → MS) (π : Nat → Nat) (ES : Nat → Prop) (u : Nat) (hs ep fc : Int32) (no : Nat) (go : Nat → Int32) (vs cs ns : Nat) (gs : Nat → Int32)  (hF : Fs D kA H0 a W π ES u hs ep fc no go vs cs ns gs) (hnt : l.stackTraces = false)  : CtS l D kA Hs σ yX5_time cX5_time 1 (some .int) 0 0 0 0 H0 [.ref a] (nof) (pI fun v9 H => v9 = (W (π 0)).1 1 ∧ H = H0) := by
  refine CtS.of mi_X5_time (Nat.le_of_ble_eq_true rfl) (ls0 := [(0, _)]) rfl hg (fun _ z => z.elim) ?_
  intro Pp Ee Ss Mm Ar Bl Me Cc Z hsH hnm
  have Y := Z.1
  obtain ⟨E0, hE⟩ := hF.now
  refine V_aload_n Y.1 0 dX5_time_0 (rfl : _ = 1) rfl rfl ?_
  refine V_get Y.1 fi_X5_10 hF.1.1 rfl dX5_time_1 (rfl : _ = 4) ?_
  refine V_get Y.1 fi_X5_54 hE.1.1 rfl dX5_time_4 (rfl : _ = 7) ?_
  exact V_ret Y.1 dX5_time_7 rfl (Nat.le_of_ble_eq_true rfl) (Nat.le_of_ble_eq_true rfl) ⟨rfl, rfl⟩

set_option maxRecDepth 100000 in
set_option maxHeartbeats 4000000 in
theorem c_X5_cardCount (l : Launch) (D : va_G) (kA : Nat → ClassId) (Hs : Heap) (σ : SG) (H0 : Heap) (hg : Ag Hs H0) (a : Nat) (W : Nat → MS) (π : Nat → Nat) (ES : Nat → Prop) (u : Nat) (hs ep fc : Int32) (no : Nat) (go : Nat → Int32) (vs cs ns : Nat) (gs : Nat → Int32)  (hF : Fs D kA H0 a W π ES u hs ep fc no go vs cs ns gs) (hnt : l.stackTraces = false)  : CtS l D kA Hs σ yX5_cardCount cX5_cardCount 1 (some .int) 0 0 0 0 H0 [.ref a] (nof) (pI fun v9 H => v9 = (W (π 0)).1 0 ∧ H = H0) := by
  refine CtS.of mi_X5_cardCount (Nat.le_of_ble_eq_true rfl) (ls0 := [(0, _)]) rfl hg (fun _ z => z.elim) ?_
  intro Pp Ee Ss Mm Ar Bl Me Cc Z hsH hnm
  have Y := Z.1
  obtain ⟨E0, hE⟩ := hF.now
  refine V_aload_n Y.1 0 dX5_cardCount_0 (rfl : _ = 1) rfl rfl ?_
  refine V_get Y.1 fi_X5_10 hF.1.1 rfl dX5_cardCount_1 (rfl : _ = 4) ?_
  refine V_get Y.1 fi_X5_108 hE.1.1 rfl dX5_cardCount_4 (rfl : _ = 7) ?_
  exact V_ret Y.1 dX5_cardCount_7 rfl (Nat.le_of_ble_eq_true rfl) (Nat.le_of_ble_eq_true rfl) ⟨rfl, rfl⟩

set_option maxRecDepth 100000 in
set_option maxHeartbeats 4000000 in
theorem c_X5_loadedTotal (l : Launch) (D : va_G) (kA : Nat → ClassId) (Hs : Heap) (σ : SG) (H0 : Heap) (hg : Ag Hs H0) (a : Nat) (W : Nat → MS) (π : Nat → Nat) (ES : Nat → Prop) (u : Nat) (hs ep fc : Int32) (no : Nat) (go : Nat → Int32) (vs cs ns : Nat) (gs : Nat → Int32)  (hF : Fs D kA H0 a W π ES u hs ep fc no go vs cs ns gs) (hnt : l.stackTraces = false)  : CtS l D kA Hs σ yX5_loadedTotal cX5_loadedTotal 1 (some .int) 0 0 0 0 H0 [.ref a] (nof) (pI fun v9 H => v9 = (W (π 0)).1 2 ∧ H = H0) := by
  refine CtS.of mi_X5_loadedTotal (Nat.le_of_ble_eq_true rfl) (ls0 := [(0, _)]) rfl hg (fun _ z => z.elim) ?_
  intro Pp Ee Ss Mm Ar Bl Me Cc Z hsH hnm
  have Y := Z.1
  obtain ⟨E0, hE⟩ := hF.now
  refine V_aload_n Y.1 0 dX5_loadedTotal_0 (rfl : _ = 1) rfl rfl ?_
  refine V_get Y.1 fi_X5_10 hF.1.1 rfl dX5_loadedTotal_1 (rfl : _ = 4) ?_
  refine V_get Y.1 fi_X5_172 hE.1.1 rfl dX5_loadedTotal_4 (rfl : _ = 7) ?_
  exact V_ret Y.1 dX5_loadedTotal_7 rfl (Nat.le_of_ble_eq_true rfl) (Nat.le_of_ble_eq_true rfl) ⟨rfl, rfl⟩

set_option maxRecDepth 100000 in
set_option maxHeartbeats 4000000 in
theorem c_X5_chargedTotal (l : Launch) (D : va_G) (kA : Nat → ClassId) (Hs : Heap) (σ : SG) (H0 : Heap) (hg : Ag Hs H0) (a : Nat) (W : Nat → MS) (π : Nat → Nat) (ES : Nat → Prop) (u : Nat) (hs ep fc : Int32) (no : Nat) (go : Nat → Int32) (vs cs ns : Nat) (gs : Nat → Int32)  (hF : Fs D kA H0 a W π ES u hs ep fc no go vs cs ns gs) (hnt : l.stackTraces = false)  : CtS l D kA Hs σ yX5_chargedTotal cX5_chargedTotal 1 (some .int) 0 0 0 0 H0 [.ref a] (nof) (pI fun v9 H => v9 = (W (π 0)).1 3 ∧ H = H0) := by
  refine CtS.of mi_X5_chargedTotal (Nat.le_of_ble_eq_true rfl) (ls0 := [(0, _)]) rfl hg (fun _ z => z.elim) ?_
  intro Pp Ee Ss Mm Ar Bl Me Cc Z hsH hnm
  have Y := Z.1
  obtain ⟨E0, hE⟩ := hF.now
  refine V_aload_n Y.1 0 dX5_chargedTotal_0 (rfl : _ = 1) rfl rfl ?_
  refine V_get Y.1 fi_X5_10 hF.1.1 rfl dX5_chargedTotal_1 (rfl : _ = 4) ?_
  refine V_get Y.1 fi_X5_175 hE.1.1 rfl dX5_chargedTotal_4 (rfl : _ = 7) ?_
  exact V_ret Y.1 dX5_chargedTotal_7 rfl (Nat.le_of_ble_eq_true rfl) (Nat.le_of_ble_eq_true rfl) ⟨rfl, rfl⟩

set_option maxRecDepth 100000 in
set_option maxHeartbeats 4000000 in
theorem c_X5_paidBackTotal (l : Launch) (D : va_G) (kA : Nat → ClassId) (Hs : Heap) (σ : SG) (H0 : Heap) (hg : Ag Hs H0) (a : Nat) (W : Nat → MS) (π : Nat → Nat) (ES : Nat → Prop) (u : Nat) (hs ep fc : Int32) (no : Nat) (go : Nat → Int32) (vs cs ns : Nat) (gs : Nat → Int32)  (hF : Fs D kA H0 a W π ES u hs ep fc no go vs cs ns gs) (hnt : l.stackTraces = false)  : CtS l D kA Hs σ yX5_paidBackTotal cX5_paidBackTotal 1 (some .int) 0 0 0 0 H0 [.ref a] (nof) (pI fun v9 H => v9 = (W (π 0)).1 4 ∧ H = H0) := by
  refine CtS.of mi_X5_paidBackTotal (Nat.le_of_ble_eq_true rfl) (ls0 := [(0, _)]) rfl hg (fun _ z => z.elim) ?_
  intro Pp Ee Ss Mm Ar Bl Me Cc Z hsH hnm
  have Y := Z.1
  obtain ⟨E0, hE⟩ := hF.now
  refine V_aload_n Y.1 0 dX5_paidBackTotal_0 (rfl : _ = 1) rfl rfl ?_
  refine V_get Y.1 fi_X5_10 hF.1.1 rfl dX5_paidBackTotal_1 (rfl : _ = 4) ?_
  refine V_get Y.1 fi_X5_178 hE.1.1 rfl dX5_paidBackTotal_4 (rfl : _ = 7) ?_
  exact V_ret Y.1 dX5_paidBackTotal_7 rfl (Nat.le_of_ble_eq_true rfl) (Nat.le_of_ble_eq_true rfl) ⟨rfl, rfl⟩

set_option maxRecDepth 100000 in
set_option maxHeartbeats 4000000 in
theorem c_X5_completeTrips (l : Launch) (D : va_G) (kA : Nat → ClassId) (Hs : Heap) (σ : SG) (H0 : Heap) (hg : Ag Hs H0) (a : Nat) (W : Nat → MS) (π : Nat → Nat) (ES : Nat → Prop) (u : Nat) (hs ep fc : Int32) (no : Nat) (go : Nat → Int32) (vs cs ns : Nat) (gs : Nat → Int32)  (hF : Fs D kA H0 a W π ES u hs ep fc no go vs cs ns gs) (hnt : l.stackTraces = false)  : CtS l D kA Hs σ yX5_completeTrips cX5_completeTrips 1 (some .int) 0 0 0 0 H0 [.ref a] (nof) (pI fun v9 H => v9 = (W (π 0)).1 5 ∧ H = H0) := by
  refine CtS.of mi_X5_completeTrips (Nat.le_of_ble_eq_true rfl) (ls0 := [(0, _)]) rfl hg (fun _ z => z.elim) ?_
  intro Pp Ee Ss Mm Ar Bl Me Cc Z hsH hnm
  have Y := Z.1
  obtain ⟨E0, hE⟩ := hF.now
  refine V_aload_n Y.1 0 dX5_completeTrips_0 (rfl : _ = 1) rfl rfl ?_
  refine V_get Y.1 fi_X5_10 hF.1.1 rfl dX5_completeTrips_1 (rfl : _ = 4) ?_
  refine V_get Y.1 fi_X5_181 hE.1.1 rfl dX5_completeTrips_4 (rfl : _ = 7) ?_
  exact V_ret Y.1 dX5_completeTrips_7 rfl (Nat.le_of_ble_eq_true rfl) (Nat.le_of_ble_eq_true rfl) ⟨rfl, rfl⟩

set_option maxRecDepth 100000 in
set_option maxHeartbeats 4000000 in
theorem c_X5_incompleteTrips (l : Launch) (D : va_G) (kA : Nat → ClassId) (Hs : Heap) (σ : SG) (H0 : Heap) (hg : Ag Hs H0) (a : Nat) (W : Nat → MS) (π : Nat → Nat) (ES : Nat → Prop) (u : Nat) (hs ep fc : Int32) (no : Nat) (go : Nat → Int32) (vs cs ns : Nat) (gs : Nat → Int32)  (hF : Fs D kA H0 a W π ES u hs ep fc no go vs cs ns gs) (hnt : l.stackTraces = false)  : CtS l D kA Hs σ yX5_incompleteTrips cX5_incompleteTrips 1 (some .int) 0 0 0 0 H0 [.ref a] (nof) (pI fun v9 H => v9 = (W (π 0)).1 6 ∧ H = H0) := by
  refine CtS.of mi_X5_incompleteTrips (Nat.le_of_ble_eq_true rfl) (ls0 := [(0, _)]) rfl hg (fun _ z => z.elim) ?_
  intro Pp Ee Ss Mm Ar Bl Me Cc Z hsH hnm
  have Y := Z.1
  obtain ⟨E0, hE⟩ := hF.now
  refine V_aload_n Y.1 0 dX5_incompleteTrips_0 (rfl : _ = 1) rfl rfl ?_
  refine V_get Y.1 fi_X5_10 hF.1.1 rfl dX5_incompleteTrips_1 (rfl : _ = 4) ?_
  refine V_get Y.1 fi_X5_184 hE.1.1 rfl dX5_incompleteTrips_4 (rfl : _ = 7) ?_
  exact V_ret Y.1 dX5_incompleteTrips_7 rfl (Nat.le_of_ble_eq_true rfl) (Nat.le_of_ble_eq_true rfl) ⟨rfl, rfl⟩

set_option maxRecDepth 100000 in
set_option maxHeartbeats 4000000 in
theorem c_X5_baseFare (l : Launch) (D : va_G) (kA : Nat → ClassId) (Hs : Heap) (σ : SG) (H0 : Heap) (hg : Ag Hs H0) (a : Nat) (W : Nat → MS) (π : Nat → Nat) (ES : Nat → Prop) (u : Nat) (hs ep fc : Int32) (no : Nat) (go : Nat → Int32) (vs cs ns : Nat) (gs : Nat → Int32)  (hF : Fs D kA H0 a W π ES u hs ep fc no go vs cs ns gs) (hnt : l.stackTraces = false)  : CtS l D kA Hs σ yX5_baseFare cX5_baseFare 1 (some .int) 0 0 0 0 H0 [.ref a] (nof) (pI fun v9 H => v9 = (W (π 0)).1 7 ∧ H = H0) := by
  refine CtS.of mi_X5_baseFare (Nat.le_of_ble_eq_true rfl) (ls0 := [(0, _)]) rfl hg (fun _ z => z.elim) ?_
  intro Pp Ee Ss Mm Ar Bl Me Cc Z hsH hnm
  have Y := Z.1
  obtain ⟨E0, hE⟩ := hF.now
  refine V_aload_n Y.1 0 dX5_baseFare_0 (rfl : _ = 1) rfl rfl ?_
  refine V_get Y.1 fi_X5_10 hF.1.1 rfl dX5_baseFare_1 (rfl : _ = 4) ?_
  refine V_get Y.1 fi_X5_65 hE.1.1 rfl dX5_baseFare_4 (rfl : _ = 7) ?_
  refine V_get Y.1 fi_X5_85 hE.1.2.1.1 rfl dX5_baseFare_7 (rfl : _ = 10) ?_
  exact V_ret Y.1 dX5_baseFare_10 rfl (Nat.le_of_ble_eq_true rfl) (Nat.le_of_ble_eq_true rfl) ⟨rfl, rfl⟩

set_option maxRecDepth 100000 in
set_option maxHeartbeats 4000000 in
theorem c_X5_zoneFare (l : Launch) (D : va_G) (kA : Nat → ClassId) (Hs : Heap) (σ : SG) (H0 : Heap) (hg : Ag Hs H0) (a : Nat) (W : Nat → MS) (π : Nat → Nat) (ES : Nat → Prop) (u : Nat) (hs ep fc : Int32) (no : Nat) (go : Nat → Int32) (vs cs ns : Nat) (gs : Nat → Int32)  (hF : Fs D kA H0 a W π ES u hs ep fc no go vs cs ns gs) (hnt : l.stackTraces = false)  : CtS l D kA Hs σ yX5_zoneFare cX5_zoneFare 1 (some .int) 0 0 0 0 H0 [.ref a] (nof) (pI fun v9 H => v9 = (W (π 0)).1 8 ∧ H = H0) := by
  refine CtS.of mi_X5_zoneFare (Nat.le_of_ble_eq_true rfl) (ls0 := [(0, _)]) rfl hg (fun _ z => z.elim) ?_
  intro Pp Ee Ss Mm Ar Bl Me Cc Z hsH hnm
  have Y := Z.1
  obtain ⟨E0, hE⟩ := hF.now
  refine V_aload_n Y.1 0 dX5_zoneFare_0 (rfl : _ = 1) rfl rfl ?_
  refine V_get Y.1 fi_X5_10 hF.1.1 rfl dX5_zoneFare_1 (rfl : _ = 4) ?_
  refine V_get Y.1 fi_X5_65 hE.1.1 rfl dX5_zoneFare_4 (rfl : _ = 7) ?_
  refine V_get Y.1 fi_X5_88 hE.1.2.1.1 rfl dX5_zoneFare_7 (rfl : _ = 10) ?_
  exact V_ret Y.1 dX5_zoneFare_10 rfl (Nat.le_of_ble_eq_true rfl) (Nat.le_of_ble_eq_true rfl) ⟨rfl, rfl⟩

set_option maxRecDepth 100000 in
set_option maxHeartbeats 4000000 in
theorem c_X5_day (l : Launch) (D : va_G) (kA : Nat → ClassId) (Hs : Heap) (σ : SG) (H0 : Heap) (hg : Ag Hs H0) (a : Nat) (W : Nat → MS) (π : Nat → Nat) (ES : Nat → Prop) (u : Nat) (hs ep fc : Int32) (no : Nat) (go : Nat → Int32) (vs cs ns : Nat) (gs : Nat → Int32)  (hF : Fs D kA H0 a W π ES u hs ep fc no go vs cs ns gs) (hnt : l.stackTraces = false)  : CtS l D kA Hs σ yX5_day cX5_day 1 (some .int) 1 20 0 0 H0 [.ref a] (nof) (pI fun v9 H => v9 = (W (π 0)).1 1 / 1440 ∧ H = H0) := by
  refine CtS.of mi_X5_day (Nat.le_of_ble_eq_true rfl) (ls0 := [(0, _)]) rfl hg (fun _ z => z.elim) ?_
  intro Pp Ee Ss Mm Ar Bl Me Cc Z hsH hnm
  have Y := Z.1
  obtain ⟨E0, hE⟩ := hF.now
  refine V_aload_n Y.1 0 dX5_day_0 (rfl : _ = 1) rfl rfl ?_
  refine V_get Y.1 fi_X5_10 hF.1.1 rfl dX5_day_1 (rfl : _ = 4) ?_
  refine V_cP Y (rV Y (c_X3_presentDay l D kA _ _ _ ES hF.now) mi_X3_presentDay vi_X5_57 rfl hE.1.1 rfl rfl (Nat.le_of_ble_eq_true rfl) ⟨Nat.le_of_ble_eq_true rfl, Nat.le_of_ble_eq_true rfl⟩ (Nat.le_of_ble_eq_true rfl) (Nat.le_of_ble_eq_true rfl) dX5_day_4) (rfl : _ = 7) ?_
  exact V_ret Y.1 dX5_day_7 rfl (Nat.le_of_ble_eq_true rfl) (Nat.le_of_ble_eq_true rfl) ⟨rfl, rfl⟩

set_option maxRecDepth 100000 in
set_option maxHeartbeats 4000000 in
theorem c_X5_defaultFare (l : Launch) (D : va_G) (kA : Nat → ClassId) (Hs : Heap) (σ : SG) (H0 : Heap) (hg : Ag Hs H0) (a : Nat) (W : Nat → MS) (π : Nat → Nat) (ES : Nat → Prop) (u : Nat) (hs ep fc : Int32) (no : Nat) (go : Nat → Int32) (vs cs ns : Nat) (gs : Nat → Int32)  (hF : Fs D kA H0 a W π ES u hs ep fc no go vs cs ns gs) (hnt : l.stackTraces = false)  : CtS l D kA Hs σ yX5_defaultFare cX5_defaultFare 1 (some .int) 1 20 0 0 H0 [.ref a] (nof) (pI fun v9 H => v9 = (W (π 0)).1 7 + 5 * (W (π 0)).1 8 ∧ H = H0) := by
  refine CtS.of mi_X5_defaultFare (Nat.le_of_ble_eq_true rfl) (ls0 := [(0, _)]) rfl hg (fun _ z => z.elim) ?_
  intro Pp Ee Ss Mm Ar Bl Me Cc Z hsH hnm
  have Y := Z.1
  obtain ⟨E0, hE⟩ := hF.now
  refine V_aload_n Y.1 0 dX5_defaultFare_0 (rfl : _ = 1) rfl rfl ?_
  refine V_get Y.1 fi_X5_10 hF.1.1 rfl dX5_defaultFare_1 (rfl : _ = 4) ?_
  refine V_get Y.1 fi_X5_65 hE.1.1 rfl dX5_defaultFare_4 (rfl : _ = 7) ?_
  refine V_cP Y (rV Y (c_X2_fullDefault l D kA _ _ _ _ _ _ hE.1.2.1) mi_X2_fullDefault vi_X5_91 rfl hE.1.2.1.1 rfl rfl (Nat.le_of_ble_eq_true rfl) ⟨Nat.le_of_ble_eq_true rfl, Nat.le_of_ble_eq_true rfl⟩ (Nat.le_of_ble_eq_true rfl) (Nat.le_of_ble_eq_true rfl) dX5_defaultFare_7) (rfl : _ = 10) ?_
  exact V_ret Y.1 dX5_defaultFare_10 rfl (Nat.le_of_ble_eq_true rfl) (Nat.le_of_ble_eq_true rfl) ⟨rfl, rfl⟩

set_option maxRecDepth 100000 in
set_option maxHeartbeats 4000000 in
theorem c_X5_zone (l : Launch) (D : va_G) (kA : Nat → ClassId) (Hs : Heap) (σ : SG) (H0 : Heap) (hg : Ag Hs H0) (a : Nat) (W : Nat → MS) (π : Nat → Nat) (ES : Nat → Prop) (u : Nat) (hs ep fc : Int32) (no : Nat) (go : Nat → Int32) (vs cs ns : Nat) (gs : Nat → Int32) (x : Int32) (hF : Fs D kA H0 a W π ES u hs ep fc no go vs cs ns gs) (hnt : l.stackTraces = false)  : CtSX l D kA Hs σ yX5_zone cX5_zone 2 (some .int) 9 140 4 24 H0 [.ref a, .int x] (nof) (pI fun v9 H => v9 = (W (π 0)).2.1 x.toNatClampNeg ∧ H = H0 ∧ ¬ b_st x = 0) (fun E H => (E = "java/lang/IndexOutOfBoundsException" ∧ b_st x = 0)) := by
  refine CtSX.of mi_X5_zone (by decide +kernel) (Nat.le_of_ble_eq_true rfl) (ls0 := [(0, _), (1, _)]) rfl hg (fun _ z => z.elim) ?_
  intro Pp Ee Ss Mm Ar Bl Me Cc Z hsH hnm
  have Y := Z.1
  obtain ⟨E0, hE⟩ := hF.now
  refine V_iload_n Y.1 1 dX5_zone_0 (rfl : _ = 1) rfl rfl ?_
  refine V_xV Y (sxS Z (c_X5_requireStation l D kA Hs σ _ hg x hnt) mi_X5_requireStation si_X5_61 rfl rfl (Nat.le_of_ble_eq_true rfl) ⟨Nat.le_of_ble_eq_true rfl, Nat.le_of_ble_eq_true rfl⟩ (Nat.le_of_ble_eq_true rfl) (Nat.le_of_ble_eq_true rfl) dX5_zone_1) (fun _ z => z.elim) (rfl : _ = 4) (fun E_1 H1_1 hx_1 o_1 => ?_) (fun H1_1 hq_1 o_1 => ?_)
  · obtain ⟨rfl, hs9⟩ := hx_1
    exact VX_out Y.1 hnm (Nat.le_of_ble_eq_true rfl) (Nat.le_of_ble_eq_true rfl) ⟨rfl, hs9⟩
  obtain ⟨rfl, hsw⟩ := hq_1
  obtain ⟨w, hw, rfl⟩ := b_st_in hsw
  refine V_aload_n Y.1 0 dX5_zone_4 (rfl : _ = 5) rfl rfl ?_
  refine V_get Y.1 fi_X5_10 hF.1.1 rfl dX5_zone_5 (rfl : _ = 8) ?_
  refine V_get Y.1 fi_X5_65 hE.1.1 rfl dX5_zone_8 (rfl : _ = 11) ?_
  refine V_get Y.1 fi_X5_69 hE.1.2.1.1 rfl dX5_zone_11 (rfl : _ = 14) ?_
  refine V_iload_n Y.1 1 dX5_zone_14 (rfl : _ = 15) rfl rfl ?_
  refine V_iald Y.1 (v := (W (π 0)).2.1 w) hE.1.2.1.2.1 (by first | assumption | exact vp_in_nI (by omega) (by omega)) (by rw [nI_clamp (by omega)]) dX5_zone_15 (rfl : _ = 16) ?_
  exact V_X (V_ret Y.1 dX5_zone_16 rfl (Nat.le_of_ble_eq_true rfl) (Nat.le_of_ble_eq_true rfl) ⟨by rw [nI_clamp (by omega)], rfl, hsw⟩)

set_option maxRecDepth 100000 in
set_option maxHeartbeats 4000000 in
theorem c_X5_taps (l : Launch) (D : va_G) (kA : Nat → ClassId) (Hs : Heap) (σ : SG) (H0 : Heap) (hg : Ag Hs H0) (a : Nat) (W : Nat → MS) (π : Nat → Nat) (ES : Nat → Prop) (u : Nat) (hs ep fc : Int32) (no : Nat) (go : Nat → Int32) (vs cs ns : Nat) (gs : Nat → Int32) (x : Int32) (hF : Fs D kA H0 a W π ES u hs ep fc no go vs cs ns gs) (hnt : l.stackTraces = false)  : CtSX l D kA Hs σ yX5_taps cX5_taps 2 (some .int) 9 140 4 24 H0 [.ref a, .int x] (nof) (pI fun v9 H => v9 = (W (π 0)).2.2.1 x.toNatClampNeg ∧ H = H0 ∧ ¬ b_st x = 0) (fun E H => (E = "java/lang/IndexOutOfBoundsException" ∧ b_st x = 0)) := by
  refine CtSX.of mi_X5_taps (by decide +kernel) (Nat.le_of_ble_eq_true rfl) (ls0 := [(0, _), (1, _)]) rfl hg (fun _ z => z.elim) ?_
  intro Pp Ee Ss Mm Ar Bl Me Cc Z hsH hnm
  have Y := Z.1
  obtain ⟨E0, hE⟩ := hF.now
  refine V_iload_n Y.1 1 dX5_taps_0 (rfl : _ = 1) rfl rfl ?_
  refine V_xV Y (sxS Z (c_X5_requireStation l D kA Hs σ _ hg x hnt) mi_X5_requireStation si_X5_61 rfl rfl (Nat.le_of_ble_eq_true rfl) ⟨Nat.le_of_ble_eq_true rfl, Nat.le_of_ble_eq_true rfl⟩ (Nat.le_of_ble_eq_true rfl) (Nat.le_of_ble_eq_true rfl) dX5_taps_1) (fun _ z => z.elim) (rfl : _ = 4) (fun E_1 H1_1 hx_1 o_1 => ?_) (fun H1_1 hq_1 o_1 => ?_)
  · obtain ⟨rfl, hs9⟩ := hx_1
    exact VX_out Y.1 hnm (Nat.le_of_ble_eq_true rfl) (Nat.le_of_ble_eq_true rfl) ⟨rfl, hs9⟩
  obtain ⟨rfl, hsw⟩ := hq_1
  obtain ⟨w, hw, rfl⟩ := b_st_in hsw
  refine V_aload_n Y.1 0 dX5_taps_4 (rfl : _ = 5) rfl rfl ?_
  refine V_get Y.1 fi_X5_10 hF.1.1 rfl dX5_taps_5 (rfl : _ = 8) ?_
  refine V_get Y.1 fi_X5_65 hE.1.1 rfl dX5_taps_8 (rfl : _ = 11) ?_
  refine V_get Y.1 fi_X5_94 hE.1.2.1.1 rfl dX5_taps_11 (rfl : _ = 14) ?_
  refine V_iload_n Y.1 1 dX5_taps_14 (rfl : _ = 15) rfl rfl ?_
  refine V_iald Y.1 (v := (W (π 0)).2.2.1 w) hE.1.2.1.2.2 (by first | assumption | exact vp_in_nI (by omega) (by omega)) (by rw [nI_clamp (by omega)]) dX5_taps_15 (rfl : _ = 16) ?_
  exact V_X (V_ret Y.1 dX5_taps_16 rfl (Nat.le_of_ble_eq_true rfl) (Nat.le_of_ble_eq_true rfl) ⟨by rw [nI_clamp (by omega)], rfl, hsw⟩)

set_option maxRecDepth 100000 in
set_option maxHeartbeats 4000000 in
theorem c_X5_zoneCount (l : Launch) (D : va_G) (kA : Nat → ClassId) (Hs : Heap) (σ : SG) (H0 : Heap) (hg : Ag Hs H0) (a : Nat) (W : Nat → MS) (π : Nat → Nat) (ES : Nat → Prop) (u : Nat) (hs ep fc : Int32) (no : Nat) (go : Nat → Int32) (vs cs ns : Nat) (gs : Nat → Int32) (x y : Int32) (hF : Fs D kA H0 a W π ES u hs ep fc no go vs cs ns gs) (hnt : l.stackTraces = false)  : CtSX l D kA Hs σ yX5_zoneCount cX5_zoneCount 3 (some .int) 9 140 4 24 H0 [.ref a, .int x, .int y] (nof) (pI fun v9 H => v9 = ln_cnt (W (π 0)).2.1 x.toNatClampNeg y.toNatClampNeg ∧ H = H0 ∧ ¬ b_st x = 0 ∧ ¬ b_st y = 0) (fun E H => (E = "java/lang/IndexOutOfBoundsException" ∧ (b_st x = 0 ∨ b_st y = 0))) := by
  refine CtSX.of mi_X5_zoneCount (by decide +kernel) (Nat.le_of_ble_eq_true rfl) (ls0 := [(0, _), (1, _), (2, _)]) rfl hg (fun _ z => z.elim) ?_
  intro Pp Ee Ss Mm Ar Bl Me Cc Z hsH hnm
  have Y := Z.1
  obtain ⟨E0, hE⟩ := hF.now
  refine V_iload_n Y.1 1 dX5_zoneCount_0 (rfl : _ = 1) rfl rfl ?_
  refine V_xV Y (sxS Z (c_X5_requireStation l D kA Hs σ _ hg x hnt) mi_X5_requireStation si_X5_61 rfl rfl (Nat.le_of_ble_eq_true rfl) ⟨Nat.le_of_ble_eq_true rfl, Nat.le_of_ble_eq_true rfl⟩ (Nat.le_of_ble_eq_true rfl) (Nat.le_of_ble_eq_true rfl) dX5_zoneCount_1) (fun _ z => z.elim) (rfl : _ = 4) (fun E_1 H1_1 hx_1 o_1 => ?_) (fun H1_1 hq_1 o_1 => ?_)
  · obtain ⟨rfl, hs9⟩ := hx_1
    exact VX_out Y.1 hnm (Nat.le_of_ble_eq_true rfl) (Nat.le_of_ble_eq_true rfl) (show _ ∧ _ from ⟨rfl, Or.inl hs9⟩)
  obtain ⟨rfl, hsw⟩ := hq_1
  obtain ⟨w, hw, rfl⟩ := b_st_in hsw
  refine V_iload_n Y.1 2 dX5_zoneCount_4 (rfl : _ = 5) rfl rfl ?_
  refine V_xV Y (sxS Z (c_X5_requireStation l D kA Hs σ _ hg y hnt) mi_X5_requireStation si_X5_61 rfl rfl (Nat.le_of_ble_eq_true rfl) ⟨Nat.le_of_ble_eq_true rfl, Nat.le_of_ble_eq_true rfl⟩ (Nat.le_of_ble_eq_true rfl) (Nat.le_of_ble_eq_true rfl) dX5_zoneCount_5) (fun _ z => z.elim) (rfl : _ = 8) (fun E_5 H5_6 hx_5 o_5 => ?_) (fun H5_6 hq_5 o_5 => ?_)
  · obtain ⟨rfl, hs9⟩ := hx_5
    exact VX_out Y.1 hnm (Nat.le_of_ble_eq_true rfl) (Nat.le_of_ble_eq_true rfl) (show _ ∧ _ from ⟨rfl, Or.inr hs9⟩)
  obtain ⟨rfl, hsw2⟩ := hq_5
  obtain ⟨w2, hw2, rfl⟩ := b_st_in hsw2
  refine V_aload_n Y.1 0 dX5_zoneCount_8 (rfl : _ = 9) rfl rfl ?_
  refine V_get Y.1 fi_X5_10 hF.1.1 rfl dX5_zoneCount_9 (rfl : _ = 12) ?_
  refine V_get Y.1 fi_X5_65 hE.1.1 rfl dX5_zoneCount_12 (rfl : _ = 15) ?_
  refine V_iload_n Y.1 1 dX5_zoneCount_15 (rfl : _ = 16) rfl rfl ?_
  refine V_iload_n Y.1 2 dX5_zoneCount_16 (rfl : _ = 17) rfl rfl ?_
  refine V_cP Y (rV Y (c_X2_countByMarking l D kA _ _ _ _ _ _ w w2 hw hw2 hE.1.2.1) mi_X2_countByMarking vi_X5_75 rfl hE.1.2.1.1 rfl rfl (Nat.le_of_ble_eq_true rfl) ⟨Nat.le_of_ble_eq_true rfl, Nat.le_of_ble_eq_true rfl⟩ (Nat.le_of_ble_eq_true rfl) (Nat.le_of_ble_eq_true rfl) dX5_zoneCount_17) (rfl : _ = 20) ?_
  exact V_X (V_ret Y.1 dX5_zoneCount_20 rfl (Nat.le_of_ble_eq_true rfl) (Nat.le_of_ble_eq_true rfl) ⟨by rw [nI_clamp (by omega), nI_clamp (by omega)], rfl, hsw, hsw2⟩)

set_option maxRecDepth 100000 in
set_option maxHeartbeats 4000000 in
theorem c_X5_zoneCountByComparing (l : Launch) (D : va_G) (kA : Nat → ClassId) (Hs : Heap) (σ : SG) (H0 : Heap) (hg : Ag Hs H0) (a : Nat) (W : Nat → MS) (π : Nat → Nat) (ES : Nat → Prop) (u : Nat) (hs ep fc : Int32) (no : Nat) (go : Nat → Int32) (vs cs ns : Nat) (gs : Nat → Int32) (x y : Int32) (hF : Fs D kA H0 a W π ES u hs ep fc no go vs cs ns gs) (hnt : l.stackTraces = false)  : CtSX l D kA Hs σ yX5_zoneCountByComparing cX5_zoneCountByComparing 3 (some .int) 9 140 4 24 H0 [.ref a, .int x, .int y] (nof) (pI fun v9 H => v9 = nI (ln_pairs (W (π 0)).2.1 x.toNatClampNeg y.toNatClampNeg) ∧ H = H0 ∧ ¬ b_st x = 0 ∧ ¬ b_st y = 0) (fun E H => (E = "java/lang/IndexOutOfBoundsException" ∧ (b_st x = 0 ∨ b_st y = 0))) := by
  refine CtSX.of mi_X5_zoneCountByComparing (by decide +kernel) (Nat.le_of_ble_eq_true rfl) (ls0 := [(0, _), (1, _), (2, _)]) rfl hg (fun _ z => z.elim) ?_
  intro Pp Ee Ss Mm Ar Bl Me Cc Z hsH hnm
  have Y := Z.1
  obtain ⟨E0, hE⟩ := hF.now
  refine V_iload_n Y.1 1 dX5_zoneCountByComparing_0 (rfl : _ = 1) rfl rfl ?_
  refine V_xV Y (sxS Z (c_X5_requireStation l D kA Hs σ _ hg x hnt) mi_X5_requireStation si_X5_61 rfl rfl (Nat.le_of_ble_eq_true rfl) ⟨Nat.le_of_ble_eq_true rfl, Nat.le_of_ble_eq_true rfl⟩ (Nat.le_of_ble_eq_true rfl) (Nat.le_of_ble_eq_true rfl) dX5_zoneCountByComparing_1) (fun _ z => z.elim) (rfl : _ = 4) (fun E_1 H1_1 hx_1 o_1 => ?_) (fun H1_1 hq_1 o_1 => ?_)
  · obtain ⟨rfl, hs9⟩ := hx_1
    exact VX_out Y.1 hnm (Nat.le_of_ble_eq_true rfl) (Nat.le_of_ble_eq_true rfl) (show _ ∧ _ from ⟨rfl, Or.inl hs9⟩)
  obtain ⟨rfl, hsw⟩ := hq_1
  obtain ⟨w, hw, rfl⟩ := b_st_in hsw
  refine V_iload_n Y.1 2 dX5_zoneCountByComparing_4 (rfl : _ = 5) rfl rfl ?_
  refine V_xV Y (sxS Z (c_X5_requireStation l D kA Hs σ _ hg y hnt) mi_X5_requireStation si_X5_61 rfl rfl (Nat.le_of_ble_eq_true rfl) ⟨Nat.le_of_ble_eq_true rfl, Nat.le_of_ble_eq_true rfl⟩ (Nat.le_of_ble_eq_true rfl) (Nat.le_of_ble_eq_true rfl) dX5_zoneCountByComparing_5) (fun _ z => z.elim) (rfl : _ = 8) (fun E_5 H5_6 hx_5 o_5 => ?_) (fun H5_6 hq_5 o_5 => ?_)
  · obtain ⟨rfl, hs9⟩ := hx_5
    exact VX_out Y.1 hnm (Nat.le_of_ble_eq_true rfl) (Nat.le_of_ble_eq_true rfl) (show _ ∧ _ from ⟨rfl, Or.inr hs9⟩)
  obtain ⟨rfl, hsw2⟩ := hq_5
  obtain ⟨w2, hw2, rfl⟩ := b_st_in hsw2
  refine V_aload_n Y.1 0 dX5_zoneCountByComparing_8 (rfl : _ = 9) rfl rfl ?_
  refine V_get Y.1 fi_X5_10 hF.1.1 rfl dX5_zoneCountByComparing_9 (rfl : _ = 12) ?_
  refine V_get Y.1 fi_X5_65 hE.1.1 rfl dX5_zoneCountByComparing_12 (rfl : _ = 15) ?_
  refine V_iload_n Y.1 1 dX5_zoneCountByComparing_15 (rfl : _ = 16) rfl rfl ?_
  refine V_iload_n Y.1 2 dX5_zoneCountByComparing_16 (rfl : _ = 17) rfl rfl ?_
  refine V_cP Y (rV Y (c_X2_countByPairs l D kA _ _ _ _ _ _ w w2 hw hw2 hE.1.2.1) mi_X2_countByPairs vi_X5_79 rfl hE.1.2.1.1 rfl rfl (Nat.le_of_ble_eq_true rfl) ⟨Nat.le_of_ble_eq_true rfl, Nat.le_of_ble_eq_true rfl⟩ (Nat.le_of_ble_eq_true rfl) (Nat.le_of_ble_eq_true rfl) dX5_zoneCountByComparing_17) (rfl : _ = 20) ?_
  exact V_X (V_ret Y.1 dX5_zoneCountByComparing_20 rfl (Nat.le_of_ble_eq_true rfl) (Nat.le_of_ble_eq_true rfl) ⟨by rw [nI_clamp (by omega), nI_clamp (by omega)], rfl, hsw, hsw2⟩)

set_option maxRecDepth 100000 in
set_option maxHeartbeats 4000000 in
theorem c_X5_fare (l : Launch) (D : va_G) (kA : Nat → ClassId) (Hs : Heap) (σ : SG) (H0 : Heap) (hg : Ag Hs H0) (a : Nat) (W : Nat → MS) (π : Nat → Nat) (ES : Nat → Prop) (u : Nat) (hs ep fc : Int32) (no : Nat) (go : Nat → Int32) (vs cs ns : Nat) (gs : Nat → Int32) (x y : Int32) (hF : Fs D kA H0 a W π ES u hs ep fc no go vs cs ns gs) (hnt : l.stackTraces = false)  : CtSX l D kA Hs σ yX5_fare cX5_fare 3 (some .int) 9 140 4 24 H0 [.ref a, .int x, .int y] (nof) (pI fun v9 H => v9 = ln_fare (W (π 0)).2.1 ((W (π 0)).1 7) ((W (π 0)).1 8) x.toNatClampNeg y.toNatClampNeg ∧ H = H0 ∧ ¬ b_st x = 0 ∧ ¬ b_st y = 0) (fun E H => (E = "java/lang/IndexOutOfBoundsException" ∧ (b_st x = 0 ∨ b_st y = 0))) := by
  refine CtSX.of mi_X5_fare (by decide +kernel) (Nat.le_of_ble_eq_true rfl) (ls0 := [(0, _), (1, _), (2, _)]) rfl hg (fun _ z => z.elim) ?_
  intro Pp Ee Ss Mm Ar Bl Me Cc Z hsH hnm
  have Y := Z.1
  obtain ⟨E0, hE⟩ := hF.now
  refine V_iload_n Y.1 1 dX5_fare_0 (rfl : _ = 1) rfl rfl ?_
  refine V_xV Y (sxS Z (c_X5_requireStation l D kA Hs σ _ hg x hnt) mi_X5_requireStation si_X5_61 rfl rfl (Nat.le_of_ble_eq_true rfl) ⟨Nat.le_of_ble_eq_true rfl, Nat.le_of_ble_eq_true rfl⟩ (Nat.le_of_ble_eq_true rfl) (Nat.le_of_ble_eq_true rfl) dX5_fare_1) (fun _ z => z.elim) (rfl : _ = 4) (fun E_1 H1_1 hx_1 o_1 => ?_) (fun H1_1 hq_1 o_1 => ?_)
  · obtain ⟨rfl, hs9⟩ := hx_1
    exact VX_out Y.1 hnm (Nat.le_of_ble_eq_true rfl) (Nat.le_of_ble_eq_true rfl) (show _ ∧ _ from ⟨rfl, Or.inl hs9⟩)
  obtain ⟨rfl, hsw⟩ := hq_1
  obtain ⟨w, hw, rfl⟩ := b_st_in hsw
  refine V_iload_n Y.1 2 dX5_fare_4 (rfl : _ = 5) rfl rfl ?_
  refine V_xV Y (sxS Z (c_X5_requireStation l D kA Hs σ _ hg y hnt) mi_X5_requireStation si_X5_61 rfl rfl (Nat.le_of_ble_eq_true rfl) ⟨Nat.le_of_ble_eq_true rfl, Nat.le_of_ble_eq_true rfl⟩ (Nat.le_of_ble_eq_true rfl) (Nat.le_of_ble_eq_true rfl) dX5_fare_5) (fun _ z => z.elim) (rfl : _ = 8) (fun E_5 H5_6 hx_5 o_5 => ?_) (fun H5_6 hq_5 o_5 => ?_)
  · obtain ⟨rfl, hs9⟩ := hx_5
    exact VX_out Y.1 hnm (Nat.le_of_ble_eq_true rfl) (Nat.le_of_ble_eq_true rfl) (show _ ∧ _ from ⟨rfl, Or.inr hs9⟩)
  obtain ⟨rfl, hsw2⟩ := hq_5
  obtain ⟨w2, hw2, rfl⟩ := b_st_in hsw2
  refine V_aload_n Y.1 0 dX5_fare_8 (rfl : _ = 9) rfl rfl ?_
  refine V_get Y.1 fi_X5_10 hF.1.1 rfl dX5_fare_9 (rfl : _ = 12) ?_
  refine V_get Y.1 fi_X5_65 hE.1.1 rfl dX5_fare_12 (rfl : _ = 15) ?_
  refine V_iload_n Y.1 1 dX5_fare_15 (rfl : _ = 16) rfl rfl ?_
  refine V_iload_n Y.1 2 dX5_fare_16 (rfl : _ = 17) rfl rfl ?_
  refine V_cP Y (rV Y (c_X2_fullFare l D kA _ _ _ _ _ _ w w2 hw hw2 hE.1.2.1) mi_X2_fullFare vi_X5_82 rfl hE.1.2.1.1 rfl rfl (Nat.le_of_ble_eq_true rfl) ⟨Nat.le_of_ble_eq_true rfl, Nat.le_of_ble_eq_true rfl⟩ (Nat.le_of_ble_eq_true rfl) (Nat.le_of_ble_eq_true rfl) dX5_fare_17) (rfl : _ = 20) ?_
  exact V_X (V_ret Y.1 dX5_fare_20 rfl (Nat.le_of_ble_eq_true rfl) (Nat.le_of_ble_eq_true rfl) ⟨by rw [nI_clamp (by omega), nI_clamp (by omega)], rfl, hsw, hsw2⟩)

set_option maxRecDepth 100000 in
set_option maxHeartbeats 4000000 in
theorem c_X5_balance (l : Launch) (D : va_G) (kA : Nat → ClassId) (Hs : Heap) (σ : SG) (H0 : Heap) (hg : Ag Hs H0) (a : Nat) (W : Nat → MS) (π : Nat → Nat) (ES : Nat → Prop) (u : Nat) (hs ep fc : Int32) (no : Nat) (go : Nat → Int32) (vs cs ns : Nat) (gs : Nat → Int32) (x : Int32)  (hF : Fs D kA H0 a W π ES u hs ep fc no go vs cs ns gs) (hnt : l.stackTraces = false)  : CtSX l D kA Hs σ yX5_balance cX5_balance 2 (some .int) 9 141 4 24 H0 [.ref a, .int x] (nof) (pI fun v9 H => v9 = (m_c (W (π 0)) x).1 1 ∧ H = H0 ∧ ¬ b_card (W (π 0)) x = 0) (fun E H => (E = "java/lang/IndexOutOfBoundsException" ∧ b_card (W (π 0)) x = 0)) := by
  refine CtSX.of mi_X5_balance (by decide +kernel) (Nat.le_of_ble_eq_true rfl) (ls0 := [(0, _), (1, _)]) rfl hg (fun _ z => z.elim) ?_
  intro Pp Ee Ss Mm Ar Bl Me Cc Z hsH hnm
  have Y := Z.1
  obtain ⟨E0, hE⟩ := hF.now
  refine V_aload_n Y.1 0 dX5_balance_0 (rfl : _ = 1) rfl rfl ?_
  refine V_iload_n Y.1 1 dX5_balance_1 (rfl : _ = 2) rfl rfl ?_
  refine V_xV Y (sxV Z (c_X5_requireCard l D kA Hs σ _ hg _ _ _ _ _ _ _ _ _ _ _ _ _ _ x hF hnt) mi_X5_requireCard vi_X5_111 rfl hF.1.1 rfl rfl (Nat.le_of_ble_eq_true rfl) ⟨Nat.le_of_ble_eq_true rfl, Nat.le_of_ble_eq_true rfl⟩ (Nat.le_of_ble_eq_true rfl) (Nat.le_of_ble_eq_true rfl) dX5_balance_2) (fun _ z => z.elim) (rfl : _ = 5) (fun E_2 H2_2 hx_2 o_2 => ?_) (fun H2_2 hq_2 o_2 => ?_)
  · obtain ⟨rfl, hb9⟩ := hx_2
    exact VX_out Y.1 hnm (Nat.le_of_ble_eq_true rfl) (Nat.le_of_ble_eq_true rfl) ⟨rfl, hb9⟩
  obtain ⟨rfl, hb9⟩ := hq_2
  obtain ⟨i, hi, rfl, hi0⟩ := b_card_i hb9
  have ec : m_c (W (π 0)) (nI i) = (W (π 0)).2.2.2.1 i := by rw [m_c, nI_clamp (by omega)]
  refine V_aload_n Y.1 0 dX5_balance_5 (rfl : _ = 6) rfl rfl ?_
  refine V_get Y.1 fi_X5_10 hF.1.1 rfl dX5_balance_6 (rfl : _ = 9) ?_
  refine V_get Y.1 fi_X5_114 hE.1.1 rfl dX5_balance_9 (rfl : _ = 12) ?_
  refine V_iload_n Y.1 1 dX5_balance_12 (rfl : _ = 13) rfl rfl ?_
  refine V_aldK Y.1 (v := m_ca (sl a (π 0)) i) hE.1.2.2.1 (by first | assumption | exact vp_in_nI (by omega) (by omega)) (by rw [nI_clamp (by omega)]) dX5_balance_13 (rfl : _ = 14) ?_
  refine V_get Y.1 fi_X5_124 (hE.1.2.2.2 i hi).1 rfl dX5_balance_14 (rfl : _ = 17) ?_
  exact V_X (V_ret Y.1 dX5_balance_17 rfl (Nat.le_of_ble_eq_true rfl) (Nat.le_of_ble_eq_true rfl) ⟨by rw [ec], rfl, hb9⟩)

set_option maxRecDepth 100000 in
set_option maxHeartbeats 4000000 in
theorem c_X5_isReduced (l : Launch) (D : va_G) (kA : Nat → ClassId) (Hs : Heap) (σ : SG) (H0 : Heap) (hg : Ag Hs H0) (a : Nat) (W : Nat → MS) (π : Nat → Nat) (ES : Nat → Prop) (u : Nat) (hs ep fc : Int32) (no : Nat) (go : Nat → Int32) (vs cs ns : Nat) (gs : Nat → Int32) (x : Int32)  (hF : Fs D kA H0 a W π ES u hs ep fc no go vs cs ns gs) (hnt : l.stackTraces = false) (hok : ∀ i : Nat, nI i < (W (π 0)).1 0 → i < 8 → k_ok ((W (π 0)).2.2.2.1 i)) : CtSX l D kA Hs σ yX5_isReduced cX5_isReduced 2 (some .boolean) 9 141 4 24 H0 [.ref a, .int x] (nof) (pI fun v9 H => v9 = (m_c (W (π 0)) x).1 0 ∧ H = H0 ∧ ¬ b_card (W (π 0)) x = 0) (fun E H => (E = "java/lang/IndexOutOfBoundsException" ∧ b_card (W (π 0)) x = 0)) := by
  refine CtSX.of mi_X5_isReduced (by decide +kernel) (Nat.le_of_ble_eq_true rfl) (ls0 := [(0, _), (1, _)]) rfl hg (fun _ z => z.elim) ?_
  intro Pp Ee Ss Mm Ar Bl Me Cc Z hsH hnm
  have Y := Z.1
  obtain ⟨E0, hE⟩ := hF.now
  refine V_aload_n Y.1 0 dX5_isReduced_0 (rfl : _ = 1) rfl rfl ?_
  refine V_iload_n Y.1 1 dX5_isReduced_1 (rfl : _ = 2) rfl rfl ?_
  refine V_xV Y (sxV Z (c_X5_requireCard l D kA Hs σ _ hg _ _ _ _ _ _ _ _ _ _ _ _ _ _ x hF hnt) mi_X5_requireCard vi_X5_111 rfl hF.1.1 rfl rfl (Nat.le_of_ble_eq_true rfl) ⟨Nat.le_of_ble_eq_true rfl, Nat.le_of_ble_eq_true rfl⟩ (Nat.le_of_ble_eq_true rfl) (Nat.le_of_ble_eq_true rfl) dX5_isReduced_2) (fun _ z => z.elim) (rfl : _ = 5) (fun E_2 H2_2 hx_2 o_2 => ?_) (fun H2_2 hq_2 o_2 => ?_)
  · obtain ⟨rfl, hb9⟩ := hx_2
    exact VX_out Y.1 hnm (Nat.le_of_ble_eq_true rfl) (Nat.le_of_ble_eq_true rfl) ⟨rfl, hb9⟩
  obtain ⟨rfl, hb9⟩ := hq_2
  obtain ⟨i, hi, rfl, hi0⟩ := b_card_i hb9
  have ec : m_c (W (π 0)) (nI i) = (W (π 0)).2.2.2.1 i := by rw [m_c, nI_clamp (by omega)]
  refine V_aload_n Y.1 0 dX5_isReduced_5 (rfl : _ = 6) rfl rfl ?_
  refine V_get Y.1 fi_X5_10 hF.1.1 rfl dX5_isReduced_6 (rfl : _ = 9) ?_
  refine V_get Y.1 fi_X5_114 hE.1.1 rfl dX5_isReduced_9 (rfl : _ = 12) ?_
  refine V_iload_n Y.1 1 dX5_isReduced_12 (rfl : _ = 13) rfl rfl ?_
  refine V_aldK Y.1 (v := m_ca (sl a (π 0)) i) hE.1.2.2.1 (by first | assumption | exact vp_in_nI (by omega) (by omega)) (by rw [nI_clamp (by omega)]) dX5_isReduced_13 (rfl : _ = 14) ?_
  refine V_get Y.1 fi_X5_118 (hE.1.2.2.2 i hi).1 rfl dX5_isReduced_14 (rfl : _ = 17) ?_
  exact V_X (V_ret Y.1 dX5_isReduced_17 (nb_z (hok i hi0 hi 0 (by decide))) (Nat.le_of_ble_eq_true rfl) (Nat.le_of_ble_eq_true rfl) ⟨by rw [ec], rfl, hb9⟩)

set_option maxRecDepth 100000 in
set_option maxHeartbeats 4000000 in
theorem c_X5_isOnTrip (l : Launch) (D : va_G) (kA : Nat → ClassId) (Hs : Heap) (σ : SG) (H0 : Heap) (hg : Ag Hs H0) (a : Nat) (W : Nat → MS) (π : Nat → Nat) (ES : Nat → Prop) (u : Nat) (hs ep fc : Int32) (no : Nat) (go : Nat → Int32) (vs cs ns : Nat) (gs : Nat → Int32) (x : Int32)  (hF : Fs D kA H0 a W π ES u hs ep fc no go vs cs ns gs) (hnt : l.stackTraces = false) (hok : ∀ i : Nat, nI i < (W (π 0)).1 0 → i < 8 → k_ok ((W (π 0)).2.2.2.1 i)) : CtSX l D kA Hs σ yX5_isOnTrip cX5_isOnTrip 2 (some .boolean) 9 141 4 24 H0 [.ref a, .int x] (nof) (pI fun v9 H => v9 = (m_c (W (π 0)) x).1 2 ∧ H = H0 ∧ ¬ b_card (W (π 0)) x = 0) (fun E H => (E = "java/lang/IndexOutOfBoundsException" ∧ b_card (W (π 0)) x = 0)) := by
  refine CtSX.of mi_X5_isOnTrip (by decide +kernel) (Nat.le_of_ble_eq_true rfl) (ls0 := [(0, _), (1, _)]) rfl hg (fun _ z => z.elim) ?_
  intro Pp Ee Ss Mm Ar Bl Me Cc Z hsH hnm
  have Y := Z.1
  obtain ⟨E0, hE⟩ := hF.now
  refine V_aload_n Y.1 0 dX5_isOnTrip_0 (rfl : _ = 1) rfl rfl ?_
  refine V_iload_n Y.1 1 dX5_isOnTrip_1 (rfl : _ = 2) rfl rfl ?_
  refine V_xV Y (sxV Z (c_X5_requireCard l D kA Hs σ _ hg _ _ _ _ _ _ _ _ _ _ _ _ _ _ x hF hnt) mi_X5_requireCard vi_X5_111 rfl hF.1.1 rfl rfl (Nat.le_of_ble_eq_true rfl) ⟨Nat.le_of_ble_eq_true rfl, Nat.le_of_ble_eq_true rfl⟩ (Nat.le_of_ble_eq_true rfl) (Nat.le_of_ble_eq_true rfl) dX5_isOnTrip_2) (fun _ z => z.elim) (rfl : _ = 5) (fun E_2 H2_2 hx_2 o_2 => ?_) (fun H2_2 hq_2 o_2 => ?_)
  · obtain ⟨rfl, hb9⟩ := hx_2
    exact VX_out Y.1 hnm (Nat.le_of_ble_eq_true rfl) (Nat.le_of_ble_eq_true rfl) ⟨rfl, hb9⟩
  obtain ⟨rfl, hb9⟩ := hq_2
  obtain ⟨i, hi, rfl, hi0⟩ := b_card_i hb9
  have ec : m_c (W (π 0)) (nI i) = (W (π 0)).2.2.2.1 i := by rw [m_c, nI_clamp (by omega)]
  refine V_aload_n Y.1 0 dX5_isOnTrip_5 (rfl : _ = 6) rfl rfl ?_
  refine V_get Y.1 fi_X5_10 hF.1.1 rfl dX5_isOnTrip_6 (rfl : _ = 9) ?_
  refine V_get Y.1 fi_X5_114 hE.1.1 rfl dX5_isOnTrip_9 (rfl : _ = 12) ?_
  refine V_iload_n Y.1 1 dX5_isOnTrip_12 (rfl : _ = 13) rfl rfl ?_
  refine V_aldK Y.1 (v := m_ca (sl a (π 0)) i) hE.1.2.2.1 (by first | assumption | exact vp_in_nI (by omega) (by omega)) (by rw [nI_clamp (by omega)]) dX5_isOnTrip_13 (rfl : _ = 14) ?_
  refine V_get Y.1 fi_X5_127 (hE.1.2.2.2 i hi).1 rfl dX5_isOnTrip_14 (rfl : _ = 17) ?_
  exact V_X (V_ret Y.1 dX5_isOnTrip_17 (nb_z (hok i hi0 hi 2 (by decide))) (Nat.le_of_ble_eq_true rfl) (Nat.le_of_ble_eq_true rfl) ⟨by rw [ec], rfl, hb9⟩)

set_option maxRecDepth 100000 in
set_option maxHeartbeats 4000000 in
theorem c_X5_leftUnderCap (l : Launch) (D : va_G) (kA : Nat → ClassId) (Hs : Heap) (σ : SG) (H0 : Heap) (hg : Ag Hs H0) (a : Nat) (W : Nat → MS) (π : Nat → Nat) (ES : Nat → Prop) (u : Nat) (hs ep fc : Int32) (no : Nat) (go : Nat → Int32) (vs cs ns : Nat) (gs : Nat → Int32) (x : Int32) (d : Nat) (hd : (W (π 0)).1 1 / 1440 = nI d) (hd2 : d < 2 ^ 30) (hF : Fs D kA H0 a W π ES u hs ep fc no go vs cs ns gs) (hnt : l.stackTraces = false)  : CtSX l D kA Hs σ yX5_leftUnderCap cX5_leftUnderCap 2 (some .int) 9 141 4 24 H0 [.ref a, .int x] (nof) (pI fun v9 H => v9 = k_left (m_c (W (π 0)) x) d ∧ H = H0 ∧ ¬ b_card (W (π 0)) x = 0) (fun E H => (E = "java/lang/IndexOutOfBoundsException" ∧ b_card (W (π 0)) x = 0)) := by
  refine CtSX.of mi_X5_leftUnderCap (by decide +kernel) (Nat.le_of_ble_eq_true rfl) (ls0 := [(0, _), (1, _)]) rfl hg (fun _ z => z.elim) ?_
  intro Pp Ee Ss Mm Ar Bl Me Cc Z hsH hnm
  have Y := Z.1
  obtain ⟨E0, hE⟩ := hF.now
  refine V_aload_n Y.1 0 dX5_leftUnderCap_0 (rfl : _ = 1) rfl rfl ?_
  refine V_iload_n Y.1 1 dX5_leftUnderCap_1 (rfl : _ = 2) rfl rfl ?_
  refine V_xV Y (sxV Z (c_X5_requireCard l D kA Hs σ _ hg _ _ _ _ _ _ _ _ _ _ _ _ _ _ x hF hnt) mi_X5_requireCard vi_X5_111 rfl hF.1.1 rfl rfl (Nat.le_of_ble_eq_true rfl) ⟨Nat.le_of_ble_eq_true rfl, Nat.le_of_ble_eq_true rfl⟩ (Nat.le_of_ble_eq_true rfl) (Nat.le_of_ble_eq_true rfl) dX5_leftUnderCap_2) (fun _ z => z.elim) (rfl : _ = 5) (fun E_2 H2_2 hx_2 o_2 => ?_) (fun H2_2 hq_2 o_2 => ?_)
  · obtain ⟨rfl, hb9⟩ := hx_2
    exact VX_out Y.1 hnm (Nat.le_of_ble_eq_true rfl) (Nat.le_of_ble_eq_true rfl) ⟨rfl, hb9⟩
  obtain ⟨rfl, hb9⟩ := hq_2
  obtain ⟨i, hi, rfl, hi0⟩ := b_card_i hb9
  have ec : m_c (W (π 0)) (nI i) = (W (π 0)).2.2.2.1 i := by rw [m_c, nI_clamp (by omega)]
  refine V_aload_n Y.1 0 dX5_leftUnderCap_5 (rfl : _ = 6) rfl rfl ?_
  refine V_get Y.1 fi_X5_10 hF.1.1 rfl dX5_leftUnderCap_6 (rfl : _ = 9) ?_
  refine V_get Y.1 fi_X5_114 hE.1.1 rfl dX5_leftUnderCap_9 (rfl : _ = 12) ?_
  refine V_iload_n Y.1 1 dX5_leftUnderCap_12 (rfl : _ = 13) rfl rfl ?_
  refine V_aldK Y.1 (v := m_ca (sl a (π 0)) i) hE.1.2.2.1 (by first | assumption | exact vp_in_nI (by omega) (by omega)) (by rw [nI_clamp (by omega)]) dX5_leftUnderCap_13 (rfl : _ = 14) ?_
  refine V_aload_n Y.1 0 dX5_leftUnderCap_14 (rfl : _ = 15) rfl rfl ?_
  refine V_get Y.1 fi_X5_10 hF.1.1 rfl dX5_leftUnderCap_15 (rfl : _ = 18) ?_
  refine V_cP Y (rV Y (c_X3_presentDay l D kA _ _ _ ES hF.now) mi_X3_presentDay vi_X5_57 rfl hE.1.1 rfl rfl (Nat.le_of_ble_eq_true rfl) ⟨Nat.le_of_ble_eq_true rfl, Nat.le_of_ble_eq_true rfl⟩ (Nat.le_of_ble_eq_true rfl) (Nat.le_of_ble_eq_true rfl) dX5_leftUnderCap_18) (rfl : _ = 21) ?_
  refine V_nm (v := nI d) hd ?_
  refine V_cP Y (rV Y (c_X0_leftOn l D kA _ _ _ _ d (by omega) (hE.1.2.2.2 i hi)) mi_X0_leftOn vi_X5_159 rfl (hE.1.2.2.2 i hi).1 rfl rfl (Nat.le_of_ble_eq_true rfl) ⟨Nat.le_of_ble_eq_true rfl, Nat.le_of_ble_eq_true rfl⟩ (Nat.le_of_ble_eq_true rfl) (Nat.le_of_ble_eq_true rfl) dX5_leftUnderCap_21) (rfl : _ = 24) ?_
  exact V_X (V_ret Y.1 dX5_leftUnderCap_24 rfl (Nat.le_of_ble_eq_true rfl) (Nat.le_of_ble_eq_true rfl) ⟨by rw [ec], rfl, hb9⟩)

set_option maxRecDepth 100000 in
set_option maxHeartbeats 4000000 in
theorem c_X5_isRepairable (l : Launch) (D : va_G) (kA : Nat → ClassId) (Hs : Heap) (σ : SG) (H0 : Heap) (hg : Ag Hs H0) (a : Nat) (W : Nat → MS) (π : Nat → Nat) (ES : Nat → Prop) (u : Nat) (hs ep fc : Int32) (no : Nat) (go : Nat → Int32) (vs cs ns : Nat) (gs : Nat → Int32) (x : Int32)  (hF : Fs D kA H0 a W π ES u hs ep fc no go vs cs ns gs) (hnt : l.stackTraces = false)  : CtSX l D kA Hs σ yX5_isRepairable cX5_isRepairable 2 (some .boolean) 9 141 4 24 H0 [.ref a, .int x] (nof) (pI fun v9 H => v9 = (if (m_c (W (π 0)) x).1 10 = 0 then 0 else m_rep (W (π 0)) x) ∧ H = H0 ∧ ¬ b_card (W (π 0)) x = 0) (fun E H => (E = "java/lang/IndexOutOfBoundsException" ∧ b_card (W (π 0)) x = 0)) := by
  refine CtSX.of mi_X5_isRepairable (by decide +kernel) (Nat.le_of_ble_eq_true rfl) (ls0 := [(0, _), (1, _)]) rfl hg (fun _ z => z.elim) ?_
  intro Pp Ee Ss Mm Ar Bl Me Cc Z hsH hnm
  have Y := Z.1
  obtain ⟨E0, hE⟩ := hF.now
  refine V_aload_n Y.1 0 dX5_isRepairable_0 (rfl : _ = 1) rfl rfl ?_
  refine V_iload_n Y.1 1 dX5_isRepairable_1 (rfl : _ = 2) rfl rfl ?_
  refine V_xV Y (sxV Z (c_X5_requireCard l D kA Hs σ _ hg _ _ _ _ _ _ _ _ _ _ _ _ _ _ x hF hnt) mi_X5_requireCard vi_X5_111 rfl hF.1.1 rfl rfl (Nat.le_of_ble_eq_true rfl) ⟨Nat.le_of_ble_eq_true rfl, Nat.le_of_ble_eq_true rfl⟩ (Nat.le_of_ble_eq_true rfl) (Nat.le_of_ble_eq_true rfl) dX5_isRepairable_2) (fun _ z => z.elim) (rfl : _ = 5) (fun E_2 H2_2 hx_2 o_2 => ?_) (fun H2_2 hq_2 o_2 => ?_)
  · obtain ⟨rfl, hb9⟩ := hx_2
    exact VX_out Y.1 hnm (Nat.le_of_ble_eq_true rfl) (Nat.le_of_ble_eq_true rfl) ⟨rfl, hb9⟩
  obtain ⟨rfl, hb9⟩ := hq_2
  obtain ⟨i, hi, rfl, hi0⟩ := b_card_i hb9
  have ec : m_c (W (π 0)) (nI i) = (W (π 0)).2.2.2.1 i := by rw [m_c, nI_clamp (by omega)]
  refine V_aload_n Y.1 0 dX5_isRepairable_5 (rfl : _ = 6) rfl rfl ?_
  refine V_get Y.1 fi_X5_10 hF.1.1 rfl dX5_isRepairable_6 (rfl : _ = 9) ?_
  refine V_get Y.1 fi_X5_114 hE.1.1 rfl dX5_isRepairable_9 (rfl : _ = 12) ?_
  refine V_iload_n Y.1 1 dX5_isRepairable_12 (rfl : _ = 13) rfl rfl ?_
  refine V_aldK Y.1 (v := m_ca (sl a (π 0)) i) hE.1.2.2.1 (by first | assumption | exact vp_in_nI (by omega) (by omega)) (by rw [nI_clamp (by omega)]) dX5_isRepairable_13 (rfl : _ = 14) ?_
  refine V_get Y.1 fi_X5_162 (hE.1.2.2.2 i hi).1 rfl dX5_isRepairable_14 (rfl : _ = 17) ?_
  refine V_if_eq Y.1 (tgt := 35) dX5_isRepairable_17 (by decide) (rfl : _ = 20) (fun c_17 => ?_) (fun c_17 => ?_)
  · refine V_iconst Y.1 (v := 0) dX5_isRepairable_35 (rfl : _ = 36) (by decide) ?_
    exact V_X (V_ret Y.1 dX5_isRepairable_36 rfl (Nat.le_of_ble_eq_true rfl) (Nat.le_of_ble_eq_true rfl) ⟨by rw [ec]; first | (simp [*]; done) | (simp [*]; exact (m_rep_1 ‹_›).symm), rfl, hb9⟩)
  · refine V_aload_n Y.1 0 dX5_isRepairable_20 (rfl : _ = 21) rfl rfl ?_
    refine V_get Y.1 fi_X5_10 hF.1.1 rfl dX5_isRepairable_21 (rfl : _ = 24) ?_
    refine V_iload_n Y.1 1 dX5_isRepairable_24 (rfl : _ = 25) rfl rfl ?_
    refine V_cP Y (rV Y (c_X3_isInTimeToRepair l D kA _ _ _ ES (nI i) hF.now (vp_in_nI hi (by decide))) mi_X3_isInTimeToRepair vi_X5_165 rfl hE.1.1 rfl rfl (Nat.le_of_ble_eq_true rfl) ⟨Nat.le_of_ble_eq_true rfl, Nat.le_of_ble_eq_true rfl⟩ (Nat.le_of_ble_eq_true rfl) (Nat.le_of_ble_eq_true rfl) dX5_isRepairable_25) (rfl : _ = 28) ?_
    refine V_if_eq Y.1 (tgt := 35) dX5_isRepairable_28 (by decide) (rfl : _ = 31) (fun c_28 => ?_) (fun c_28 => ?_)
    · refine V_iconst Y.1 (v := 0) dX5_isRepairable_35 (rfl : _ = 36) (by decide) ?_
      exact V_X (V_ret Y.1 dX5_isRepairable_36 rfl (Nat.le_of_ble_eq_true rfl) (Nat.le_of_ble_eq_true rfl) ⟨by rw [ec]; first | (simp [*]; done) | (simp [*]; exact (m_rep_1 ‹_›).symm), rfl, hb9⟩)
    · refine V_iconst Y.1 (v := 1) dX5_isRepairable_31 (rfl : _ = 32) (by decide) ?_
      refine V_goto Y.1 (tgt := 36) dX5_isRepairable_32 (by decide) ?_
      exact V_X (V_ret Y.1 dX5_isRepairable_36 rfl (Nat.le_of_ble_eq_true rfl) (Nat.le_of_ble_eq_true rfl) ⟨by rw [ec]; first | (simp [*]; done) | (simp [*]; exact (m_rep_1 ‹_›).symm), rfl, hb9⟩)

set_option maxRecDepth 100000 in
set_option maxHeartbeats 4000000 in
theorem c_X5_tripStart (l : Launch) (D : va_G) (kA : Nat → ClassId) (Hs : Heap) (σ : SG) (H0 : Heap) (hg : Ag Hs H0) (a : Nat) (W : Nat → MS) (π : Nat → Nat) (ES : Nat → Prop) (u : Nat) (hs ep fc : Int32) (no : Nat) (go : Nat → Int32) (vs cs ns : Nat) (gs : Nat → Int32) (x : Int32)  (hF : Fs D kA H0 a W π ES u hs ep fc no go vs cs ns gs) (hnt : l.stackTraces = false)  : CtSX l D kA Hs σ yX5_tripStart cX5_tripStart 2 (some .int) 10 162 4 24 H0 [.ref a, .int x] (nof) (pI fun v9 H => v9 = (m_c (W (π 0)) x).1 3 ∧ H = H0 ∧ ¬ b_card (W (π 0)) x = 0 ∧ ¬ (m_c (W (π 0)) x).1 2 = 0) (fun E H => (E = "java/lang/IndexOutOfBoundsException" ∧ b_card (W (π 0)) x = 0) ∨ (E = "java/util/NoSuchElementException" ∧ ¬ b_card (W (π 0)) x = 0 ∧ (m_c (W (π 0)) x).1 2 = 0)) := by
  refine CtSX.of mi_X5_tripStart (by decide +kernel) (Nat.le_of_ble_eq_true rfl) (ls0 := [(0, _), (1, _)]) rfl hg (fun _ z => z.elim) ?_
  intro Pp Ee Ss Mm Ar Bl Me Cc Z hsH hnm
  have Y := Z.1
  obtain ⟨E0, hE⟩ := hF.now
  refine V_aload_n Y.1 0 dX5_tripStart_0 (rfl : _ = 1) rfl rfl ?_
  refine V_iload_n Y.1 1 dX5_tripStart_1 (rfl : _ = 2) rfl rfl ?_
  refine V_xV Y (sxV Z (c_X5_requireTrip l D kA Hs σ _ hg _ _ _ _ _ _ _ _ _ _ _ _ _ _ x hF hnt) mi_X5_requireTrip vi_X5_130 rfl hF.1.1 rfl rfl (Nat.le_of_ble_eq_true rfl) ⟨Nat.le_of_ble_eq_true rfl, Nat.le_of_ble_eq_true rfl⟩ (Nat.le_of_ble_eq_true rfl) (Nat.le_of_ble_eq_true rfl) dX5_tripStart_2) (fun _ z => z.elim) (rfl : _ = 5) (fun E_2 H2_2 hx_2 o_2 => ?_) (fun H2_2 hq_2 o_2 => ?_)
  · rcases hx_2 with ⟨rfl, hb9⟩ | ⟨rfl, hb9, ht9⟩
    · exact VX_out Y.1 hnm (Nat.le_of_ble_eq_true rfl) (Nat.le_of_ble_eq_true rfl) (Or.inl ⟨rfl, hb9⟩)
    · exact VX_out Y.1 hnm (Nat.le_of_ble_eq_true rfl) (Nat.le_of_ble_eq_true rfl) (Or.inr ⟨rfl, hb9, ht9⟩)
  obtain ⟨rfl, hb9, ht9⟩ := hq_2
  obtain ⟨i, hi, rfl, hi0⟩ := b_card_i hb9
  have ec : m_c (W (π 0)) (nI i) = (W (π 0)).2.2.2.1 i := by rw [m_c, nI_clamp (by omega)]
  refine V_aload_n Y.1 0 dX5_tripStart_5 (rfl : _ = 6) rfl rfl ?_
  refine V_get Y.1 fi_X5_10 hF.1.1 rfl dX5_tripStart_6 (rfl : _ = 9) ?_
  refine V_get Y.1 fi_X5_114 hE.1.1 rfl dX5_tripStart_9 (rfl : _ = 12) ?_
  refine V_iload_n Y.1 1 dX5_tripStart_12 (rfl : _ = 13) rfl rfl ?_
  refine V_aldK Y.1 (v := m_ca (sl a (π 0)) i) hE.1.2.2.1 (by first | assumption | exact vp_in_nI (by omega) (by omega)) (by rw [nI_clamp (by omega)]) dX5_tripStart_13 (rfl : _ = 14) ?_
  refine V_get Y.1 fi_X5_133 (hE.1.2.2.2 i hi).1 rfl dX5_tripStart_14 (rfl : _ = 17) ?_
  exact V_X (V_ret Y.1 dX5_tripStart_17 rfl (Nat.le_of_ble_eq_true rfl) (Nat.le_of_ble_eq_true rfl) ⟨by rw [ec], rfl, hb9, ht9⟩)

set_option maxRecDepth 100000 in
set_option maxHeartbeats 4000000 in
theorem c_X5_journeyStart (l : Launch) (D : va_G) (kA : Nat → ClassId) (Hs : Heap) (σ : SG) (H0 : Heap) (hg : Ag Hs H0) (a : Nat) (W : Nat → MS) (π : Nat → Nat) (ES : Nat → Prop) (u : Nat) (hs ep fc : Int32) (no : Nat) (go : Nat → Int32) (vs cs ns : Nat) (gs : Nat → Int32) (x : Int32)  (hF : Fs D kA H0 a W π ES u hs ep fc no go vs cs ns gs) (hnt : l.stackTraces = false)  : CtSX l D kA Hs σ yX5_journeyStart cX5_journeyStart 2 (some .int) 10 162 4 24 H0 [.ref a, .int x] (nof) (pI fun v9 H => v9 = (m_c (W (π 0)) x).1 5 ∧ H = H0 ∧ ¬ b_card (W (π 0)) x = 0 ∧ ¬ (m_c (W (π 0)) x).1 2 = 0) (fun E H => (E = "java/lang/IndexOutOfBoundsException" ∧ b_card (W (π 0)) x = 0) ∨ (E = "java/util/NoSuchElementException" ∧ ¬ b_card (W (π 0)) x = 0 ∧ (m_c (W (π 0)) x).1 2 = 0)) := by
  refine CtSX.of mi_X5_journeyStart (by decide +kernel) (Nat.le_of_ble_eq_true rfl) (ls0 := [(0, _), (1, _)]) rfl hg (fun _ z => z.elim) ?_
  intro Pp Ee Ss Mm Ar Bl Me Cc Z hsH hnm
  have Y := Z.1
  obtain ⟨E0, hE⟩ := hF.now
  refine V_aload_n Y.1 0 dX5_journeyStart_0 (rfl : _ = 1) rfl rfl ?_
  refine V_iload_n Y.1 1 dX5_journeyStart_1 (rfl : _ = 2) rfl rfl ?_
  refine V_xV Y (sxV Z (c_X5_requireTrip l D kA Hs σ _ hg _ _ _ _ _ _ _ _ _ _ _ _ _ _ x hF hnt) mi_X5_requireTrip vi_X5_130 rfl hF.1.1 rfl rfl (Nat.le_of_ble_eq_true rfl) ⟨Nat.le_of_ble_eq_true rfl, Nat.le_of_ble_eq_true rfl⟩ (Nat.le_of_ble_eq_true rfl) (Nat.le_of_ble_eq_true rfl) dX5_journeyStart_2) (fun _ z => z.elim) (rfl : _ = 5) (fun E_2 H2_2 hx_2 o_2 => ?_) (fun H2_2 hq_2 o_2 => ?_)
  · rcases hx_2 with ⟨rfl, hb9⟩ | ⟨rfl, hb9, ht9⟩
    · exact VX_out Y.1 hnm (Nat.le_of_ble_eq_true rfl) (Nat.le_of_ble_eq_true rfl) (Or.inl ⟨rfl, hb9⟩)
    · exact VX_out Y.1 hnm (Nat.le_of_ble_eq_true rfl) (Nat.le_of_ble_eq_true rfl) (Or.inr ⟨rfl, hb9, ht9⟩)
  obtain ⟨rfl, hb9, ht9⟩ := hq_2
  obtain ⟨i, hi, rfl, hi0⟩ := b_card_i hb9
  have ec : m_c (W (π 0)) (nI i) = (W (π 0)).2.2.2.1 i := by rw [m_c, nI_clamp (by omega)]
  refine V_aload_n Y.1 0 dX5_journeyStart_5 (rfl : _ = 6) rfl rfl ?_
  refine V_get Y.1 fi_X5_10 hF.1.1 rfl dX5_journeyStart_6 (rfl : _ = 9) ?_
  refine V_get Y.1 fi_X5_114 hE.1.1 rfl dX5_journeyStart_9 (rfl : _ = 12) ?_
  refine V_iload_n Y.1 1 dX5_journeyStart_12 (rfl : _ = 13) rfl rfl ?_
  refine V_aldK Y.1 (v := m_ca (sl a (π 0)) i) hE.1.2.2.1 (by first | assumption | exact vp_in_nI (by omega) (by omega)) (by rw [nI_clamp (by omega)]) dX5_journeyStart_13 (rfl : _ = 14) ?_
  refine V_get Y.1 fi_X5_136 (hE.1.2.2.2 i hi).1 rfl dX5_journeyStart_14 (rfl : _ = 17) ?_
  exact V_X (V_ret Y.1 dX5_journeyStart_17 rfl (Nat.le_of_ble_eq_true rfl) (Nat.le_of_ble_eq_true rfl) ⟨by rw [ec], rfl, hb9, ht9⟩)

set_option maxRecDepth 100000 in
set_option maxHeartbeats 4000000 in
theorem c_X5_minutesLeft (l : Launch) (D : va_G) (kA : Nat → ClassId) (Hs : Heap) (σ : SG) (H0 : Heap) (hg : Ag Hs H0) (a : Nat) (W : Nat → MS) (π : Nat → Nat) (ES : Nat → Prop) (u : Nat) (hs ep fc : Int32) (no : Nat) (go : Nat → Int32) (vs cs ns : Nat) (gs : Nat → Int32) (x : Int32)  (hF : Fs D kA H0 a W π ES u hs ep fc no go vs cs ns gs) (hnt : l.stackTraces = false)  : CtSX l D kA Hs σ yX5_minutesLeft cX5_minutesLeft 2 (some .int) 10 162 4 24 H0 [.ref a, .int x] (nof) (pI fun v9 H => v9 = (m_c (W (π 0)) x).1 4 + 180 - (W (π 0)).1 1 ∧ H = H0 ∧ ¬ b_card (W (π 0)) x = 0 ∧ ¬ (m_c (W (π 0)) x).1 2 = 0) (fun E H => (E = "java/lang/IndexOutOfBoundsException" ∧ b_card (W (π 0)) x = 0) ∨ (E = "java/util/NoSuchElementException" ∧ ¬ b_card (W (π 0)) x = 0 ∧ (m_c (W (π 0)) x).1 2 = 0)) := by
  refine CtSX.of mi_X5_minutesLeft (by decide +kernel) (Nat.le_of_ble_eq_true rfl) (ls0 := [(0, _), (1, _)]) rfl hg (fun _ z => z.elim) ?_
  intro Pp Ee Ss Mm Ar Bl Me Cc Z hsH hnm
  have Y := Z.1
  obtain ⟨E0, hE⟩ := hF.now
  refine V_aload_n Y.1 0 dX5_minutesLeft_0 (rfl : _ = 1) rfl rfl ?_
  refine V_iload_n Y.1 1 dX5_minutesLeft_1 (rfl : _ = 2) rfl rfl ?_
  refine V_xV Y (sxV Z (c_X5_requireTrip l D kA Hs σ _ hg _ _ _ _ _ _ _ _ _ _ _ _ _ _ x hF hnt) mi_X5_requireTrip vi_X5_130 rfl hF.1.1 rfl rfl (Nat.le_of_ble_eq_true rfl) ⟨Nat.le_of_ble_eq_true rfl, Nat.le_of_ble_eq_true rfl⟩ (Nat.le_of_ble_eq_true rfl) (Nat.le_of_ble_eq_true rfl) dX5_minutesLeft_2) (fun _ z => z.elim) (rfl : _ = 5) (fun E_2 H2_2 hx_2 o_2 => ?_) (fun H2_2 hq_2 o_2 => ?_)
  · rcases hx_2 with ⟨rfl, hb9⟩ | ⟨rfl, hb9, ht9⟩
    · exact VX_out Y.1 hnm (Nat.le_of_ble_eq_true rfl) (Nat.le_of_ble_eq_true rfl) (Or.inl ⟨rfl, hb9⟩)
    · exact VX_out Y.1 hnm (Nat.le_of_ble_eq_true rfl) (Nat.le_of_ble_eq_true rfl) (Or.inr ⟨rfl, hb9, ht9⟩)
  obtain ⟨rfl, hb9, ht9⟩ := hq_2
  obtain ⟨i, hi, rfl, hi0⟩ := b_card_i hb9
  have ec : m_c (W (π 0)) (nI i) = (W (π 0)).2.2.2.1 i := by rw [m_c, nI_clamp (by omega)]
  refine V_aload_n Y.1 0 dX5_minutesLeft_5 (rfl : _ = 6) rfl rfl ?_
  refine V_get Y.1 fi_X5_10 hF.1.1 rfl dX5_minutesLeft_6 (rfl : _ = 9) ?_
  refine V_get Y.1 fi_X5_114 hE.1.1 rfl dX5_minutesLeft_9 (rfl : _ = 12) ?_
  refine V_iload_n Y.1 1 dX5_minutesLeft_12 (rfl : _ = 13) rfl rfl ?_
  refine V_aldK Y.1 (v := m_ca (sl a (π 0)) i) hE.1.2.2.1 (by first | assumption | exact vp_in_nI (by omega) (by omega)) (by rw [nI_clamp (by omega)]) dX5_minutesLeft_13 (rfl : _ = 14) ?_
  refine V_cP Y (rV Y (c_X0_tripEnd l D kA _ _ _ _ (hE.1.2.2.2 i hi)) mi_X0_tripEnd vi_X5_139 rfl (hE.1.2.2.2 i hi).1 rfl rfl (Nat.le_of_ble_eq_true rfl) ⟨Nat.le_of_ble_eq_true rfl, Nat.le_of_ble_eq_true rfl⟩ (Nat.le_of_ble_eq_true rfl) (Nat.le_of_ble_eq_true rfl) dX5_minutesLeft_14) (rfl : _ = 17) ?_
  refine V_aload_n Y.1 0 dX5_minutesLeft_17 (rfl : _ = 18) rfl rfl ?_
  refine V_get Y.1 fi_X5_10 hF.1.1 rfl dX5_minutesLeft_18 (rfl : _ = 21) ?_
  refine V_get Y.1 fi_X5_54 hE.1.1 rfl dX5_minutesLeft_21 (rfl : _ = 24) ?_
  refine V_isub Y.1 dX5_minutesLeft_24 (rfl : _ = 25) ?_
  exact V_X (V_ret Y.1 dX5_minutesLeft_25 rfl (Nat.le_of_ble_eq_true rfl) (Nat.le_of_ble_eq_true rfl) ⟨by rw [ec], rfl, hb9, ht9⟩)

set_option maxRecDepth 100000 in
set_option maxHeartbeats 4000000 in
theorem c_X5_wouldContinue (l : Launch) (D : va_G) (kA : Nat → ClassId) (Hs : Heap) (σ : SG) (H0 : Heap) (hg : Ag Hs H0) (a : Nat) (W : Nat → MS) (π : Nat → Nat) (ES : Nat → Prop) (u : Nat) (hs ep fc : Int32) (no : Nat) (go : Nat → Int32) (vs cs ns : Nat) (gs : Nat → Int32) (x y : Int32) (hF : Fs D kA H0 a W π ES u hs ep fc no go vs cs ns gs) (hnt : l.stackTraces = false)  : CtSX l D kA Hs σ yX5_wouldContinue cX5_wouldContinue 3 (some .boolean) 9 141 4 24 H0 [.ref a, .int x, .int y] (nof) (pI fun v9 H => v9 = k_cont (m_c (W (π 0)) x) y ((W (π 0)).1 1) ∧ H = H0 ∧ ¬ b_card (W (π 0)) x = 0 ∧ ¬ b_st y = 0) (fun E H => (E = "java/lang/IndexOutOfBoundsException" ∧ (b_card (W (π 0)) x = 0 ∨ b_st y = 0))) := by
  refine CtSX.of mi_X5_wouldContinue (by decide +kernel) (Nat.le_of_ble_eq_true rfl) (ls0 := [(0, _), (1, _), (2, _)]) rfl hg (fun _ z => z.elim) ?_
  intro Pp Ee Ss Mm Ar Bl Me Cc Z hsH hnm
  have Y := Z.1
  obtain ⟨E0, hE⟩ := hF.now
  refine V_aload_n Y.1 0 dX5_wouldContinue_0 (rfl : _ = 1) rfl rfl ?_
  refine V_iload_n Y.1 1 dX5_wouldContinue_1 (rfl : _ = 2) rfl rfl ?_
  refine V_xV Y (sxV Z (c_X5_requireCard l D kA Hs σ _ hg _ _ _ _ _ _ _ _ _ _ _ _ _ _ x hF hnt) mi_X5_requireCard vi_X5_111 rfl hF.1.1 rfl rfl (Nat.le_of_ble_eq_true rfl) ⟨Nat.le_of_ble_eq_true rfl, Nat.le_of_ble_eq_true rfl⟩ (Nat.le_of_ble_eq_true rfl) (Nat.le_of_ble_eq_true rfl) dX5_wouldContinue_2) (fun _ z => z.elim) (rfl : _ = 5) (fun E_2 H2_2 hx_2 o_2 => ?_) (fun H2_2 hq_2 o_2 => ?_)
  · obtain ⟨rfl, hb9⟩ := hx_2
    exact VX_out Y.1 hnm (Nat.le_of_ble_eq_true rfl) (Nat.le_of_ble_eq_true rfl) (show _ ∧ _ from ⟨rfl, Or.inl hb9⟩)
  obtain ⟨rfl, hb9⟩ := hq_2
  obtain ⟨i, hi, rfl, hi0⟩ := b_card_i hb9
  have ec : m_c (W (π 0)) (nI i) = (W (π 0)).2.2.2.1 i := by rw [m_c, nI_clamp (by omega)]
  refine V_iload_n Y.1 2 dX5_wouldContinue_5 (rfl : _ = 6) rfl rfl ?_
  refine V_xV Y (sxS Z (c_X5_requireStation l D kA Hs σ _ hg y hnt) mi_X5_requireStation si_X5_61 rfl rfl (Nat.le_of_ble_eq_true rfl) ⟨Nat.le_of_ble_eq_true rfl, Nat.le_of_ble_eq_true rfl⟩ (Nat.le_of_ble_eq_true rfl) (Nat.le_of_ble_eq_true rfl) dX5_wouldContinue_6) (fun _ z => z.elim) (rfl : _ = 9) (fun E_6 H6_8 hx_6 o_6 => ?_) (fun H6_8 hq_6 o_6 => ?_)
  · obtain ⟨rfl, hs9⟩ := hx_6
    exact VX_out Y.1 hnm (Nat.le_of_ble_eq_true rfl) (Nat.le_of_ble_eq_true rfl) (show _ ∧ _ from ⟨rfl, Or.inr hs9⟩)
  obtain ⟨rfl, hsw⟩ := hq_6
  obtain ⟨w, hw, rfl⟩ := b_st_in hsw
  refine V_aload_n Y.1 0 dX5_wouldContinue_9 (rfl : _ = 10) rfl rfl ?_
  refine V_get Y.1 fi_X5_10 hF.1.1 rfl dX5_wouldContinue_10 (rfl : _ = 13) ?_
  refine V_get Y.1 fi_X5_114 hE.1.1 rfl dX5_wouldContinue_13 (rfl : _ = 16) ?_
  refine V_iload_n Y.1 1 dX5_wouldContinue_16 (rfl : _ = 17) rfl rfl ?_
  refine V_aldK Y.1 (v := m_ca (sl a (π 0)) i) hE.1.2.2.1 (by first | assumption | exact vp_in_nI (by omega) (by omega)) (by rw [nI_clamp (by omega)]) dX5_wouldContinue_17 (rfl : _ = 18) ?_
  refine V_iload_n Y.1 2 dX5_wouldContinue_18 (rfl : _ = 19) rfl rfl ?_
  refine V_aload_n Y.1 0 dX5_wouldContinue_19 (rfl : _ = 20) rfl rfl ?_
  refine V_get Y.1 fi_X5_10 hF.1.1 rfl dX5_wouldContinue_20 (rfl : _ = 23) ?_
  refine V_get Y.1 fi_X5_54 hE.1.1 rfl dX5_wouldContinue_23 (rfl : _ = 26) ?_
  refine V_cP Y (rV Y (c_X0_continuesAt l D kA _ _ _ _ (nI w) _ (hE.1.2.2.2 i hi)) mi_X0_continuesAt vi_X5_142 rfl (hE.1.2.2.2 i hi).1 rfl rfl (Nat.le_of_ble_eq_true rfl) ⟨Nat.le_of_ble_eq_true rfl, Nat.le_of_ble_eq_true rfl⟩ (Nat.le_of_ble_eq_true rfl) (Nat.le_of_ble_eq_true rfl) dX5_wouldContinue_26) (rfl : _ = 29) ?_
  exact V_X (V_ret Y.1 dX5_wouldContinue_29 (nb_z (k_cont_01 _ _ _)) (Nat.le_of_ble_eq_true rfl) (Nat.le_of_ble_eq_true rfl) ⟨by rw [ec], rfl, hb9, hsw⟩)

set_option maxRecDepth 100000 in
set_option maxHeartbeats 4000000 in
theorem c_X5_chargeIfTappedOut (l : Launch) (D : va_G) (kA : Nat → ClassId) (Hs : Heap) (σ : SG) (H0 : Heap) (hg : Ag Hs H0) (a : Nat) (W : Nat → MS) (π : Nat → Nat) (ES : Nat → Prop) (u : Nat) (hs ep fc : Int32) (no : Nat) (go : Nat → Int32) (vs cs ns : Nat) (gs : Nat → Int32) (x y : Int32) (d : Nat) (hd : (W (π 0)).1 1 / 1440 = nI d) (hd2 : d < 2 ^ 30) (hF : Fs D kA H0 a W π ES u hs ep fc no go vs cs ns gs) (hnt : l.stackTraces = false) (hj : ∀ i : Nat, i < 8 → nI i < (W (π 0)).1 0 → ¬ ((W (π 0)).2.2.2.1 i).1 2 = 0 → ∃ j, j < 12 ∧ ((W (π 0)).2.2.2.1 i).1 5 = nI j) : CtSX l D kA Hs σ yX5_chargeIfTappedOut cX5_chargeIfTappedOut 3 (some .int) 10 162 4 24 H0 [.ref a, .int x, .int y] (nof) (pI fun v9 H => v9 = k_trip (m_c (W (π 0)) x) (W (π 0)).2.1 ((W (π 0)).1 7) ((W (π 0)).1 8) ((m_c (W (π 0)) x).1 5).toNatClampNeg y.toNatClampNeg d ∧ H = H0 ∧ ¬ b_st y = 0 ∧ ¬ b_card (W (π 0)) x = 0 ∧ ¬ (m_c (W (π 0)) x).1 2 = 0) (fun E H => (E = "java/lang/IndexOutOfBoundsException" ∧ (b_st y = 0 ∨ b_card (W (π 0)) x = 0)) ∨ (E = "java/util/NoSuchElementException" ∧ ¬ b_st y = 0 ∧ ¬ b_card (W (π 0)) x = 0 ∧ (m_c (W (π 0)) x).1 2 = 0)) := by
  refine CtSX.of mi_X5_chargeIfTappedOut (by decide +kernel) (Nat.le_of_ble_eq_true rfl) (ls0 := [(0, _), (1, _), (2, _)]) rfl hg (fun _ z => z.elim) ?_
  intro Pp Ee Ss Mm Ar Bl Me Cc Z hsH hnm
  have Y := Z.1
  obtain ⟨E0, hE⟩ := hF.now
  refine V_iload_n Y.1 2 dX5_chargeIfTappedOut_0 (rfl : _ = 1) rfl rfl ?_
  refine V_xV Y (sxS Z (c_X5_requireStation l D kA Hs σ _ hg y hnt) mi_X5_requireStation si_X5_61 rfl rfl (Nat.le_of_ble_eq_true rfl) ⟨Nat.le_of_ble_eq_true rfl, Nat.le_of_ble_eq_true rfl⟩ (Nat.le_of_ble_eq_true rfl) (Nat.le_of_ble_eq_true rfl) dX5_chargeIfTappedOut_1) (fun _ z => z.elim) (rfl : _ = 4) (fun E_1 H1_1 hx_1 o_1 => ?_) (fun H1_1 hq_1 o_1 => ?_)
  · obtain ⟨rfl, hs9⟩ := hx_1
    exact VX_out Y.1 hnm (Nat.le_of_ble_eq_true rfl) (Nat.le_of_ble_eq_true rfl) (Or.inl ⟨rfl, Or.inl hs9⟩)
  obtain ⟨rfl, hsw⟩ := hq_1
  obtain ⟨w, hw, rfl⟩ := b_st_in hsw
  refine V_aload_n Y.1 0 dX5_chargeIfTappedOut_4 (rfl : _ = 5) rfl rfl ?_
  refine V_iload_n Y.1 1 dX5_chargeIfTappedOut_5 (rfl : _ = 6) rfl rfl ?_
  refine V_xV Y (sxV Z (c_X5_requireTrip l D kA Hs σ _ hg _ _ _ _ _ _ _ _ _ _ _ _ _ _ x hF hnt) mi_X5_requireTrip vi_X5_130 rfl hF.1.1 rfl rfl (Nat.le_of_ble_eq_true rfl) ⟨Nat.le_of_ble_eq_true rfl, Nat.le_of_ble_eq_true rfl⟩ (Nat.le_of_ble_eq_true rfl) (Nat.le_of_ble_eq_true rfl) dX5_chargeIfTappedOut_6) (fun _ z => z.elim) (rfl : _ = 9) (fun E_6 H6_7 hx_6 o_6 => ?_) (fun H6_7 hq_6 o_6 => ?_)
  · rcases hx_6 with ⟨rfl, hb9⟩ | ⟨rfl, hb9, ht9⟩
    · exact VX_out Y.1 hnm (Nat.le_of_ble_eq_true rfl) (Nat.le_of_ble_eq_true rfl) (Or.inl ⟨rfl, Or.inr hb9⟩)
    · exact VX_out Y.1 hnm (Nat.le_of_ble_eq_true rfl) (Nat.le_of_ble_eq_true rfl) (Or.inr ⟨rfl, hsw, hb9, ht9⟩)
  obtain ⟨rfl, hb9, ht9⟩ := hq_6
  obtain ⟨i, hi, rfl, hi0⟩ := b_card_i hb9
  have ec : m_c (W (π 0)) (nI i) = (W (π 0)).2.2.2.1 i := by rw [m_c, nI_clamp (by omega)]
  refine V_aload_n Y.1 0 dX5_chargeIfTappedOut_9 (rfl : _ = 10) rfl rfl ?_
  refine V_get Y.1 fi_X5_10 hF.1.1 rfl dX5_chargeIfTappedOut_10 (rfl : _ = 13) ?_
  refine V_get Y.1 fi_X5_114 hE.1.1 rfl dX5_chargeIfTappedOut_13 (rfl : _ = 16) ?_
  refine V_iload_n Y.1 1 dX5_chargeIfTappedOut_16 (rfl : _ = 17) rfl rfl ?_
  refine V_aldK Y.1 (v := m_ca (sl a (π 0)) i) hE.1.2.2.1 (by first | assumption | exact vp_in_nI (by omega) (by omega)) (by rw [nI_clamp (by omega)]) dX5_chargeIfTappedOut_17 (rfl : _ = 18) ?_
  refine V_aload_n Y.1 0 dX5_chargeIfTappedOut_18 (rfl : _ = 19) rfl rfl ?_
  refine V_get Y.1 fi_X5_10 hF.1.1 rfl dX5_chargeIfTappedOut_19 (rfl : _ = 22) ?_
  refine V_get Y.1 fi_X5_65 hE.1.1 rfl dX5_chargeIfTappedOut_22 (rfl : _ = 25) ?_
  refine V_iload_n Y.1 2 dX5_chargeIfTappedOut_25 (rfl : _ = 26) rfl rfl ?_
  refine V_aload_n Y.1 0 dX5_chargeIfTappedOut_26 (rfl : _ = 27) rfl rfl ?_
  refine V_get Y.1 fi_X5_10 hF.1.1 rfl dX5_chargeIfTappedOut_27 (rfl : _ = 30) ?_
  refine V_cP Y (rV Y (c_X3_presentDay l D kA _ _ _ ES hF.now) mi_X3_presentDay vi_X5_57 rfl hE.1.1 rfl rfl (Nat.le_of_ble_eq_true rfl) ⟨Nat.le_of_ble_eq_true rfl, Nat.le_of_ble_eq_true rfl⟩ (Nat.le_of_ble_eq_true rfl) (Nat.le_of_ble_eq_true rfl) dX5_chargeIfTappedOut_30) (rfl : _ = 33) ?_
  refine V_nm (v := nI d) hd ?_
  obtain ⟨j, hj2, ej⟩ := hj i hi hi0 (by rw [← ec]; exact ht9)
  refine V_cP Y (rV Y (c_X0_tripCharge l D kA _ _ _ _ _ _ _ _ _ j w d (by omega) (hE.1.2.2.2 i hi) hE.1.2.1 ej hj2 hw) mi_X0_tripCharge vi_X5_146 rfl (hE.1.2.2.2 i hi).1 rfl rfl (Nat.le_of_ble_eq_true rfl) ⟨Nat.le_of_ble_eq_true rfl, Nat.le_of_ble_eq_true rfl⟩ (Nat.le_of_ble_eq_true rfl) (Nat.le_of_ble_eq_true rfl) dX5_chargeIfTappedOut_33) (rfl : _ = 36) ?_
  exact V_X (V_ret Y.1 dX5_chargeIfTappedOut_36 rfl (Nat.le_of_ble_eq_true rfl) (Nat.le_of_ble_eq_true rfl) ⟨by rw [ec, ej, nI_clamp (by omega), nI_clamp (by omega)], rfl, hsw, hb9, ht9⟩)

set_option maxRecDepth 100000 in
set_option maxHeartbeats 4000000 in
theorem c_X5_chargedOn (l : Launch) (D : va_G) (kA : Nat → ClassId) (Hs : Heap) (σ : SG) (H0 : Heap) (hg : Ag Hs H0) (a : Nat) (W : Nat → MS) (π : Nat → Nat) (ES : Nat → Prop) (u : Nat) (hs ep fc : Int32) (no : Nat) (go : Nat → Int32) (vs cs ns : Nat) (gs : Nat → Int32) (x y : Int32) (d : Nat) (hd : (W (π 0)).1 1 / 1440 = nI d) (hd2 : d < 2 ^ 30) (hF : Fs D kA H0 a W π ES u hs ep fc no go vs cs ns gs) (hnt : l.stackTraces = false)  : CtSX l D kA Hs σ yX5_chargedOn cX5_chargedOn 3 (some .int) 9 142 4 24 H0 [.ref a, .int x, .int y] (nof) (pI fun v9 H => v9 = k_sumOf (m_c (W (π 0)) x) y.toNatClampNeg ∧ H = H0 ∧ ¬ b_card (W (π 0)) x = 0 ∧ ¬ (y < 0 ∨ nI d < y ∨ ¬ nI d - 2 ≤ y)) (fun E H => (E = "java/lang/IndexOutOfBoundsException" ∧ b_card (W (π 0)) x = 0) ∨ (E = "java/lang/IllegalArgumentException" ∧ ¬ b_card (W (π 0)) x = 0 ∧ (y < 0 ∨ nI d < y ∨ ¬ nI d - 2 ≤ y))) := by
  refine CtSX.of mi_X5_chargedOn (by decide +kernel) (Nat.le_of_ble_eq_true rfl) (ls0 := [(0, _), (1, _), (2, _)]) rfl hg (fun _ z => z.elim) ?_
  intro Pp Ee Ss Mm Ar Bl Me Cc Z hsH hnm
  have Y := Z.1
  obtain ⟨E0, hE⟩ := hF.now
  refine V_aload_n Y.1 0 dX5_chargedOn_0 (rfl : _ = 1) rfl rfl ?_
  refine V_iload_n Y.1 1 dX5_chargedOn_1 (rfl : _ = 2) rfl rfl ?_
  refine V_xV Y (sxV Z (c_X5_requireCard l D kA Hs σ _ hg _ _ _ _ _ _ _ _ _ _ _ _ _ _ x hF hnt) mi_X5_requireCard vi_X5_111 rfl hF.1.1 rfl rfl (Nat.le_of_ble_eq_true rfl) ⟨Nat.le_of_ble_eq_true rfl, Nat.le_of_ble_eq_true rfl⟩ (Nat.le_of_ble_eq_true rfl) (Nat.le_of_ble_eq_true rfl) dX5_chargedOn_2) (fun _ z => z.elim) (rfl : _ = 5) (fun E_2 H2_2 hx_2 o_2 => ?_) (fun H2_2 hq_2 o_2 => ?_)
  · obtain ⟨rfl, hb9⟩ := hx_2
    exact VX_out Y.1 hnm (Nat.le_of_ble_eq_true rfl) (Nat.le_of_ble_eq_true rfl) (Or.inl ⟨rfl, hb9⟩)
  obtain ⟨rfl, hb9⟩ := hq_2
  obtain ⟨i, hi, rfl, hi0⟩ := b_card_i hb9
  have ec : m_c (W (π 0)) (nI i) = (W (π 0)).2.2.2.1 i := by rw [m_c, nI_clamp (by omega)]
  refine V_aload_n Y.1 0 dX5_chargedOn_5 (rfl : _ = 6) rfl rfl ?_
  refine V_iload_n Y.1 2 dX5_chargedOn_6 (rfl : _ = 7) rfl rfl ?_
  refine V_xV Y (sxV Z (c_X5_requireRecentDay l D kA Hs σ _ hg _ _ _ _ _ _ _ _ _ _ _ _ _ _ y d hd hd2 hF hnt) mi_X5_requireRecentDay vi_X5_150 rfl hF.1.1 rfl rfl (Nat.le_of_ble_eq_true rfl) ⟨Nat.le_of_ble_eq_true rfl, Nat.le_of_ble_eq_true rfl⟩ (Nat.le_of_ble_eq_true rfl) (Nat.le_of_ble_eq_true rfl) dX5_chargedOn_7) (fun _ z => z.elim) (rfl : _ = 10) (fun E_7 H7_9 hx_7 o_7 => ?_) (fun H7_9 hq_7 o_7 => ?_)
  · obtain ⟨rfl, hr9⟩ := hx_7
    exact VX_out Y.1 hnm (Nat.le_of_ble_eq_true rfl) (Nat.le_of_ble_eq_true rfl) (Or.inr ⟨rfl, hb9, hr9⟩)
  obtain ⟨rfl, hr9⟩ := hq_7
  obtain ⟨z, hz, rfl⟩ := nI_of (fun q => hr9 (Or.inl q))
  refine V_aload_n Y.1 0 dX5_chargedOn_10 (rfl : _ = 11) rfl rfl ?_
  refine V_get Y.1 fi_X5_10 hF.1.1 rfl dX5_chargedOn_11 (rfl : _ = 14) ?_
  refine V_get Y.1 fi_X5_114 hE.1.1 rfl dX5_chargedOn_14 (rfl : _ = 17) ?_
  refine V_iload_n Y.1 1 dX5_chargedOn_17 (rfl : _ = 18) rfl rfl ?_
  refine V_aldK Y.1 (v := m_ca (sl a (π 0)) i) hE.1.2.2.1 (by first | assumption | exact vp_in_nI (by omega) (by omega)) (by rw [nI_clamp (by omega)]) dX5_chargedOn_18 (rfl : _ = 19) ?_
  refine V_iload_n Y.1 2 dX5_chargedOn_19 (rfl : _ = 20) rfl rfl ?_
  refine V_cP Y (rV Y (c_X0_sumOf l D kA _ _ _ _ z hz (hE.1.2.2.2 i hi)) mi_X0_sumOf vi_X5_153 rfl (hE.1.2.2.2 i hi).1 rfl rfl (Nat.le_of_ble_eq_true rfl) ⟨Nat.le_of_ble_eq_true rfl, Nat.le_of_ble_eq_true rfl⟩ (Nat.le_of_ble_eq_true rfl) (Nat.le_of_ble_eq_true rfl) dX5_chargedOn_20) (rfl : _ = 23) ?_
  exact V_X (V_ret Y.1 dX5_chargedOn_23 rfl (Nat.le_of_ble_eq_true rfl) (Nat.le_of_ble_eq_true rfl) ⟨by rw [ec, nI_clamp hz], rfl, hb9, hr9⟩)

set_option maxRecDepth 100000 in
set_option maxHeartbeats 4000000 in
theorem c_X5_chargedOnByRecords (l : Launch) (D : va_G) (kA : Nat → ClassId) (Hs : Heap) (σ : SG) (H0 : Heap) (hg : Ag Hs H0) (a : Nat) (W : Nat → MS) (π : Nat → Nat) (ES : Nat → Prop) (u : Nat) (hs ep fc : Int32) (no : Nat) (go : Nat → Int32) (vs cs ns : Nat) (gs : Nat → Int32) (x y : Int32) (d : Nat) (hd : (W (π 0)).1 1 / 1440 = nI d) (hd2 : d < 2 ^ 30) (hF : Fs D kA H0 a W π ES u hs ep fc no go vs cs ns gs) (hnt : l.stackTraces = false)  : CtSX l D kA Hs σ yX5_chargedOnByRecords cX5_chargedOnByRecords 3 (some .int) 9 142 4 24 H0 [.ref a, .int x, .int y] (nof) (pI fun v9 H => v9 = k_recs y ((W (π 0)).2.2.2.2 x.toNatClampNeg) 0 ∧ H = H0 ∧ ¬ b_card (W (π 0)) x = 0 ∧ ¬ (y < 0 ∨ nI d < y ∨ ¬ nI d - 2 ≤ y)) (fun E H => (E = "java/lang/IndexOutOfBoundsException" ∧ b_card (W (π 0)) x = 0) ∨ (E = "java/lang/IllegalArgumentException" ∧ ¬ b_card (W (π 0)) x = 0 ∧ (y < 0 ∨ nI d < y ∨ ¬ nI d - 2 ≤ y))) := by
  refine CtSX.of mi_X5_chargedOnByRecords (by decide +kernel) (Nat.le_of_ble_eq_true rfl) (ls0 := [(0, _), (1, _), (2, _)]) rfl hg (fun _ z => z.elim) ?_
  intro Pp Ee Ss Mm Ar Bl Me Cc Z hsH hnm
  have Y := Z.1
  obtain ⟨E0, hE⟩ := hF.now
  refine V_aload_n Y.1 0 dX5_chargedOnByRecords_0 (rfl : _ = 1) rfl rfl ?_
  refine V_iload_n Y.1 1 dX5_chargedOnByRecords_1 (rfl : _ = 2) rfl rfl ?_
  refine V_xV Y (sxV Z (c_X5_requireCard l D kA Hs σ _ hg _ _ _ _ _ _ _ _ _ _ _ _ _ _ x hF hnt) mi_X5_requireCard vi_X5_111 rfl hF.1.1 rfl rfl (Nat.le_of_ble_eq_true rfl) ⟨Nat.le_of_ble_eq_true rfl, Nat.le_of_ble_eq_true rfl⟩ (Nat.le_of_ble_eq_true rfl) (Nat.le_of_ble_eq_true rfl) dX5_chargedOnByRecords_2) (fun _ z => z.elim) (rfl : _ = 5) (fun E_2 H2_2 hx_2 o_2 => ?_) (fun H2_2 hq_2 o_2 => ?_)
  · obtain ⟨rfl, hb9⟩ := hx_2
    exact VX_out Y.1 hnm (Nat.le_of_ble_eq_true rfl) (Nat.le_of_ble_eq_true rfl) (Or.inl ⟨rfl, hb9⟩)
  obtain ⟨rfl, hb9⟩ := hq_2
  obtain ⟨i, hi, rfl, hi0⟩ := b_card_i hb9
  have ec : m_c (W (π 0)) (nI i) = (W (π 0)).2.2.2.1 i := by rw [m_c, nI_clamp (by omega)]
  refine V_aload_n Y.1 0 dX5_chargedOnByRecords_5 (rfl : _ = 6) rfl rfl ?_
  refine V_iload_n Y.1 2 dX5_chargedOnByRecords_6 (rfl : _ = 7) rfl rfl ?_
  refine V_xV Y (sxV Z (c_X5_requireRecentDay l D kA Hs σ _ hg _ _ _ _ _ _ _ _ _ _ _ _ _ _ y d hd hd2 hF hnt) mi_X5_requireRecentDay vi_X5_150 rfl hF.1.1 rfl rfl (Nat.le_of_ble_eq_true rfl) ⟨Nat.le_of_ble_eq_true rfl, Nat.le_of_ble_eq_true rfl⟩ (Nat.le_of_ble_eq_true rfl) (Nat.le_of_ble_eq_true rfl) dX5_chargedOnByRecords_7) (fun _ z => z.elim) (rfl : _ = 10) (fun E_7 H7_9 hx_7 o_7 => ?_) (fun H7_9 hq_7 o_7 => ?_)
  · obtain ⟨rfl, hr9⟩ := hx_7
    exact VX_out Y.1 hnm (Nat.le_of_ble_eq_true rfl) (Nat.le_of_ble_eq_true rfl) (Or.inr ⟨rfl, hb9, hr9⟩)
  obtain ⟨rfl, hr9⟩ := hq_7
  obtain ⟨z, hz, rfl⟩ := nI_of (fun q => hr9 (Or.inl q))
  refine V_aload_n Y.1 0 dX5_chargedOnByRecords_10 (rfl : _ = 11) rfl rfl ?_
  refine V_get Y.1 fi_X5_10 hF.1.1 rfl dX5_chargedOnByRecords_11 (rfl : _ = 14) ?_
  refine V_get Y.1 fi_X5_114 hE.1.1 rfl dX5_chargedOnByRecords_14 (rfl : _ = 17) ?_
  refine V_iload_n Y.1 1 dX5_chargedOnByRecords_17 (rfl : _ = 18) rfl rfl ?_
  refine V_aldK Y.1 (v := m_ca (sl a (π 0)) i) hE.1.2.2.1 (by first | assumption | exact vp_in_nI (by omega) (by omega)) (by rw [nI_clamp (by omega)]) dX5_chargedOnByRecords_18 (rfl : _ = 19) ?_
  refine V_iload_n Y.1 2 dX5_chargedOnByRecords_19 (rfl : _ = 20) rfl rfl ?_
  refine V_cP Y (rV Y (c_X0_sumOfRecords l D kA _ _ _ _ ES _ (nI z) (hE.1.2.2.2 i hi) (hE.2.1 i hi)) mi_X0_sumOfRecords vi_X5_156 rfl (hE.1.2.2.2 i hi).1 rfl rfl (Nat.le_of_ble_eq_true rfl) ⟨Nat.le_of_ble_eq_true rfl, Nat.le_of_ble_eq_true rfl⟩ (Nat.le_of_ble_eq_true rfl) (Nat.le_of_ble_eq_true rfl) dX5_chargedOnByRecords_20) (rfl : _ = 23) ?_
  exact V_X (V_ret Y.1 dX5_chargedOnByRecords_23 rfl (Nat.le_of_ble_eq_true rfl) (Nat.le_of_ble_eq_true rfl) ⟨by rw [nI_clamp (by omega)], rfl, hb9, hr9⟩)
