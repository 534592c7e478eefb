/-- the first zones as they are shown -/
def z_l (z : Nat → Int32) : Nat → List Int32
  | 0 => []
  | k + 1 => z_l z k ++ sg (z k)
theorem sg_l1 {i : Nat} (h : i < 8) : (sg (nI i)).length = 1 := by
  rw [sg_pos (by omega), dg_9 (by omega)]
  rfl
theorem sg_l2 {j : Nat} (h : j < 12) : (sg (nI j)).length ≤ 2 := by
  rw [sg_pos (by omega), dg_lenx (by omega)]
  split
  · decide
  · rw [if_pos (by omega)]; decide
/-- a card as it is shown -/
def m_card9 (M : MS) (i : Nat) : List Int32 := sg (nI i) ++ ((if (M.2.2.2.1 i).1 0 = 0 then 102 else 114) :: 58 :: (sg ((M.2.2.2.1 i).1 1) ++ (if (M.2.2.2.1 i).1 2 = 0 then [] else 64 :: sg ((M.2.2.2.1 i).1 3))))
section FSO
variable {D : va_G} {kA : Nat → ClassId} {H H1 : Heap} {a : Nat} {W : Nat → MS} {π : Nat → Nat} {ES F : Nat → Prop} {u : Nat} {hs ep fc : Int32} {no n1 : Nat} {go g1 : Nat → Int32} {vs cs ns : Nat} {gs : Nat → Int32}
theorem Fs.to (h : Fs D kA H a W π ES u hs ep fc no go vs cs ns gs) (e1 : no = n1) (e2 : go = g1) : Fs D kA H a W π ES u hs ep fc n1 g1 vs cs ns gs := by subst e1; subst e2; exact h
/-- the output has changed -/
theorem Fs.outp (h : Fs D kA H a W π ES u hs ep fc no go vs cs ns gs) (o : off F H H1) (hf : ∀ q, F q → q = a + 321 ∨ q = a + 322) (hs9 : Sb D kA H1 (a + 321) (a + 322) 16 n1 g1) : Fs D kA H1 a W π ES u hs ep fc n1 g1 vs cs ns gs := by
  obtain ⟨a1, a2, a3, a4, a5, a6, a7, a8⟩ := h
  have hl := a7.2.1
  exact ⟨a1.off o (fun z => by have := hf _ z; omega) (fun z => by have := hf _ z; omega), a2.kept o (fun k hk q hq z => by have := hf _ z; have := sl_hi (a := a) hk; have := hq.2; omega) (fun q hq z => by have := hf _ z; have := (a7.1 q hq).1; omega),
    hs9, a4.off o (fun z => by have := hf _ z; omega) (fun z => by have := hf _ z; omega), a5.off o (fun q hq z => by have := hf _ z; have := hq.1; omega), a6, a7.off o, a8⟩
end FSO
set_option maxRecDepth 100000 in
set_option maxHeartbeats 4000000 in
theorem c_X5_isConsistent (l : Launch) (D : va_G) (kA : Nat → ClassId) (Hs : Heap) (σ : SG) (H0 : Heap) (hg : Ag Hs H0) (a : Nat) (W : Nat → MS) (π : Nat → Nat) (ES : Nat → Prop) (u : Nat) (hs ep fc : Int32) (no : Nat) (go : Nat → Int32) (vs cs ns : Nat) (gs : Nat → Int32) (n : Nat) (hn : (W (π 0)).1 0 = nI n) (hn8 : n ≤ 8) (d : Nat) (hd : (W (π 0)).1 1 / 1440 = nI d) (hd2 : d < 2 ^ 30) (hF : Fs D kA H0 a W π ES u hs ep fc no go vs cs ns gs) (hnt : l.stackTraces = false) (hag : ∀ f g, f < 12 → g < 12 → ln_cnt (W (π 0)).2.1 f g = nI (ln_pairs (W (π 0)).2.1 f g)) (ha : ∀ i, i < n → ∀ q, d - 2 ≤ q → q ≤ d → k_sumOf ((W (π 0)).2.2.2.1 i) q = k_recs (nI q) ((W (π 0)).2.2.2.2 i) 0 ∧ k_sumOf ((W (π 0)).2.2.2.1 i) q ≤ k_cap ((W (π 0)).2.2.2.1 i)) (hb : m_bal (W (π 0)) n = (W (π 0)).1 2 - (W (π 0)).1 3 + (W (π 0)).1 4) : CtS l D kA Hs σ yX5_isConsistent cX5_isConsistent 1 (some .boolean) 3 74 0 0 H0 [.ref a] (nof) (pI fun v9 H => v9 = 1 ∧ H = H0) := by
  refine CtS.of mi_X5_isConsistent (Nat.le_of_ble_eq_true rfl) (ls0 := [(0, _)]) rfl hg (fun _ z => z.elim) ?_
  intro Pp Ee Ss Mm Ar Bl Me Cc Z hsH hnm
  have Y := Z.1
  obtain ⟨E0, hE⟩ := hF.now
  refine V_aload_n Y.1 0 dX5_isConsistent_0 (rfl : _ = 1) rfl rfl ?_
  refine V_get Y.1 fi_X5_10 hF.1.1 rfl dX5_isConsistent_1 (rfl : _ = 4) ?_
  refine V_get Y.1 fi_X5_65 hE.1.1 rfl dX5_isConsistent_4 (rfl : _ = 7) ?_
  refine V_cP Y (rV Y (c_X2_countsAgree l D kA _ _ _ _ _ _ hE.1.2.1 hag) mi_X2_countsAgree vi_X5_208 rfl hE.1.2.1.1 rfl rfl (Nat.le_of_ble_eq_true rfl) ⟨Nat.le_of_ble_eq_true rfl, Nat.le_of_ble_eq_true rfl⟩ (Nat.le_of_ble_eq_true rfl) (Nat.le_of_ble_eq_true rfl) dX5_isConsistent_7) (rfl : _ = 10) ?_
  refine V_if_eq Y.1 (tgt := 37) dX5_isConsistent_10 (by decide) (rfl : _ = 13) (fun c_n => absurd c_n (by decide)) (fun _ => ?_)
  refine V_aload_n Y.1 0 dX5_isConsistent_13 (rfl : _ = 14) rfl rfl ?_
  refine V_get Y.1 fi_X5_10 hF.1.1 rfl dX5_isConsistent_14 (rfl : _ = 17) ?_
  refine V_cP Y (rV Y (c_X3_sumsAgree l D kA _ _ _ ES d hd (by omega) hd2 n hn hn8 hF.now ha) mi_X3_sumsAgree vi_X5_212 rfl hE.1.1 rfl rfl (Nat.le_of_ble_eq_true rfl) ⟨Nat.le_of_ble_eq_true rfl, Nat.le_of_ble_eq_true rfl⟩ (Nat.le_of_ble_eq_true rfl) (Nat.le_of_ble_eq_true rfl) dX5_isConsistent_17) (rfl : _ = 20) ?_
  refine V_if_eq Y.1 (tgt := 37) dX5_isConsistent_20 (by decide) (rfl : _ = 23) (fun c_n => absurd c_n (by decide)) (fun _ => ?_)
  refine V_aload_n Y.1 0 dX5_isConsistent_23 (rfl : _ = 24) rfl rfl ?_
  refine V_get Y.1 fi_X5_10 hF.1.1 rfl dX5_isConsistent_24 (rfl : _ = 27) ?_
  refine V_cP Y (rV Y (c_X3_balancesAgree l D kA _ _ _ ES n hn hn8 hF.now hb) mi_X3_balancesAgree vi_X5_215 rfl hE.1.1 rfl rfl (Nat.le_of_ble_eq_true rfl) ⟨Nat.le_of_ble_eq_true rfl, Nat.le_of_ble_eq_true rfl⟩ (Nat.le_of_ble_eq_true rfl) (Nat.le_of_ble_eq_true rfl) dX5_isConsistent_27) (rfl : _ = 30) ?_
  refine V_if_eq Y.1 (tgt := 37) dX5_isConsistent_30 (by decide) (rfl : _ = 33) (fun c_n => absurd c_n (by decide)) (fun _ => ?_)
  refine V_iconst Y.1 (v := 1) dX5_isConsistent_33 (rfl : _ = 34) (by decide) ?_
  refine V_goto Y.1 (tgt := 38) dX5_isConsistent_34 (by decide) ?_
  exact V_ret Y.1 dX5_isConsistent_38 rfl (Nat.le_of_ble_eq_true rfl) (Nat.le_of_ble_eq_true rfl) ⟨rfl, rfl⟩

set_option maxRecDepth 100000 in
set_option maxHeartbeats 4000000 in
theorem c_X5_stationByTaps (l : Launch) (D : va_G) (kA : Nat → ClassId) (Hs : Heap) (σ : SG) (H0 : Heap) (hg : Ag Hs H0) (a : Nat) (W : Nat → MS) (π : Nat → Nat) (ES : Nat → Prop) (u : Nat) (hs ep fc : Int32) (no : Nat) (go : Nat → Int32) (vs cs ns : Nat) (gs : Nat → Int32) (x : Int32)  (hF : Fs D kA H0 a W π ES u hs ep fc no go vs cs ns gs) (hnt : l.stackTraces = false)  : CtSX l D kA Hs σ yX5_stationByTaps cX5_stationByTaps 3 (some .int) 8 120 4 24 H0 [.ref a, .int x] (nof) (pI fun v9 H => H = H0 ∧ ∃ i, i < 12 ∧ v9 = nI i ∧ nI (ln_rk (W (π 0)).2.2.1 i 12) = x ∧ ∀ j, j < i → ¬ nI (ln_rk (W (π 0)).2.2.1 j 12) = x) (fun E H => E = "java/util/NoSuchElementException" ∧ ∀ j, j < 12 → ¬ nI (ln_rk (W (π 0)).2.2.1 j 12) = x) := by
  refine CtSX.of mi_X5_stationByTaps (by decide +kernel) (Nat.le_of_ble_eq_true rfl) (ls0 := [(0, _), (1, _)]) rfl hg (fun _ z => z.elim) ?_
  intro Pp Ee Ss Mm Ar Bl Me Cc Z hsH hnm
  have Y := Z.1
  obtain ⟨E0, hE⟩ := hF.now
  have lp : ∀ (m i : Nat), i + m = 12 → (∀ j, j < i → ¬ nI (ln_rk (W (π 0)).2.2.1 j 12) = x) → V Pp l Ee (rmO 8 120 4 24) Ss Mm Ar Bl Me Cc 3 (AA H0 (nof)) (QX Bl Ar Ss 4 24 H0 (nof) (pI fun v9 H => H = H0 ∧ ∃ i, i < 12 ∧ v9 = nI i ∧ nI (ln_rk (W (π 0)).2.2.1 i 12) = x ∧ ∀ j, j < i → ¬ nI (ln_rk (W (π 0)).2.2.1 j 12) = x) (fun E H => E = "java/util/NoSuchElementException" ∧ ∀ j, j < 12 → ¬ nI (ln_rk (W (π 0)).2.2.1 j 12) = x)) H0 0 0 2 [(2, .int (nI i)), (0, .ref a), (1, .int x)] [] := by
    intro m
    induction m with
    | zero =>
      intro i hi9 hno
      obtain rfl : i = 12 := by omega
      refine V_iload_n Y.1 0 dX5_stationByTaps_2 (rfl : _ = 3) rfl rfl ?_
      refine V_bipush Y.1 (v := 12) dX5_stationByTaps_3 (rfl : _ = 5) (by decide) ?_
      refine V_icmp_ge Y.1 (tgt := 31) dX5_stationByTaps_5 (by decide) (rfl : _ = 8) (fun _ => ?_) (fun c_n => absurd ((nI_leI (a := 12) (b := 12) (by omega) (by omega)).mpr (Nat.le_refl _)) c_n)
      refine V_thr Z hnt th_X5_101 (show ("MetroFares", 103, "no such rank") ∈ wL by decide +kernel) dX5_stationByTaps_31 dX5_stationByTaps_34 dX5_stationByTaps_35 dX5_stationByTaps_37 dX5_stationByTaps_40 (Nat.le_of_ble_eq_true rfl) (Nat.le_of_ble_eq_true rfl) (Nat.le_of_ble_eq_true rfl) (Nat.le_of_ble_eq_true rfl) (fun H9 o9 => VX_out Y.1 hnm (Nat.le_of_ble_eq_true rfl) (Nat.le_of_ble_eq_true rfl) ⟨rfl, hno⟩)
    | succ m ih =>
      intro i hi9 hno
      have hi : i < 12 := by omega
      refine V_iload_n Y.1 0 dX5_stationByTaps_2 (rfl : _ = 3) rfl rfl ?_
      refine V_bipush Y.1 (v := 12) dX5_stationByTaps_3 (rfl : _ = 5) (by decide) ?_
      refine V_icmp_ge Y.1 (tgt := 31) dX5_stationByTaps_5 (by decide) (rfl : _ = 8) (fun c_n => absurd c_n (fun q => absurd ((nI_leI (a := 12) (b := i) (by omega) (by omega)).mp q) (by omega))) (fun _ => ?_)
      refine V_aload_n Y.1 1 dX5_stationByTaps_8 (rfl : _ = 9) rfl rfl ?_
      refine V_get Y.1 fi_X5_10 hF.1.1 rfl dX5_stationByTaps_9 (rfl : _ = 12) ?_
      refine V_get Y.1 fi_X5_65 hE.1.1 rfl dX5_stationByTaps_12 (rfl : _ = 15) ?_
      refine V_iload_n Y.1 0 dX5_stationByTaps_15 (rfl : _ = 16) rfl rfl ?_
      refine V_cP Y (rV Y (c_X2_rankByTaps l D kA _ _ _ _ _ _ i hi hE.1.2.1) mi_X2_rankByTaps vi_X5_97 rfl hE.1.2.1.1 rfl rfl (Nat.le_of_ble_eq_true rfl) ⟨Nat.le_of_ble_eq_true rfl, Nat.le_of_ble_eq_true rfl⟩ (Nat.le_of_ble_eq_true rfl) (Nat.le_of_ble_eq_true rfl) dX5_stationByTaps_16) (rfl : _ = 19) ?_
      refine V_iload_n Y.1 2 dX5_stationByTaps_19 (rfl : _ = 20) rfl rfl ?_
      refine V_icmp_ne Y.1 (tgt := 25) dX5_stationByTaps_20 (by decide) (rfl : _ = 23) (fun c_20 => ?_) (fun c_20 => ?_)
      · refine V_iinc Y.1 (v := nI (i + 1)) (ls' := [(2, _), (0, _), (1, _)]) 0 dX5_stationByTaps_25 (rfl : _ = 28) rfl (nI_1 _) (by decide) rfl ?_
        refine V_goto Y.1 (tgt := 2) dX5_stationByTaps_28 (by decide) ?_
        exact V_forget (ls' := [(2, _), (0, _), (1, _)]) [0, 1, 2] rfl (ih (i + 1) (by omega) (fun j hj => (Nat.lt_succ_iff_lt_or_eq.mp hj).elim (hno j) (fun e => e ▸ c_20)))
      · refine V_iload_n Y.1 0 dX5_stationByTaps_23 (rfl : _ = 24) rfl rfl ?_
        exact V_X (V_ret Y.1 dX5_stationByTaps_24 rfl (Nat.le_of_ble_eq_true rfl) (Nat.le_of_ble_eq_true rfl) ⟨rfl, i, by omega, rfl, c_20, hno⟩)
  refine V_iconst Y.1 (v := 0) dX5_stationByTaps_0 (rfl : _ = 1) (by decide) ?_
  refine V_istore_n Y.1 (ls' := [(2, _), (0, _), (1, _)]) dX5_stationByTaps_1 (rfl : _ = 2) rfl (by decide) rfl ?_
  exact lp 12 0 (by omega) (fun j hj => absurd hj (by omega))

set_option maxRecDepth 100000 in
set_option maxHeartbeats 4000000 in
theorem c_X5_cardBySpending (l : Launch) (D : va_G) (kA : Nat → ClassId) (Hs : Heap) (σ : SG) (H0 : Heap) (hg : Ag Hs H0) (a : Nat) (W : Nat → MS) (π : Nat → Nat) (ES : Nat → Prop) (u : Nat) (hs ep fc : Int32) (no : Nat) (go : Nat → Int32) (vs cs ns : Nat) (gs : Nat → Int32) (x : Int32) (n : Nat) (hn : (W (π 0)).1 0 = nI n) (hn8 : n ≤ 8) (d : Nat) (hd : (W (π 0)).1 1 / 1440 = nI d) (hd2 : d < 2 ^ 30) (hF : Fs D kA H0 a W π ES u hs ep fc no go vs cs ns gs) (hnt : l.stackTraces = false)  : CtSX l D kA Hs σ yX5_cardBySpending cX5_cardBySpending 3 (some .int) 8 120 4 24 H0 [.ref a, .int x] (nof) (pI fun v9 H => H = H0 ∧ ∃ i, i < n ∧ v9 = nI i ∧ nI (m_rk (W (π 0)) d i n) = x ∧ ∀ j, j < i → ¬ nI (m_rk (W (π 0)) d j n) = x) (fun E H => E = "java/util/NoSuchElementException" ∧ ∀ j, j < n → ¬ nI (m_rk (W (π 0)) d j n) = x) := by
  refine CtSX.of mi_X5_cardBySpending (by decide +kernel) (Nat.le_of_ble_eq_true rfl) (ls0 := [(0, _), (1, _)]) rfl hg (fun _ z => z.elim) ?_
  intro Pp Ee Ss Mm Ar Bl Me Cc Z hsH hnm
  have Y := Z.1
  obtain ⟨E0, hE⟩ := hF.now
  have lp : ∀ (m i : Nat), i + m = n → (∀ j, j < i → ¬ nI (m_rk (W (π 0)) d j n) = x) → V Pp l Ee (rmO 8 120 4 24) Ss Mm Ar Bl Me Cc 3 (AA H0 (nof)) (QX Bl Ar Ss 4 24 H0 (nof) (pI fun v9 H => H = H0 ∧ ∃ i, i < n ∧ v9 = nI i ∧ nI (m_rk (W (π 0)) d i n) = x ∧ ∀ j, j < i → ¬ nI (m_rk (W (π 0)) d j n) = x) (fun E H => E = "java/util/NoSuchElementException" ∧ ∀ j, j < n → ¬ nI (m_rk (W (π 0)) d j n) = x)) H0 0 0 2 [(2, .int (nI i)), (0, .ref a), (1, .int x)] [] := by
    intro m
    induction m with
    | zero =>
      intro i hi9 hno
      obtain rfl : n = i := by omega
      refine V_iload_n Y.1 0 dX5_cardBySpending_2 (rfl : _ = 3) rfl rfl ?_
      refine V_aload_n Y.1 1 dX5_cardBySpending_3 (rfl : _ = 4) rfl rfl ?_
      refine V_get Y.1 fi_X5_10 hF.1.1 rfl dX5_cardBySpending_4 (rfl : _ = 7) ?_
      refine V_get Y.1 fi_X5_108 hE.1.1 rfl dX5_cardBySpending_7 (rfl : _ = 10) ?_
      refine V_nm (v := nI n) hn ?_
      refine V_icmp_ge Y.1 (tgt := 33) dX5_cardBySpending_10 (by decide) (rfl : _ = 13) (fun _ => ?_) (fun c_n => absurd ((nI_leI (a := n) (b := n) (by omega) (by omega)).mpr (Nat.le_refl _)) c_n)
      refine V_thr Z hnt th_X5_101 (show ("MetroFares", 103, "no such rank") ∈ wL by decide +kernel) dX5_cardBySpending_33 dX5_cardBySpending_36 dX5_cardBySpending_37 dX5_cardBySpending_39 dX5_cardBySpending_42 (Nat.le_of_ble_eq_true rfl) (Nat.le_of_ble_eq_true rfl) (Nat.le_of_ble_eq_true rfl) (Nat.le_of_ble_eq_true rfl) (fun H9 o9 => VX_out Y.1 hnm (Nat.le_of_ble_eq_true rfl) (Nat.le_of_ble_eq_true rfl) ⟨rfl, hno⟩)
    | succ m ih =>
      intro i hi9 hno
      have hi : i < 8 := by omega
      refine V_iload_n Y.1 0 dX5_cardBySpending_2 (rfl : _ = 3) rfl rfl ?_
      refine V_aload_n Y.1 1 dX5_cardBySpending_3 (rfl : _ = 4) rfl rfl ?_
      refine V_get Y.1 fi_X5_10 hF.1.1 rfl dX5_cardBySpending_4 (rfl : _ = 7) ?_
      refine V_get Y.1 fi_X5_108 hE.1.1 rfl dX5_cardBySpending_7 (rfl : _ = 10) ?_
      refine V_nm (v := nI n) hn ?_
      refine V_icmp_ge Y.1 (tgt := 33) dX5_cardBySpending_10 (by decide) (rfl : _ = 13) (fun c_n => absurd c_n (fun q => absurd ((nI_leI (a := n) (b := i) (by omega) (by omega)).mp q) (by omega))) (fun _ => ?_)
      refine V_aload_n Y.1 1 dX5_cardBySpending_13 (rfl : _ = 14) rfl rfl ?_
      refine V_get Y.1 fi_X5_10 hF.1.1 rfl dX5_cardBySpending_14 (rfl : _ = 17) ?_
      refine V_iload_n Y.1 0 dX5_cardBySpending_17 (rfl : _ = 18) rfl rfl ?_
      refine V_cP Y (rV Y (c_X3_rankBySpending l D kA _ _ _ ES i hi d hd (by omega) n hn hn8 hF.now) mi_X3_rankBySpending vi_X5_169 rfl hE.1.1 rfl rfl (Nat.le_of_ble_eq_true rfl) ⟨Nat.le_of_ble_eq_true rfl, Nat.le_of_ble_eq_true rfl⟩ (Nat.le_of_ble_eq_true rfl) (Nat.le_of_ble_eq_true rfl) dX5_cardBySpending_18) (rfl : _ = 21) ?_
      refine V_iload_n Y.1 2 dX5_cardBySpending_21 (rfl : _ = 22) rfl rfl ?_
      refine V_icmp_ne Y.1 (tgt := 27) dX5_cardBySpending_22 (by decide) (rfl : _ = 25) (fun c_22 => ?_) (fun c_22 => ?_)
      · refine V_iinc Y.1 (v := nI (i + 1)) (ls' := [(2, _), (0, _), (1, _)]) 0 dX5_cardBySpending_27 (rfl : _ = 30) rfl (nI_1 _) (by decide) rfl ?_
        refine V_goto Y.1 (tgt := 2) dX5_cardBySpending_30 (by decide) ?_
        exact V_forget (ls' := [(2, _), (0, _), (1, _)]) [0, 1, 2] rfl (ih (i + 1) (by omega) (fun j hj => (Nat.lt_succ_iff_lt_or_eq.mp hj).elim (hno j) (fun e => e ▸ c_22)))
      · refine V_iload_n Y.1 0 dX5_cardBySpending_25 (rfl : _ = 26) rfl rfl ?_
        exact V_X (V_ret Y.1 dX5_cardBySpending_26 rfl (Nat.le_of_ble_eq_true rfl) (Nat.le_of_ble_eq_true rfl) ⟨rfl, i, by omega, rfl, c_22, hno⟩)
  refine V_iconst Y.1 (v := 0) dX5_cardBySpending_0 (rfl : _ = 1) (by decide) ?_
  refine V_istore_n Y.1 (ls' := [(2, _), (0, _), (1, _)]) dX5_cardBySpending_1 (rfl : _ = 2) rfl (by decide) rfl ?_
  exact lp n 0 (by omega) (fun j hj => absurd hj (by omega))

set_option maxRecDepth 100000 in
set_option maxHeartbeats 4000000 in
theorem c_X5_meanCharge (l : Launch) (D : va_G) (kA : Nat → ClassId) (Hs : Heap) (σ : SG) (H0 : Heap) (hg : Ag Hs H0) (a : Nat) (W : Nat → MS) (π : Nat → Nat) (ES : Nat → Prop) (u : Nat) (hs ep fc : Int32) (no : Nat) (go : Nat → Int32) (vs cs ns : Nat) (gs : Nat → Int32)  (hF : Fs D kA H0 a W π ES u hs ep fc no go vs cs ns gs) (hnt : l.stackTraces = false)  : CtSX l D kA Hs σ yX5_meanCharge cX5_meanCharge 2 (some .double) 8 120 4 24 H0 [.ref a] (nof) (pD fun v9 H => v9 = FP.ddiv (FP.i2d ((W (π 0)).1 3)) (FP.i2d ((W (π 0)).1 5 + (W (π 0)).1 6)) ∧ H = H0 ∧ ¬ (W (π 0)).1 5 + (W (π 0)).1 6 = 0) (fun E H => E = "java/lang/ArithmeticException" ∧ (W (π 0)).1 5 + (W (π 0)).1 6 = 0) := by
  refine CtSX.of mi_X5_meanCharge (by decide +kernel) (Nat.le_of_ble_eq_true rfl) (ls0 := [(0, _)]) rfl hg (fun _ z => z.elim) ?_
  intro Pp Ee Ss Mm Ar Bl Me Cc Z hsH hnm
  have Y := Z.1
  obtain ⟨E0, hE⟩ := hF.now
  refine V_aload_n Y.1 0 dX5_meanCharge_0 (rfl : _ = 1) rfl rfl ?_
  refine V_get Y.1 fi_X5_10 hF.1.1 rfl dX5_meanCharge_1 (rfl : _ = 4) ?_
  refine V_get Y.1 fi_X5_181 hE.1.1 rfl dX5_meanCharge_4 (rfl : _ = 7) ?_
  refine V_aload_n Y.1 0 dX5_meanCharge_7 (rfl : _ = 8) rfl rfl ?_
  refine V_get Y.1 fi_X5_10 hF.1.1 rfl dX5_meanCharge_8 (rfl : _ = 11) ?_
  refine V_get Y.1 fi_X5_184 hE.1.1 rfl dX5_meanCharge_11 (rfl : _ = 14) ?_
  refine V_iadd Y.1 dX5_meanCharge_14 (rfl : _ = 15) ?_
  refine V_istore_n Y.1 (ls' := [(1, _), (0, _)]) dX5_meanCharge_15 (rfl : _ = 16) rfl (by decide) rfl ?_
  refine V_iload_n Y.1 0 dX5_meanCharge_16 (rfl : _ = 17) rfl rfl ?_
  refine V_if_ne Y.1 (tgt := 30) dX5_meanCharge_17 (by decide) (rfl : _ = 20) (fun c_17 => ?_) (fun c_17 => ?_)
  · refine V_aload_n Y.1 1 dX5_meanCharge_30 (rfl : _ = 31) rfl rfl ?_
    refine V_get Y.1 fi_X5_10 hF.1.1 rfl dX5_meanCharge_31 (rfl : _ = 34) ?_
    refine V_get Y.1 fi_X5_175 hE.1.1 rfl dX5_meanCharge_34 (rfl : _ = 37) ?_
    refine V_i2d Y.1 dX5_meanCharge_37 (rfl : _ = 38) ?_
    refine V_iload_n Y.1 0 dX5_meanCharge_38 (rfl : _ = 39) rfl rfl ?_
    refine V_i2d Y.1 dX5_meanCharge_39 (rfl : _ = 40) ?_
    refine V_ddiv Y.1 dX5_meanCharge_40 (rfl : _ = 41) (fl_n64 c_17) ?_
    exact V_X (V_retD Y.1 dX5_meanCharge_41 (Nat.le_of_ble_eq_true rfl) (Nat.le_of_ble_eq_true rfl) ⟨rfl, rfl, c_17⟩)
  · refine V_thr Z hnt th_X5_187 (show ("MetroFares", 189, "no trip yet") ∈ wL by decide +kernel) dX5_meanCharge_20 dX5_meanCharge_23 dX5_meanCharge_24 dX5_meanCharge_26 dX5_meanCharge_29 (Nat.le_of_ble_eq_true rfl) (Nat.le_of_ble_eq_true rfl) (Nat.le_of_ble_eq_true rfl) (Nat.le_of_ble_eq_true rfl) (fun H9 o9 => VX_out Y.1 hnm (Nat.le_of_ble_eq_true rfl) (Nat.le_of_ble_eq_true rfl) ⟨rfl, c_17⟩)

set_option maxRecDepth 100000 in
set_option maxHeartbeats 4000000 in
theorem c_X5_incompleteShare (l : Launch) (D : va_G) (kA : Nat → ClassId) (Hs : Heap) (σ : SG) (H0 : Heap) (hg : Ag Hs H0) (a : Nat) (W : Nat → MS) (π : Nat → Nat) (ES : Nat → Prop) (u : Nat) (hs ep fc : Int32) (no : Nat) (go : Nat → Int32) (vs cs ns : Nat) (gs : Nat → Int32)  (hF : Fs D kA H0 a W π ES u hs ep fc no go vs cs ns gs) (hnt : l.stackTraces = false)  : CtSX l D kA Hs σ yX5_incompleteShare cX5_incompleteShare 2 (some .float) 8 120 4 24 H0 [.ref a] (nof) (pF fun v9 H => v9 = FP.fdiv (FP.i2f ((W (π 0)).1 6)) (FP.i2f ((W (π 0)).1 5 + (W (π 0)).1 6)) ∧ H = H0 ∧ ¬ (W (π 0)).1 5 + (W (π 0)).1 6 = 0) (fun E H => E = "java/lang/ArithmeticException" ∧ (W (π 0)).1 5 + (W (π 0)).1 6 = 0) := by
  refine CtSX.of mi_X5_incompleteShare (by decide +kernel) (Nat.le_of_ble_eq_true rfl) (ls0 := [(0, _)]) rfl hg (fun _ z => z.elim) ?_
  intro Pp Ee Ss Mm Ar Bl Me Cc Z hsH hnm
  have Y := Z.1
  obtain ⟨E0, hE⟩ := hF.now
  refine V_aload_n Y.1 0 dX5_incompleteShare_0 (rfl : _ = 1) rfl rfl ?_
  refine V_get Y.1 fi_X5_10 hF.1.1 rfl dX5_incompleteShare_1 (rfl : _ = 4) ?_
  refine V_get Y.1 fi_X5_181 hE.1.1 rfl dX5_incompleteShare_4 (rfl : _ = 7) ?_
  refine V_aload_n Y.1 0 dX5_incompleteShare_7 (rfl : _ = 8) rfl rfl ?_
  refine V_get Y.1 fi_X5_10 hF.1.1 rfl dX5_incompleteShare_8 (rfl : _ = 11) ?_
  refine V_get Y.1 fi_X5_184 hE.1.1 rfl dX5_incompleteShare_11 (rfl : _ = 14) ?_
  refine V_iadd Y.1 dX5_incompleteShare_14 (rfl : _ = 15) ?_
  refine V_istore_n Y.1 (ls' := [(1, _), (0, _)]) dX5_incompleteShare_15 (rfl : _ = 16) rfl (by decide) rfl ?_
  refine V_iload_n Y.1 0 dX5_incompleteShare_16 (rfl : _ = 17) rfl rfl ?_
  refine V_if_ne Y.1 (tgt := 30) dX5_incompleteShare_17 (by decide) (rfl : _ = 20) (fun c_17 => ?_) (fun c_17 => ?_)
  · refine V_aload_n Y.1 1 dX5_incompleteShare_30 (rfl : _ = 31) rfl rfl ?_
    refine V_get Y.1 fi_X5_10 hF.1.1 rfl dX5_incompleteShare_31 (rfl : _ = 34) ?_
    refine V_get Y.1 fi_X5_184 hE.1.1 rfl dX5_incompleteShare_34 (rfl : _ = 37) ?_
    refine V_i2f Y.1 dX5_incompleteShare_37 (rfl : _ = 38) ?_
    refine V_iload_n Y.1 0 dX5_incompleteShare_38 (rfl : _ = 39) rfl rfl ?_
    refine V_i2f Y.1 dX5_incompleteShare_39 (rfl : _ = 40) ?_
    refine V_fdiv Y.1 dX5_incompleteShare_40 (rfl : _ = 41) (fl_n32 c_17) ?_
    exact V_X (V_retF Y.1 dX5_incompleteShare_41 (Nat.le_of_ble_eq_true rfl) (Nat.le_of_ble_eq_true rfl) ⟨rfl, rfl, c_17⟩)
  · refine V_thr Z hnt th_X5_187 (show ("MetroFares", 189, "no trip yet") ∈ wL by decide +kernel) dX5_incompleteShare_20 dX5_incompleteShare_23 dX5_incompleteShare_24 dX5_incompleteShare_26 dX5_incompleteShare_29 (Nat.le_of_ble_eq_true rfl) (Nat.le_of_ble_eq_true rfl) (Nat.le_of_ble_eq_true rfl) (Nat.le_of_ble_eq_true rfl) (fun H9 o9 => VX_out Y.1 hnm (Nat.le_of_ble_eq_true rfl) (Nat.le_of_ble_eq_true rfl) ⟨rfl, c_17⟩)

set_option maxRecDepth 100000 in
set_option maxHeartbeats 4000000 in
theorem c_X5_outputAt (l : Launch) (D : va_G) (kA : Nat → ClassId) (Hs : Heap) (σ : SG) (H0 : Heap) (hg : Ag Hs H0) (a : Nat) (W : Nat → MS) (π : Nat → Nat) (ES : Nat → Prop) (u : Nat) (hs ep fc : Int32) (no : Nat) (go : Nat → Int32) (vs cs ns : Nat) (gs : Nat → Int32) (x : Int32) (hF : Fs D kA H0 a W π ES u hs ep fc no go vs cs ns gs) (hnt : l.stackTraces = false) (hgo : ∀ j, j < no → ∃ c, c < 128 ∧ go j = nI c) : CtSX l D kA Hs σ yX5_outputAt cX5_outputAt 2 (some .char) 8 120 4 24 H0 [.ref a, .int x] (nof) (pI fun v9 H => v9 = go x.toNatClampNeg ∧ H = H0 ∧ (¬ x < 0 ∧ x < nI no)) (fun E H => E = "java/lang/IndexOutOfBoundsException" ∧ (x < 0 ∨ ¬ x < nI no)) := by
  refine CtSX.of mi_X5_outputAt (by decide +kernel) (Nat.le_of_ble_eq_true rfl) (ls0 := [(0, _), (1, _)]) rfl hg (fun _ z => z.elim) ?_
  intro Pp Ee Ss Mm Ar Bl Me Cc Z hsH hnm
  have Y := Z.1
  refine V_iload_n Y.1 1 dX5_outputAt_0 (rfl : _ = 1) rfl rfl ?_
  refine V_if_lt Y.1 (tgt := 15) dX5_outputAt_1 (by decide) (rfl : _ = 4) (fun c_1 => ?_) (fun c_1 => ?_)
  · refine V_thr Z hnt th_X5_231 (show ("MetroFares", 233, "no such index") ∈ wL by decide +kernel) dX5_outputAt_15 dX5_outputAt_18 dX5_outputAt_19 dX5_outputAt_21 dX5_outputAt_24 (Nat.le_of_ble_eq_true rfl) (Nat.le_of_ble_eq_true rfl) (Nat.le_of_ble_eq_true rfl) (Nat.le_of_ble_eq_true rfl) (fun H9 o9 => VX_out Y.1 hnm (Nat.le_of_ble_eq_true rfl) (Nat.le_of_ble_eq_true rfl) ⟨rfl, Or.inl c_1⟩)
  · refine V_iload_n Y.1 1 dX5_outputAt_4 (rfl : _ = 5) rfl rfl ?_
    refine V_aload_n Y.1 0 dX5_outputAt_5 (rfl : _ = 6) rfl rfl ?_
    refine V_get Y.1 fi_X5_29 hF.1.1 rfl dX5_outputAt_6 (rfl : _ = 9) ?_
    refine V_cP Y (sV Z (c_J4_length_8abf5 l D kA Hs σ _ hg _ _ _ no go hF.2.2.1) mi_J4_length_8abf5 vi_X5_228 rfl hF.2.2.1.1.choose_spec rfl rfl (Nat.le_of_ble_eq_true rfl) ⟨Nat.le_of_ble_eq_true rfl, Nat.le_of_ble_eq_true rfl⟩ (Nat.le_of_ble_eq_true rfl) (Nat.le_of_ble_eq_true rfl) dX5_outputAt_9) (rfl : _ = 12) ?_
    refine V_icmp_lt Y.1 (tgt := 25) dX5_outputAt_12 (by decide) (rfl : _ = 15) (fun c_12 => ?_) (fun c_12 => ?_)
    · obtain ⟨j, hj31, rfl⟩ := nI_of c_1
      have hjn : j < no := Nat.not_le.mp fun q => absurd c_12 (nI_nlt q hj31)
      obtain ⟨q9, hq9, eq9⟩ := hgo j hjn
      refine V_aload_n Y.1 0 dX5_outputAt_25 (rfl : _ = 26) rfl rfl ?_
      refine V_get Y.1 fi_X5_29 hF.1.1 rfl dX5_outputAt_26 (rfl : _ = 29) ?_
      refine V_iload_n Y.1 1 dX5_outputAt_29 (rfl : _ = 30) rfl rfl ?_
      refine V_cP Y (sV Z (c_J4_charAt_5068e l D kA Hs σ _ hg _ _ _ no go j q9 hjn hq9 eq9 hF.2.2.1) mi_J4_charAt_5068e vi_X5_236 rfl hF.2.2.1.1.choose_spec rfl rfl (Nat.le_of_ble_eq_true rfl) ⟨Nat.le_of_ble_eq_true rfl, Nat.le_of_ble_eq_true rfl⟩ (Nat.le_of_ble_eq_true rfl) (Nat.le_of_ble_eq_true rfl) dX5_outputAt_30) (rfl : _ = 33) ?_
      exact V_X (V_ret Y.1 dX5_outputAt_33 (ch_nar hq9) (Nat.le_of_ble_eq_true rfl) (Nat.le_of_ble_eq_true rfl) ⟨by rw [nI_clamp hj31]; exact eq9.symm, rfl, c_1, c_12⟩)
    · refine V_thr Z hnt th_X5_231 (show ("MetroFares", 233, "no such index") ∈ wL by decide +kernel) dX5_outputAt_15 dX5_outputAt_18 dX5_outputAt_19 dX5_outputAt_21 dX5_outputAt_24 (Nat.le_of_ble_eq_true rfl) (Nat.le_of_ble_eq_true rfl) (Nat.le_of_ble_eq_true rfl) (Nat.le_of_ble_eq_true rfl) (fun H9 o9 => VX_out Y.1 hnm (Nat.le_of_ble_eq_true rfl) (Nat.le_of_ble_eq_true rfl) ⟨rfl, Or.inr c_12⟩)

set_option maxRecDepth 100000 in
set_option maxHeartbeats 4000000 in
theorem c_X5_renderCard (l : Launch) (D : va_G) (kA : Nat → ClassId) (Hs : Heap) (σ : SG) (H0 : Heap) (hg : Ag Hs H0) (a : Nat) (W : Nat → MS) (π : Nat → Nat) (ES : Nat → Prop) (u : Nat) (hs ep fc : Int32) (no : Nat) (go : Nat → Int32) (vs cs ns : Nat) (gs : Nat → Int32) (x : Int32) (hF : Fs D kA H0 a W π ES u hs ep fc no go vs cs ns gs) (hnt : l.stackTraces = false) (hcb : ∀ i : Nat, i < 8 → nI i < (W (π 0)).1 0 → -100000 < (((W (π 0)).2.2.2.1 i).1 1).toInt ∧ (((W (π 0)).2.2.2.1 i).1 1).toInt < 100000) (hjt : ∀ i : Nat, i < 8 → nI i < (W (π 0)).1 0 → ¬ ((W (π 0)).2.2.2.1 i).1 2 = 0 → ∃ j, j < 12 ∧ ((W (π 0)).2.2.2.1 i).1 3 = nI j) (hbs : Hs.size ≤ a) : CtSX l D kA Hs σ yX5_renderCard cX5_renderCard 3 (some .int) 10 162 4 24 H0 [.ref a, .int x] (fun q => q = a + 321 ∨ q = a + 322) (pI fun v9 H => v9 = nI (m_card9 (W (π 0)) x.toNatClampNeg).length ∧ ¬ b_card (W (π 0)) x = 0 ∧ Fs D kA H a W π ES u hs ep fc ((m_card9 (W (π 0)) x.toNatClampNeg).length) (r_put go 0 (m_card9 (W (π 0)) x.toNatClampNeg)) vs cs ns gs) (fun E H => E = "java/lang/IndexOutOfBoundsException" ∧ b_card (W (π 0)) x = 0 ∧ Fs D kA H a W π ES u hs ep fc no go vs cs ns gs) := by
  refine CtSX.of mi_X5_renderCard (by decide +kernel) (Nat.le_of_ble_eq_true rfl) (ls0 := [(0, _), (1, _)]) rfl hg (fun q z => z.elim (fun e => e ▸ (by omega)) (fun e => e ▸ (by omega))) ?_
  intro Pp Ee Ss Mm Ar Bl Me Cc Z hsH hnm
  have Y := Z.1
  have hF0 := hF
  obtain ⟨E0, hE⟩ := hF.now
  refine V_aload_n Y.1 0 dX5_renderCard_0 (rfl : _ = 1) rfl rfl ?_
  refine V_iload_n Y.1 1 dX5_renderCard_1 (rfl : _ = 2) rfl rfl ?_
  refine V_xV Y (sxV Z (c_X5_requireCard l D kA Hs σ _ hg _ _ _ _ _ _ _ _ _ _ _ _ _ _ x hF hnt) mi_X5_requireCard vi_X5_111 rfl hF.1.1 rfl rfl (Nat.le_of_ble_eq_true rfl) ⟨Nat.le_of_ble_eq_true rfl, Nat.le_of_ble_eq_true rfl⟩ (Nat.le_of_ble_eq_true rfl) (Nat.le_of_ble_eq_true rfl) dX5_renderCard_2) (fun _ z => z.elim) (rfl : _ = 5) (fun E_2 H2_2 hx_2 o_2 => ?_) (fun H2_2 hq_2 o_2 => ?_)
  · obtain ⟨rfl, hb9⟩ := hx_2
    exact VX_out Y.1 hnm (Nat.le_of_ble_eq_true rfl) (Nat.le_of_ble_eq_true rfl) ⟨rfl, hb9, hF.new o_2⟩
  obtain ⟨rfl, hb9⟩ := hq_2
  obtain ⟨i, hi, rfl, hi0⟩ := b_card_i hb9
  obtain ⟨hc1, hc2⟩ := hcb i hi hi0
  have ei : (nI i).toNatClampNeg = i := nI_clamp (by omega)
  refine V_aload_n Y.1 0 dX5_renderCard_5 (rfl : _ = 6) rfl rfl ?_
  refine V_get Y.1 fi_X5_10 hF.1.1 rfl dX5_renderCard_6 (rfl : _ = 9) ?_
  refine V_get Y.1 fi_X5_114 hE.1.1 rfl dX5_renderCard_9 (rfl : _ = 12) ?_
  refine V_iload_n Y.1 1 dX5_renderCard_12 (rfl : _ = 13) rfl rfl ?_
  refine V_aldK Y.1 (v := m_ca (sl a (π 0)) i) hE.1.2.2.1 (by first | assumption | exact vp_in_nI (by omega) (by omega)) (by rw [nI_clamp (by omega)]) dX5_renderCard_13 (rfl : _ = 14) ?_
  refine V_astore_n Y.1 (ls' := [(2, _), (0, _), (1, _)]) dX5_renderCard_14 (rfl : _ = 15) rfl (by decide) rfl ?_
  refine V_aload_n Y.1 1 dX5_renderCard_15 (rfl : _ = 16) rfl rfl ?_
  refine V_get Y.1 fi_X5_29 hF.1.1 rfl dX5_renderCard_16 (rfl : _ = 19) ?_
  refine V_iconst Y.1 (v := 0) dX5_renderCard_19 (rfl : _ = 20) (by decide) ?_
  refine V_cV Y (sV Z (c_J4_setLength_d00df l D kA Hs σ _ hg _ _ _ no go hF.2.2.1 (by omega)) mi_J4_setLength_d00df vi_X5_218 rfl hF.2.2.1.1.choose_spec rfl rfl (Nat.le_of_ble_eq_true rfl) ⟨Nat.le_of_ble_eq_true rfl, Nat.le_of_ble_eq_true rfl⟩ (Nat.le_of_ble_eq_true rfl) (Nat.le_of_ble_eq_true rfl) dX5_renderCard_20) (fun q z => Or.inl (Or.inl z)) (rfl : _ = 23) (fun H20_17 hq_20 o_20 => ?_)
  obtain ⟨hS9, -⟩ := hq_20
  have hg := hg.keep o_20 (fun q z => z ▸ (by omega))
  have hF := hF.outp o_20 (fun q z => Or.inl z) hS9
  obtain ⟨E0, hE⟩ := hF.now
  refine V_aload_n Y.1 1 dX5_renderCard_23 (rfl : _ = 24) rfl rfl ?_
  refine V_get Y.1 fi_X5_29 hF.1.1 rfl dX5_renderCard_24 (rfl : _ = 27) ?_
  refine V_iload_n Y.1 2 dX5_renderCard_27 (rfl : _ = 28) rfl rfl ?_
  refine V_cR Y (sV Z (c_J4_append_bf812 l D kA Hs σ _ hg _ _ _ _ _ (nI i) (by rw [nI_toInt (by omega)]; omega) (by rw [nI_toInt (by omega)]; omega) (by have h1 := sg_l1 hi; have h2 := sg_len (((W (π 0)).2.2.2.1 i).1 1); omega) hF.2.2.1 (by omega) (by omega)) mi_J4_append_bf812 vi_X5_221 rfl hF.2.2.1.1.choose_spec rfl rfl (Nat.le_of_ble_eq_true rfl) ⟨Nat.le_of_ble_eq_true rfl, Nat.le_of_ble_eq_true rfl⟩ (Nat.le_of_ble_eq_true rfl) (Nat.le_of_ble_eq_true rfl) dX5_renderCard_28) (fun q z => Or.inl z) (rfl : _ = 31) (fun v_28 H28_25 hq_28 o_28 => ?_)
  obtain ⟨-, hS9, -⟩ := hq_28
  have hg := hg.keep o_28 (fun q z => z.elim (fun e => e ▸ (by omega)) (fun e => e ▸ (by omega)))
  have hF := hF.outp o_28 (fun q z => z) hS9
  obtain ⟨E0, hE⟩ := hF.now
  refine V_pop Y.1 dX5_renderCard_31 (rfl : _ = 32) rfl ?_
  refine V_aload_n Y.1 1 dX5_renderCard_32 (rfl : _ = 33) rfl rfl ?_
  refine V_get Y.1 fi_X5_29 hF.1.1 rfl dX5_renderCard_33 (rfl : _ = 36) ?_
  refine V_aload_n Y.1 0 dX5_renderCard_36 (rfl : _ = 37) rfl rfl ?_
  refine V_get Y.1 fi_X5_118 (hE.1.2.2.2 i hi).1 rfl dX5_renderCard_37 (rfl : _ = 40) ?_
  refine V_if_eq Y.1 (tgt := 48) dX5_renderCard_40 (by decide) (rfl : _ = 43) (fun c_40 => ?_) (fun c_40 => ?_)
  · refine V_bipush Y.1 (v := 102) dX5_renderCard_48 (rfl : _ = 50) (by decide) ?_
    refine V_cR Y (sV Z (c_J4_append_k l D kA Hs σ _ hg _ _ _ _ _ 102 (by decide) (by have h1 := sg_l1 hi; have h2 := sg_len (((W (π 0)).2.2.2.1 i).1 1); omega) hF.2.2.1 (by omega) (by omega)) mi_J4_append_cf468 vi_X5_225 rfl hF.2.2.1.1.choose_spec rfl rfl (Nat.le_of_ble_eq_true rfl) ⟨Nat.le_of_ble_eq_true rfl, Nat.le_of_ble_eq_true rfl⟩ (Nat.le_of_ble_eq_true rfl) (Nat.le_of_ble_eq_true rfl) dX5_renderCard_50) (fun q z => Or.inl z) (rfl : _ = 53) (fun v_50 H50_37 hq_50 o_50 => ?_)
    obtain ⟨-, hS9, -⟩ := hq_50
    have hg := hg.keep o_50 (fun q z => z.elim (fun e => e ▸ (by omega)) (fun e => e ▸ (by omega)))
    have hF := hF.outp o_50 (fun q z => z) hS9
    obtain ⟨E0, hE⟩ := hF.now
    refine V_pop Y.1 dX5_renderCard_53 (rfl : _ = 54) rfl ?_
    refine V_aload_n Y.1 1 dX5_renderCard_54 (rfl : _ = 55) rfl rfl ?_
    refine V_get Y.1 fi_X5_29 hF.1.1 rfl dX5_renderCard_55 (rfl : _ = 58) ?_
    refine V_bipush Y.1 (v := 58) dX5_renderCard_58 (rfl : _ = 60) (by decide) ?_
    refine V_cR Y (sV Z (c_J4_append_k l D kA Hs σ _ hg _ _ _ _ _ 58 (by decide) (by have h1 := sg_l1 hi; have h2 := sg_len (((W (π 0)).2.2.2.1 i).1 1); omega) hF.2.2.1 (by omega) (by omega)) mi_J4_append_cf468 vi_X5_225 rfl hF.2.2.1.1.choose_spec rfl rfl (Nat.le_of_ble_eq_true rfl) ⟨Nat.le_of_ble_eq_true rfl, Nat.le_of_ble_eq_true rfl⟩ (Nat.le_of_ble_eq_true rfl) (Nat.le_of_ble_eq_true rfl) dX5_renderCard_60) (fun q z => Or.inl z) (rfl : _ = 63) (fun v_60 H60_46 hq_60 o_60 => ?_)
    obtain ⟨-, hS9, -⟩ := hq_60
    have hg := hg.keep o_60 (fun q z => z.elim (fun e => e ▸ (by omega)) (fun e => e ▸ (by omega)))
    have hF := hF.outp o_60 (fun q z => z) hS9
    obtain ⟨E0, hE⟩ := hF.now
    refine V_pop Y.1 dX5_renderCard_63 (rfl : _ = 64) rfl ?_
    refine V_aload_n Y.1 1 dX5_renderCard_64 (rfl : _ = 65) rfl rfl ?_
    refine V_get Y.1 fi_X5_29 hF.1.1 rfl dX5_renderCard_65 (rfl : _ = 68) ?_
    refine V_aload_n Y.1 0 dX5_renderCard_68 (rfl : _ = 69) rfl rfl ?_
    refine V_get Y.1 fi_X5_124 (hE.1.2.2.2 i hi).1 rfl dX5_renderCard_69 (rfl : _ = 72) ?_
    refine V_cR Y (sV Z (c_J4_append_bf812 l D kA Hs σ _ hg _ _ _ _ _ _ hc1 hc2 (by have h1 := sg_l1 hi; have h2 := sg_len (((W (π 0)).2.2.2.1 i).1 1); omega) hF.2.2.1 (by omega) (by omega)) mi_J4_append_bf812 vi_X5_221 rfl hF.2.2.1.1.choose_spec rfl rfl (Nat.le_of_ble_eq_true rfl) ⟨Nat.le_of_ble_eq_true rfl, Nat.le_of_ble_eq_true rfl⟩ (Nat.le_of_ble_eq_true rfl) (Nat.le_of_ble_eq_true rfl) dX5_renderCard_72) (fun q z => Or.inl z) (rfl : _ = 75) (fun v_72 H72_56 hq_72 o_72 => ?_)
    obtain ⟨-, hS9, -⟩ := hq_72
    have hg := hg.keep o_72 (fun q z => z.elim (fun e => e ▸ (by omega)) (fun e => e ▸ (by omega)))
    have hF := hF.outp o_72 (fun q z => z) hS9
    obtain ⟨E0, hE⟩ := hF.now
    refine V_pop Y.1 dX5_renderCard_75 (rfl : _ = 76) rfl ?_
    refine V_aload_n Y.1 0 dX5_renderCard_76 (rfl : _ = 77) rfl rfl ?_
    refine V_get Y.1 fi_X5_127 (hE.1.2.2.2 i hi).1 rfl dX5_renderCard_77 (rfl : _ = 80) ?_
    refine V_if_eq Y.1 (tgt := 105) dX5_renderCard_80 (by decide) (rfl : _ = 83) (fun c_80 => ?_) (fun c_80 => ?_)
    · refine V_aload_n Y.1 1 dX5_renderCard_105 (rfl : _ = 106) rfl rfl ?_
      refine V_get Y.1 fi_X5_29 hF.1.1 rfl dX5_renderCard_106 (rfl : _ = 109) ?_
      refine V_cP Y (sV Z (c_J4_length_8abf5 l D kA Hs σ _ hg _ _ _ _ _ hF.2.2.1) mi_J4_length_8abf5 vi_X5_228 rfl hF.2.2.1.1.choose_spec rfl rfl (Nat.le_of_ble_eq_true rfl) ⟨Nat.le_of_ble_eq_true rfl, Nat.le_of_ble_eq_true rfl⟩ (Nat.le_of_ble_eq_true rfl) (Nat.le_of_ble_eq_true rfl) dX5_renderCard_109) (rfl : _ = 112) ?_
      have eL : m_card9 (W (π 0)) (nI i).toNatClampNeg = sg (nI i) ++ ([nI 102, nI 58] ++ (sg (((W (π 0)).2.2.2.1 i).1 1) ++ [])) := by unfold m_card9; rw [ei, if_pos c_40, if_pos c_80]; rfl
      simp only [Nat.zero_add] at hF
      exact V_X (V_ret Y.1 dX5_renderCard_112 rfl (Nat.le_of_ble_eq_true rfl) (Nat.le_of_ble_eq_true rfl) ⟨by rw [eL]; simp only [List.length_append, List.length_cons, List.length_nil]; congr 1; omega, hb9, by rw [eL]; exact hF.to (by simp only [List.length_append, List.length_cons, List.length_nil]; omega) (by simp only [r_put_app, r_put, List.length_append, List.length_cons, List.length_nil, Nat.zero_add, Nat.add_assoc, Nat.reduceAdd])⟩)
    · obtain ⟨j, hj, ej⟩ := hjt i hi hi0 c_80
      refine V_aload_n Y.1 1 dX5_renderCard_83 (rfl : _ = 84) rfl rfl ?_
      refine V_get Y.1 fi_X5_29 hF.1.1 rfl dX5_renderCard_84 (rfl : _ = 87) ?_
      refine V_bipush Y.1 (v := 64) dX5_renderCard_87 (rfl : _ = 89) (by decide) ?_
      refine V_cR Y (sV Z (c_J4_append_k l D kA Hs σ _ hg _ _ _ _ _ 64 (by decide) (by have h1 := sg_l1 hi; have h2 := sg_len (((W (π 0)).2.2.2.1 i).1 1); omega) hF.2.2.1 (by omega) (by omega)) mi_J4_append_cf468 vi_X5_225 rfl hF.2.2.1.1.choose_spec rfl rfl (Nat.le_of_ble_eq_true rfl) ⟨Nat.le_of_ble_eq_true rfl, Nat.le_of_ble_eq_true rfl⟩ (Nat.le_of_ble_eq_true rfl) (Nat.le_of_ble_eq_true rfl) dX5_renderCard_89) (fun q z => Or.inl z) (rfl : _ = 92) (fun v_89 H89_73 hq_89 o_89 => ?_)
      obtain ⟨-, hS9, -⟩ := hq_89
      have hg := hg.keep o_89 (fun q z => z.elim (fun e => e ▸ (by omega)) (fun e => e ▸ (by omega)))
      have hF := hF.outp o_89 (fun q z => z) hS9
      obtain ⟨E0, hE⟩ := hF.now
      refine V_pop Y.1 dX5_renderCard_92 (rfl : _ = 93) rfl ?_
      refine V_aload_n Y.1 1 dX5_renderCard_93 (rfl : _ = 94) rfl rfl ?_
      refine V_get Y.1 fi_X5_29 hF.1.1 rfl dX5_renderCard_94 (rfl : _ = 97) ?_
      refine V_aload_n Y.1 0 dX5_renderCard_97 (rfl : _ = 98) rfl rfl ?_
      refine V_get Y.1 fi_X5_133 (hE.1.2.2.2 i hi).1 rfl dX5_renderCard_98 (rfl : _ = 101) ?_
      refine V_nm (v := nI j) ej ?_
      refine V_cR Y (sV Z (c_J4_append_bf812 l D kA Hs σ _ hg _ _ _ _ _ (nI j) (by rw [nI_toInt (by omega)]; omega) (by rw [nI_toInt (by omega)]; omega) (by have h1 := sg_l1 hi; have h2 := sg_len (((W (π 0)).2.2.2.1 i).1 1); have h3 := sg_l2 hj; omega) hF.2.2.1 (by omega) (by omega)) mi_J4_append_bf812 vi_X5_221 rfl hF.2.2.1.1.choose_spec rfl rfl (Nat.le_of_ble_eq_true rfl) ⟨Nat.le_of_ble_eq_true rfl, Nat.le_of_ble_eq_true rfl⟩ (Nat.le_of_ble_eq_true rfl) (Nat.le_of_ble_eq_true rfl) dX5_renderCard_101) (fun q z => Or.inl z) (rfl : _ = 104) (fun v_101 H101_84 hq_101 o_101 => ?_)
      obtain ⟨-, hS9, -⟩ := hq_101
      have hg := hg.keep o_101 (fun q z => z.elim (fun e => e ▸ (by omega)) (fun e => e ▸ (by omega)))
      have hF := hF.outp o_101 (fun q z => z) hS9
      obtain ⟨E0, hE⟩ := hF.now
      refine V_pop Y.1 dX5_renderCard_104 (rfl : _ = 105) rfl ?_
      refine V_aload_n Y.1 1 dX5_renderCard_105 (rfl : _ = 106) rfl rfl ?_
      refine V_get Y.1 fi_X5_29 hF.1.1 rfl dX5_renderCard_106 (rfl : _ = 109) ?_
      refine V_cP Y (sV Z (c_J4_length_8abf5 l D kA Hs σ _ hg _ _ _ _ _ hF.2.2.1) mi_J4_length_8abf5 vi_X5_228 rfl hF.2.2.1.1.choose_spec rfl rfl (Nat.le_of_ble_eq_true rfl) ⟨Nat.le_of_ble_eq_true rfl, Nat.le_of_ble_eq_true rfl⟩ (Nat.le_of_ble_eq_true rfl) (Nat.le_of_ble_eq_true rfl) dX5_renderCard_109) (rfl : _ = 112) ?_
      have eL : m_card9 (W (π 0)) (nI i).toNatClampNeg = sg (nI i) ++ ([nI 102, nI 58] ++ (sg (((W (π 0)).2.2.2.1 i).1 1) ++ (nI 64 :: sg (nI j)))) := by unfold m_card9; rw [ei, if_pos c_40, if_neg c_80, ej]; rfl
      simp only [Nat.zero_add] at hF
      exact V_X (V_ret Y.1 dX5_renderCard_112 rfl (Nat.le_of_ble_eq_true rfl) (Nat.le_of_ble_eq_true rfl) ⟨by rw [eL]; simp only [List.length_append, List.length_cons, List.length_nil]; congr 1; omega, hb9, by rw [eL]; exact hF.to (by simp only [List.length_append, List.length_cons, List.length_nil]; omega) (by simp only [r_put_app, r_put, List.length_append, List.length_cons, List.length_nil, Nat.zero_add, Nat.add_assoc, Nat.reduceAdd])⟩)
  · refine V_bipush Y.1 (v := 114) dX5_renderCard_43 (rfl : _ = 45) (by decide) ?_
    refine V_goto Y.1 (tgt := 50) dX5_renderCard_45 (by decide) ?_
    refine V_cR Y (sV Z (c_J4_append_k l D kA Hs σ _ hg _ _ _ _ _ 114 (by decide) (by have h1 := sg_l1 hi; have h2 := sg_len (((W (π 0)).2.2.2.1 i).1 1); omega) hF.2.2.1 (by omega) (by omega)) mi_J4_append_cf468 vi_X5_225 rfl hF.2.2.1.1.choose_spec rfl rfl (Nat.le_of_ble_eq_true rfl) ⟨Nat.le_of_ble_eq_true rfl, Nat.le_of_ble_eq_true rfl⟩ (Nat.le_of_ble_eq_true rfl) (Nat.le_of_ble_eq_true rfl) dX5_renderCard_50) (fun q z => Or.inl z) (rfl : _ = 53) (fun v_50 H50_96 hq_50 o_50 => ?_)
    obtain ⟨-, hS9, -⟩ := hq_50
    have hg := hg.keep o_50 (fun q z => z.elim (fun e => e ▸ (by omega)) (fun e => e ▸ (by omega)))
    have hF := hF.outp o_50 (fun q z => z) hS9
    obtain ⟨E0, hE⟩ := hF.now
    refine V_pop Y.1 dX5_renderCard_53 (rfl : _ = 54) rfl ?_
    refine V_aload_n Y.1 1 dX5_renderCard_54 (rfl : _ = 55) rfl rfl ?_
    refine V_get Y.1 fi_X5_29 hF.1.1 rfl dX5_renderCard_55 (rfl : _ = 58) ?_
    refine V_bipush Y.1 (v := 58) dX5_renderCard_58 (rfl : _ = 60) (by decide) ?_
    refine V_cR Y (sV Z (c_J4_append_k l D kA Hs σ _ hg _ _ _ _ _ 58 (by decide) (by have h1 := sg_l1 hi; have h2 := sg_len (((W (π 0)).2.2.2.1 i).1 1); omega) hF.2.2.1 (by omega) (by omega)) mi_J4_append_cf468 vi_X5_225 rfl hF.2.2.1.1.choose_spec rfl rfl (Nat.le_of_ble_eq_true rfl) ⟨Nat.le_of_ble_eq_true rfl, Nat.le_of_ble_eq_true rfl⟩ (Nat.le_of_ble_eq_true rfl) (Nat.le_of_ble_eq_true rfl) dX5_renderCard_60) (fun q z => Or.inl z) (rfl : _ = 63) (fun v_60 H60_105 hq_60 o_60 => ?_)
    obtain ⟨-, hS9, -⟩ := hq_60
    have hg := hg.keep o_60 (fun q z => z.elim (fun e => e ▸ (by omega)) (fun e => e ▸ (by omega)))
    have hF := hF.outp o_60 (fun q z => z) hS9
    obtain ⟨E0, hE⟩ := hF.now
    refine V_pop Y.1 dX5_renderCard_63 (rfl : _ = 64) rfl ?_
    refine V_aload_n Y.1 1 dX5_renderCard_64 (rfl : _ = 65) rfl rfl ?_
    refine V_get Y.1 fi_X5_29 hF.1.1 rfl dX5_renderCard_65 (rfl : _ = 68) ?_
    refine V_aload_n Y.1 0 dX5_renderCard_68 (rfl : _ = 69) rfl rfl ?_
    refine V_get Y.1 fi_X5_124 (hE.1.2.2.2 i hi).1 rfl dX5_renderCard_69 (rfl : _ = 72) ?_
    refine V_cR Y (sV Z (c_J4_append_bf812 l D kA Hs σ _ hg _ _ _ _ _ _ hc1 hc2 (by have h1 := sg_l1 hi; have h2 := sg_len (((W (π 0)).2.2.2.1 i).1 1); omega) hF.2.2.1 (by omega) (by omega)) mi_J4_append_bf812 vi_X5_221 rfl hF.2.2.1.1.choose_spec rfl rfl (Nat.le_of_ble_eq_true rfl) ⟨Nat.le_of_ble_eq_true rfl, Nat.le_of_ble_eq_true rfl⟩ (Nat.le_of_ble_eq_true rfl) (Nat.le_of_ble_eq_true rfl) dX5_renderCard_72) (fun q z => Or.inl z) (rfl : _ = 75) (fun v_72 H72_115 hq_72 o_72 => ?_)
    obtain ⟨-, hS9, -⟩ := hq_72
    have hg := hg.keep o_72 (fun q z => z.elim (fun e => e ▸ (by omega)) (fun e => e ▸ (by omega)))
    have hF := hF.outp o_72 (fun q z => z) hS9
    obtain ⟨E0, hE⟩ := hF.now
    refine V_pop Y.1 dX5_renderCard_75 (rfl : _ = 76) rfl ?_
    refine V_aload_n Y.1 0 dX5_renderCard_76 (rfl : _ = 77) rfl rfl ?_
    refine V_get Y.1 fi_X5_127 (hE.1.2.2.2 i hi).1 rfl dX5_renderCard_77 (rfl : _ = 80) ?_
    refine V_if_eq Y.1 (tgt := 105) dX5_renderCard_80 (by decide) (rfl : _ = 83) (fun c_80 => ?_) (fun c_80 => ?_)
    · refine V_aload_n Y.1 1 dX5_renderCard_105 (rfl : _ = 106) rfl rfl ?_
      refine V_get Y.1 fi_X5_29 hF.1.1 rfl dX5_renderCard_106 (rfl : _ = 109) ?_
      refine V_cP Y (sV Z (c_J4_length_8abf5 l D kA Hs σ _ hg _ _ _ _ _ hF.2.2.1) mi_J4_length_8abf5 vi_X5_228 rfl hF.2.2.1.1.choose_spec rfl rfl (Nat.le_of_ble_eq_true rfl) ⟨Nat.le_of_ble_eq_true rfl, Nat.le_of_ble_eq_true rfl⟩ (Nat.le_of_ble_eq_true rfl) (Nat.le_of_ble_eq_true rfl) dX5_renderCard_109) (rfl : _ = 112) ?_
      have eL : m_card9 (W (π 0)) (nI i).toNatClampNeg = sg (nI i) ++ ([nI 114, nI 58] ++ (sg (((W (π 0)).2.2.2.1 i).1 1) ++ [])) := by unfold m_card9; rw [ei, if_neg c_40, if_pos c_80]; rfl
      simp only [Nat.zero_add] at hF
      exact V_X (V_ret Y.1 dX5_renderCard_112 rfl (Nat.le_of_ble_eq_true rfl) (Nat.le_of_ble_eq_true rfl) ⟨by rw [eL]; simp only [List.length_append, List.length_cons, List.length_nil]; congr 1; omega, hb9, by rw [eL]; exact hF.to (by simp only [List.length_append, List.length_cons, List.length_nil]; omega) (by simp only [r_put_app, r_put, List.length_append, List.length_cons, List.length_nil, Nat.zero_add, Nat.add_assoc, Nat.reduceAdd])⟩)
    · obtain ⟨j, hj, ej⟩ := hjt i hi hi0 c_80
      refine V_aload_n Y.1 1 dX5_renderCard_83 (rfl : _ = 84) rfl rfl ?_
      refine V_get Y.1 fi_X5_29 hF.1.1 rfl dX5_renderCard_84 (rfl : _ = 87) ?_
      refine V_bipush Y.1 (v := 64) dX5_renderCard_87 (rfl : _ = 89) (by decide) ?_
      refine V_cR Y (sV Z (c_J4_append_k l D kA Hs σ _ hg _ _ _ _ _ 64 (by decide) (by have h1 := sg_l1 hi; have h2 := sg_len (((W (π 0)).2.2.2.1 i).1 1); omega) hF.2.2.1 (by omega) (by omega)) mi_J4_append_cf468 vi_X5_225 rfl hF.2.2.1.1.choose_spec rfl rfl (Nat.le_of_ble_eq_true rfl) ⟨Nat.le_of_ble_eq_true rfl, Nat.le_of_ble_eq_true rfl⟩ (Nat.le_of_ble_eq_true rfl) (Nat.le_of_ble_eq_true rfl) dX5_renderCard_89) (fun q z => Or.inl z) (rfl : _ = 92) (fun v_89 H89_132 hq_89 o_89 => ?_)
      obtain ⟨-, hS9, -⟩ := hq_89
      have hg := hg.keep o_89 (fun q z => z.elim (fun e => e ▸ (by omega)) (fun e => e ▸ (by omega)))
      have hF := hF.outp o_89 (fun q z => z) hS9
      obtain ⟨E0, hE⟩ := hF.now
      refine V_pop Y.1 dX5_renderCard_92 (rfl : _ = 93) rfl ?_
      refine V_aload_n Y.1 1 dX5_renderCard_93 (rfl : _ = 94) rfl rfl ?_
      refine V_get Y.1 fi_X5_29 hF.1.1 rfl dX5_renderCard_94 (rfl : _ = 97) ?_
      refine V_aload_n Y.1 0 dX5_renderCard_97 (rfl : _ = 98) rfl rfl ?_
      refine V_get Y.1 fi_X5_133 (hE.1.2.2.2 i hi).1 rfl dX5_renderCard_98 (rfl : _ = 101) ?_
      refine V_nm (v := nI j) ej ?_
      refine V_cR Y (sV Z (c_J4_append_bf812 l D kA Hs σ _ hg _ _ _ _ _ (nI j) (by rw [nI_toInt (by omega)]; omega) (by rw [nI_toInt (by omega)]; omega) (by have h1 := sg_l1 hi; have h2 := sg_len (((W (π 0)).2.2.2.1 i).1 1); have h3 := sg_l2 hj; omega) hF.2.2.1 (by omega) (by omega)) mi_J4_append_bf812 vi_X5_221 rfl hF.2.2.1.1.choose_spec rfl rfl (Nat.le_of_ble_eq_true rfl) ⟨Nat.le_of_ble_eq_true rfl, Nat.le_of_ble_eq_true rfl⟩ (Nat.le_of_ble_eq_true rfl) (Nat.le_of_ble_eq_true rfl) dX5_renderCard_101) (fun q z => Or.inl z) (rfl : _ = 104) (fun v_101 H101_143 hq_101 o_101 => ?_)
      obtain ⟨-, hS9, -⟩ := hq_101
      have hg := hg.keep o_101 (fun q z => z.elim (fun e => e ▸ (by omega)) (fun e => e ▸ (by omega)))
      have hF := hF.outp o_101 (fun q z => z) hS9
      obtain ⟨E0, hE⟩ := hF.now
      refine V_pop Y.1 dX5_renderCard_104 (rfl : _ = 105) rfl ?_
      refine V_aload_n Y.1 1 dX5_renderCard_105 (rfl : _ = 106) rfl rfl ?_
      refine V_get Y.1 fi_X5_29 hF.1.1 rfl dX5_renderCard_106 (rfl : _ = 109) ?_
      refine V_cP Y (sV Z (c_J4_length_8abf5 l D kA Hs σ _ hg _ _ _ _ _ hF.2.2.1) mi_J4_length_8abf5 vi_X5_228 rfl hF.2.2.1.1.choose_spec rfl rfl (Nat.le_of_ble_eq_true rfl) ⟨Nat.le_of_ble_eq_true rfl, Nat.le_of_ble_eq_true rfl⟩ (Nat.le_of_ble_eq_true rfl) (Nat.le_of_ble_eq_true rfl) dX5_renderCard_109) (rfl : _ = 112) ?_
      have eL : m_card9 (W (π 0)) (nI i).toNatClampNeg = sg (nI i) ++ ([nI 114, nI 58] ++ (sg (((W (π 0)).2.2.2.1 i).1 1) ++ (nI 64 :: sg (nI j)))) := by unfold m_card9; rw [ei, if_neg c_40, if_neg c_80, ej]; rfl
      simp only [Nat.zero_add] at hF
      exact V_X (V_ret Y.1 dX5_renderCard_112 rfl (Nat.le_of_ble_eq_true rfl) (Nat.le_of_ble_eq_true rfl) ⟨by rw [eL]; simp only [List.length_append, List.length_cons, List.length_nil]; congr 1; omega, hb9, by rw [eL]; exact hF.to (by simp only [List.length_append, List.length_cons, List.length_nil]; omega) (by simp only [r_put_app, r_put, List.length_append, List.length_cons, List.length_nil, Nat.zero_add, Nat.add_assoc, Nat.reduceAdd])⟩)

set_option maxRecDepth 100000 in
set_option maxHeartbeats 4000000 in
theorem c_X5_renderZones (l : Launch) (D : va_G) (kA : Nat → ClassId) (Hs : Heap) (σ : SG) (H0 : Heap) (hg : Ag Hs H0) (a : Nat) (W : Nat → MS) (π : Nat → Nat) (ES : Nat → Prop) (u : Nat) (hs ep fc : Int32) (no : Nat) (go : Nat → Int32) (vs cs ns : Nat) (gs : Nat → Int32) (hF : Fs D kA H0 a W π ES u hs ep fc no go vs cs ns gs) (hnt : l.stackTraces = false) (hz : ∀ j, j < 12 → ∃ w, w < 10 ∧ (W (π 0)).2.1 j = nI w) (hbs : Hs.size ≤ a) : CtS l D kA Hs σ yX5_renderZones cX5_renderZones 2 (some .int) 10 162 0 0 H0 [.ref a] (fun q => q = a + 321 ∨ q = a + 322) (pI fun v9 H => v9 = nI 12 ∧ Fs D kA H a W π ES u hs ep fc (12) (r_put go 0 (z_l (W (π 0)).2.1 12)) vs cs ns gs) := by
  refine CtS.of mi_X5_renderZones (Nat.le_of_ble_eq_true rfl) (ls0 := [(0, _)]) rfl hg (fun q z => z.elim (fun e => e ▸ (by omega)) (fun e => e ▸ (by omega))) ?_
  intro Pp Ee Ss Mm Ar Bl Me Cc Z hsH hnm
  have Y := Z.1
  have lp : ∀ (m i : Nat) (H : Heap), i + m = 12 → (z_l (W (π 0)).2.1 i).length = i → Fs D kA H a W π ES u hs ep fc (i) (r_put go 0 (z_l (W (π 0)).2.1 i)) vs cs ns gs → Ag Hs H → V Pp l Ee (rmO 10 162 0 0) Ss Mm Ar Bl Me Cc 2 (AA H0 (fun q => q = a + 321 ∨ q = a + 322)) (QC Bl Ar Ss 0 0 H0 (fun q => q = a + 321 ∨ q = a + 322) (pI fun v9 H => v9 = nI 12 ∧ Fs D kA H a W π ES u hs ep fc (12) (r_put go 0 (z_l (W (π 0)).2.1 12)) vs cs ns gs)) H 0 0 10 [(1, .int (nI i)), (0, .ref a)] [] := by
    clear hF hg
    intro m
    induction m with
    | zero =>
      intro i H hi9 hl9 hF hg
      obtain rfl : i = 12 := by omega
      refine V_iload_n Y.1 0 dX5_renderZones_10 (rfl : _ = 11) rfl rfl ?_
      refine V_bipush Y.1 (v := 12) dX5_renderZones_11 (rfl : _ = 13) (by decide) ?_
      refine V_icmp_ge Y.1 (tgt := 42) dX5_renderZones_13 (by decide) (rfl : _ = 16) (fun _ => ?_) (fun c_n => absurd ((nI_leI (a := 12) (b := 12) (by omega) (by omega)).mpr (Nat.le_refl _)) c_n)
      refine V_aload_n Y.1 1 dX5_renderZones_42 (rfl : _ = 43) rfl rfl ?_
      refine V_get Y.1 fi_X5_29 hF.1.1 rfl dX5_renderZones_43 (rfl : _ = 46) ?_
      refine V_cP Y (sV Z (c_J4_length_8abf5 l D kA Hs σ _ hg _ _ _ _ _ hF.2.2.1) mi_J4_length_8abf5 vi_X5_228 rfl hF.2.2.1.1.choose_spec rfl rfl (Nat.le_of_ble_eq_true rfl) ⟨Nat.le_of_ble_eq_true rfl, Nat.le_of_ble_eq_true rfl⟩ (Nat.le_of_ble_eq_true rfl) (Nat.le_of_ble_eq_true rfl) dX5_renderZones_46) (rfl : _ = 49) ?_
      exact V_ret Y.1 dX5_renderZones_49 rfl (Nat.le_of_ble_eq_true rfl) (Nat.le_of_ble_eq_true rfl) ⟨rfl, hF⟩
    | succ m ih =>
      intro i H hi9 hl9 hF hg
      obtain ⟨E0, hE⟩ := hF.now
      obtain ⟨w, hw, ew⟩ := hz i (by omega)
      have e1 : sg ((W (π 0)).2.1 i) = [nI (48 + w)] := by rw [ew, sg_pos (by omega), dg_9 (by omega), Nat.mod_eq_of_lt hw]
      have e2 : (z_l (W (π 0)).2.1 (i + 1)).length = i + 1 := by show (z_l (W (π 0)).2.1 i ++ sg ((W (π 0)).2.1 i)).length = _; rw [List.length_append, hl9, e1]; rfl
      have e3 : r_put (r_put go 0 (z_l (W (π 0)).2.1 i)) i (sg ((W (π 0)).2.1 i)) = r_put go 0 (z_l (W (π 0)).2.1 (i + 1)) := by show _ = r_put go 0 (z_l (W (π 0)).2.1 i ++ sg ((W (π 0)).2.1 i)); rw [r_put_app, hl9, Nat.zero_add]
      refine V_iload_n Y.1 0 dX5_renderZones_10 (rfl : _ = 11) rfl rfl ?_
      refine V_bipush Y.1 (v := 12) dX5_renderZones_11 (rfl : _ = 13) (by decide) ?_
      refine V_icmp_ge Y.1 (tgt := 42) dX5_renderZones_13 (by decide) (rfl : _ = 16) (fun c_n => absurd c_n (fun q => absurd ((nI_leI (a := 12) (b := i) (by omega) (by omega)).mp q) (by omega))) (fun _ => ?_)
      refine V_aload_n Y.1 1 dX5_renderZones_16 (rfl : _ = 17) rfl rfl ?_
      refine V_get Y.1 fi_X5_29 hF.1.1 rfl dX5_renderZones_17 (rfl : _ = 20) ?_
      refine V_aload_n Y.1 1 dX5_renderZones_20 (rfl : _ = 21) rfl rfl ?_
      refine V_get Y.1 fi_X5_10 hF.1.1 rfl dX5_renderZones_21 (rfl : _ = 24) ?_
      refine V_get Y.1 fi_X5_65 hE.1.1 rfl dX5_renderZones_24 (rfl : _ = 27) ?_
      refine V_get Y.1 fi_X5_69 hE.1.2.1.1 rfl dX5_renderZones_27 (rfl : _ = 30) ?_
      refine V_iload_n Y.1 0 dX5_renderZones_30 (rfl : _ = 31) rfl rfl ?_
      refine V_iald Y.1 (v := (W (π 0)).2.1 i) hE.1.2.1.2.1 (by first | assumption | exact vp_in_nI (by omega) (by omega)) (by rw [nI_clamp (by omega)]) dX5_renderZones_31 (rfl : _ = 32) ?_
      refine V_cR Y (sV Z (c_J4_append_bf812 l D kA Hs σ _ hg _ _ _ _ _ ((W (π 0)).2.1 i) (by rw [ew, nI_toInt (by omega)]; omega) (by rw [ew, nI_toInt (by omega)]; omega) (by rw [e1]; show i + 1 ≤ 16; omega) hF.2.2.1 (by omega) (by omega)) mi_J4_append_bf812 vi_X5_221 rfl hF.2.2.1.1.choose_spec rfl rfl (Nat.le_of_ble_eq_true rfl) ⟨Nat.le_of_ble_eq_true rfl, Nat.le_of_ble_eq_true rfl⟩ (Nat.le_of_ble_eq_true rfl) (Nat.le_of_ble_eq_true rfl) dX5_renderZones_32) (fun q z => Or.inl z) (rfl : _ = 35) (fun v_32 H32_11 hq_32 o_32 => ?_)
      obtain ⟨-, hS9, -⟩ := hq_32
      have hg := hg.keep o_32 (fun q z => z.elim (fun e => e ▸ (by omega)) (fun e => e ▸ (by omega)))
      have hF := hF.outp o_32 (fun q z => z) hS9
      obtain ⟨E0, hE⟩ := hF.now
      refine V_pop Y.1 dX5_renderZones_35 (rfl : _ = 36) rfl ?_
      refine V_iinc Y.1 (v := nI (i + 1)) (ls' := [(1, _), (0, _)]) 0 dX5_renderZones_36 (rfl : _ = 39) rfl (nI_1 _) (by decide) rfl ?_
      refine V_goto Y.1 (tgt := 10) dX5_renderZones_39 (by decide) ?_
      exact ih (i + 1) _ (by omega) e2 (hF.to (by rw [e1]; rfl) e3) hg
  refine V_aload_n Y.1 0 dX5_renderZones_0 (rfl : _ = 1) rfl rfl ?_
  refine V_get Y.1 fi_X5_29 hF.1.1 rfl dX5_renderZones_1 (rfl : _ = 4) ?_
  refine V_iconst Y.1 (v := 0) dX5_renderZones_4 (rfl : _ = 5) (by decide) ?_
  refine V_cV Y (sV Z (c_J4_setLength_d00df l D kA Hs σ _ hg _ _ _ no go hF.2.2.1 (by omega)) mi_J4_setLength_d00df vi_X5_218 rfl hF.2.2.1.1.choose_spec rfl rfl (Nat.le_of_ble_eq_true rfl) ⟨Nat.le_of_ble_eq_true rfl, Nat.le_of_ble_eq_true rfl⟩ (Nat.le_of_ble_eq_true rfl) (Nat.le_of_ble_eq_true rfl) dX5_renderZones_5) (fun q z => Or.inl (Or.inl z)) (rfl : _ = 8) (fun H5_3 hq_5 o_5 => ?_)
  obtain ⟨hS9, -⟩ := hq_5
  have hg := hg.keep o_5 (fun q z => z ▸ (by omega))
  have hF := hF.outp o_5 (fun q z => Or.inl z) hS9
  obtain ⟨E0, hE⟩ := hF.now
  refine V_iconst Y.1 (v := 0) dX5_renderZones_8 (rfl : _ = 9) (by decide) ?_
  refine V_istore_n Y.1 (ls' := [(1, _), (0, _)]) dX5_renderZones_9 (rfl : _ = 10) rfl (by decide) rfl ?_
  exact lp 12 0 _ rfl rfl hF hg
