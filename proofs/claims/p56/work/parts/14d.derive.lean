/-! The law's questions at arguments in range and out of it. -/
theorem bs_y {w : Nat} (hw : w < 12) : ¬ b_st (nI w) = 0 := by
  unfold b_st
  rw [if_neg (nI_pos (by omega)), if_neg (by rw [show (12 : Int32) = nI 12 from rfl, nI_leI (by decide) (by omega)]; omega)]
  decide
theorem bs_12 : b_st 12 = 0 := by decide
theorem bs_m : b_st (-1) = 0 := by decide
theorem bc_m (M : MS) : b_card M (-1) = 0 := if_pos (by decide)
theorem mc_i (M : MS) {i : Nat} (hi : i < 2 ^ 31) : m_c M (nI i) = M.2.2.2.1 i := by
  unfold m_c
  rw [nI_clamp hi]
theorem nI_inj9 {a b : Nat} (ha : a < 2 ^ 31) (hb : b < 2 ^ 31) : nI a = nI b ↔ a = b := nI_eq ha hb
section BCX
variable {M : MS} {s : Nat → Int32} {n t q : Nat}
theorem bc_y (h : SQ M s n t q) {i : Nat} (hi : i < n) : ¬ b_card M (nI i) = 0 := by
  have h0 : M.1 0 = nI n := h.1.1.2.1.1.trans h.1.1.1.1
  have h8 : n ≤ 8 := h.1.1.1.2.1
  unfold b_card
  rw [if_neg (nI_pos (by omega)), h0, if_neg (by rw [nI_leI (by omega) (by omega)]; omega), if_neg (by rw [show (8 : Int32) = nI 8 from rfl, nI_leI (by decide) (by omega)]; omega)]
  decide
theorem bc_n (h : SQ M s n t q) : b_card M (nI n) = 0 := by
  have h0 : M.1 0 = nI n := h.1.1.2.1.1.trans h.1.1.1.1
  have h8 : n ≤ 8 := h.1.1.1.2.1
  unfold b_card
  rw [if_neg (nI_pos (by omega)), h0, if_pos (Int32.le_refl _)]
end BCX
theorem dy_y {dd t : Nat} (h30 : t < 2 ^ 30) (h1 : t / 1440 - 2 ≤ dd) (h2 : dd ≤ t / 1440) : ¬ (nI dd < 0 ∨ nI (t / 1440) < nI dd ∨ ¬ nI (t / 1440) - 2 ≤ nI dd) := by
  have e2 : (nI (t / 1440) - 2).toInt = ((t / 1440 : Nat) : Int) - 2 := by rw [i_sub] <;> rw [nI_toInt (by omega), show (2 : Int32).toInt = 2 from by decide] <;> omega
  rintro (z | z | z)
  · exact nI_pos (by omega) z
  · rw [nI_ltI (by omega) (by omega)] at z
    omega
  · apply z
    rw [Int32.le_iff_toInt_le, e2, nI_toInt (by omega)]
    omega
/-- the station, the card with a rank -/
def stB (M : MS) (r : Nat) : Nat := r_fnd (fun i => ln_rk M.2.2.1 i 12) r 12
def caB (M : MS) (d n r : Nat) : Nat := r_fnd (fun i => m_rk M d i n) r n
theorem stB_eq {M : MS} {i r : Nat} (hi : i < 12) (h : ln_rk M.2.2.1 i 12 = r) : i = stB M r := by
  refine (r_fnd_eq 12 hi h (fun j hj e => ?_)).symm
  try dsimp only at e
  rw [← h, ln_rk_B, ln_rk_B] at e
  exact rkB_inj hj hi e
theorem stB_ok (M : MS) {r : Nat} (hr : r < 12) : stB M r < 12 ∧ ln_rk M.2.2.1 (stB M r) 12 = r := by
  obtain ⟨i, hi, e⟩ := pigeon 12 (fun i => ln_rk M.2.2.1 i 12) (fun i hi => by (try dsimp only); rw [ln_rk_B]; exact rkB_lt hi) (fun i j hi hj e => by (try dsimp only at e); rw [ln_rk_B, ln_rk_B] at e; exact rkB_inj hi hj e) r hr
  rw [← stB_eq hi e]
  exact ⟨hi, e⟩
theorem caB_lt (M : MS) (d : Nat) {n i : Nat} (hi : i < n) : m_rk M d i n < n := by
  rw [m_rk_B]
  exact rkB_lt hi
theorem caB_eq {M : MS} {d n i r : Nat} (hi : i < n) (h : m_rk M d i n = r) : i = caB M d n r := by
  refine (r_fnd_eq n hi h (fun j hj e => ?_)).symm
  try dsimp only at e
  rw [← h, m_rk_B, m_rk_B] at e
  exact rkB_inj hj hi e
theorem caB_ok (M : MS) (d : Nat) {n r : Nat} (hr : r < n) : caB M d n r < n ∧ m_rk M d (caB M d n r) n = r := by
  obtain ⟨i, hi, e⟩ := pigeon n (fun i => m_rk M d i n) (fun i hi => caB_lt M d hi) (fun i j hi hj e => by (try dsimp only at e); rw [m_rk_B, m_rk_B] at e; exact rkB_inj hi hj e) r hr
  rw [← caB_eq hi e]
  exact ⟨hi, e⟩
theorem Lw.no16 {D : va_G} {kA : Nat → ClassId} {Hs H : Heap} {a : Nat} {M : MS} {s : Nat → Int32} {n t q u : Nat} {p : Nat → Nat → Int32} {no : Nat} {go : Nat → Int32} {ns : Nat} {X : Nat → Prop} (h : Lw D kA Hs H a M s n t q u p no go ns X) : no ≤ 16 := by
  obtain ⟨W, π, ES, ep, fc, vs, cs, gs, tt, -, -, -, -, -, -, h, -⟩ := h
  exact h.1
theorem c_Y_zones (l : Launch) (D : va_G) (kA : Nat → ClassId) (Hs : Heap) (σ : SG) (H0 : Heap) (hg : Ag Hs H0) (a : Nat) (M : MS) (s : Nat → Int32) (n t q u : Nat) (p : Nat → Nat → Int32) (no : Nat) (go : Nat → Int32) (ns : Nat) (X : Nat → Prop) (f : Nat) (g : Nat) (hJ : Lw D kA Hs H0 a M s n t q u p no go ns X) (hnt : l.stackTraces = false) (hf : f < 12) (hg9 : g < 12) : CtW l D kA Hs σ yL_zones cL_zones 4 (some .int) [(0, 6, 7, 20)] 10 162 4 24 H0 [.ref a, .int (nI f), .int (nI g)] (nof) (pI fun k9 H9 => k9 = ln_cnt M.2.1 f g ∧ H9 = H0) := by
  refine CtW.mono (c_L_zones l D kA Hs σ H0 hg a M s n t q u p no go ns X (nI f) (nI g) hJ hnt) (fun v9 H9 o9 hp9 => ?_)
  have hq := hJ.sq
  obtain ⟨r9, e9, h1, h2⟩ := hp9
  refine ⟨r9, e9, ?_, h2 (fun z => z.elim (bs_y hf) (bs_y hg9))⟩
  rw [h1, if_neg (fun z => z.elim (bs_y hf) (bs_y hg9)), nI_clamp (n := f) (by omega), nI_clamp (n := g) (by omega)]

theorem c_Y_byComparing (l : Launch) (D : va_G) (kA : Nat → ClassId) (Hs : Heap) (σ : SG) (H0 : Heap) (hg : Ag Hs H0) (a : Nat) (M : MS) (s : Nat → Int32) (n t q u : Nat) (p : Nat → Nat → Int32) (no : Nat) (go : Nat → Int32) (ns : Nat) (X : Nat → Prop) (f : Nat) (g : Nat) (hJ : Lw D kA Hs H0 a M s n t q u p no go ns X) (hnt : l.stackTraces = false) (hf : f < 12) (hg9 : g < 12) : CtW l D kA Hs σ yL_byComparing cL_byComparing 4 (some .int) [(0, 6, 7, 20)] 10 162 4 24 H0 [.ref a, .int (nI f), .int (nI g)] (nof) (pI fun k9 H9 => k9 = nI (ln_pairs M.2.1 f g) ∧ H9 = H0) := by
  refine CtW.mono (c_L_byComparing l D kA Hs σ H0 hg a M s n t q u p no go ns X (nI f) (nI g) hJ hnt) (fun v9 H9 o9 hp9 => ?_)
  have hq := hJ.sq
  obtain ⟨r9, e9, h1, h2⟩ := hp9
  refine ⟨r9, e9, ?_, h2 (fun z => z.elim (bs_y hf) (bs_y hg9))⟩
  rw [h1, if_neg (fun z => z.elim (bs_y hf) (bs_y hg9)), nI_clamp (n := f) (by omega), nI_clamp (n := g) (by omega)]

theorem c_Y_fare (l : Launch) (D : va_G) (kA : Nat → ClassId) (Hs : Heap) (σ : SG) (H0 : Heap) (hg : Ag Hs H0) (a : Nat) (M : MS) (s : Nat → Int32) (n t q u : Nat) (p : Nat → Nat → Int32) (no : Nat) (go : Nat → Int32) (ns : Nat) (X : Nat → Prop) (f : Nat) (g : Nat) (hJ : Lw D kA Hs H0 a M s n t q u p no go ns X) (hnt : l.stackTraces = false) (hf : f < 12) (hg9 : g < 12) : CtW l D kA Hs σ yL_fare cL_fare 4 (some .int) [(0, 6, 7, 20)] 10 162 4 24 H0 [.ref a, .int (nI f), .int (nI g)] (nof) (pI fun k9 H9 => k9 = ln_fare M.2.1 (M.1 7) (M.1 8) f g ∧ H9 = H0) := by
  refine CtW.mono (c_L_fare l D kA Hs σ H0 hg a M s n t q u p no go ns X (nI f) (nI g) hJ hnt) (fun v9 H9 o9 hp9 => ?_)
  have hq := hJ.sq
  obtain ⟨r9, e9, h1, h2⟩ := hp9
  refine ⟨r9, e9, ?_, h2 (fun z => z.elim (bs_y hf) (bs_y hg9))⟩
  rw [h1, if_neg (fun z => z.elim (bs_y hf) (bs_y hg9)), nI_clamp (n := f) (by omega), nI_clamp (n := g) (by omega)]

theorem c_Y_taps (l : Launch) (D : va_G) (kA : Nat → ClassId) (Hs : Heap) (σ : SG) (H0 : Heap) (hg : Ag Hs H0) (a : Nat) (M : MS) (s : Nat → Int32) (n t q u : Nat) (p : Nat → Nat → Int32) (no : Nat) (go : Nat → Int32) (ns : Nat) (X : Nat → Prop) (w : Nat) (hJ : Lw D kA Hs H0 a M s n t q u p no go ns X) (hnt : l.stackTraces = false) (hw : w < 12) : CtW l D kA Hs σ yL_taps cL_taps 3 (some .int) [(0, 5, 6, 20)] 10 161 4 24 H0 [.ref a, .int (nI w)] (nof) (pI fun k9 H9 => k9 = M.2.2.1 w ∧ H9 = H0) := by
  refine CtW.mono (c_L_taps l D kA Hs σ H0 hg a M s n t q u p no go ns X (nI w) hJ hnt) (fun v9 H9 o9 hp9 => ?_)
  have hq := hJ.sq
  obtain ⟨r9, e9, h1, h2⟩ := hp9
  refine ⟨r9, e9, ?_, h2 (bs_y hw)⟩
  rw [h1, if_neg (bs_y hw), nI_clamp (by omega)]

theorem c_Y_byTaps (l : Launch) (D : va_G) (kA : Nat → ClassId) (Hs : Heap) (σ : SG) (H0 : Heap) (hg : Ag Hs H0) (a : Nat) (M : MS) (s : Nat → Int32) (n t q u : Nat) (p : Nat → Nat → Int32) (no : Nat) (go : Nat → Int32) (ns : Nat) (X : Nat → Prop) (r : Nat) (hJ : Lw D kA Hs H0 a M s n t q u p no go ns X) (hnt : l.stackTraces = false) (hr : r < 12) : CtW l D kA Hs σ yL_byTaps cL_byTaps 3 (some .int) [(0, 5, 6, 36)] 9 142 4 24 H0 [.ref a, .int (nI r)] (nof) (pI fun k9 H9 => k9 = nI (stB M r) ∧ H9 = H0) := by
  refine CtW.mono (c_L_byTaps l D kA Hs σ H0 hg a M s n t q u p no go ns X (nI r) hJ hnt) (fun v9 H9 o9 hp9 => ?_)
  have hq := hJ.sq
  obtain ⟨r9, e9, h1⟩ := hp9
  refine ⟨r9, e9, ?_⟩
  rcases h1 with ⟨h1, i, hi, h2, h3⟩ | ⟨-, h1⟩
  · refine ⟨?_, h1⟩
    rw [h2, stB_eq hi ((nI_inj9 (by have := ln_rk_le M.2.2.1 i 12; omega) (by omega)).mp h3)]
  · exact absurd (congrArg nI (stB_ok M hr).2) (h1 _ (stB_ok M hr).1)

theorem c_Y_bySpending (l : Launch) (D : va_G) (kA : Nat → ClassId) (Hs : Heap) (σ : SG) (H0 : Heap) (hg : Ag Hs H0) (a : Nat) (M : MS) (s : Nat → Int32) (n t q u : Nat) (p : Nat → Nat → Int32) (no : Nat) (go : Nat → Int32) (ns : Nat) (X : Nat → Prop) (r : Nat) (hJ : Lw D kA Hs H0 a M s n t q u p no go ns X) (hnt : l.stackTraces = false) (hr : r < n) : CtW l D kA Hs σ yL_bySpending cL_bySpending 3 (some .int) [(0, 5, 6, 36)] 9 142 4 24 H0 [.ref a, .int (nI r)] (nof) (pI fun k9 H9 => k9 = nI (caB M (t / 1440) n r) ∧ H9 = H0) := by
  refine CtW.mono (c_L_bySpending l D kA Hs σ H0 hg a M s n t q u p no go ns X (nI r) hJ hnt) (fun v9 H9 o9 hp9 => ?_)
  have hq := hJ.sq
  have h8 := hq.1.1.1.2.1
  obtain ⟨r9, e9, h1⟩ := hp9
  refine ⟨r9, e9, ?_⟩
  rcases h1 with ⟨h1, i, hi, h2, h3⟩ | ⟨-, h1⟩
  · refine ⟨?_, h1⟩
    rw [h2, caB_eq hi ((nI_inj9 (by have := caB_lt M (t / 1440) hi; omega) (by omega)).mp h3)]
  · exact absurd (congrArg nI (caB_ok M (t / 1440) hr).2) (h1 _ (caB_ok M (t / 1440) hr).1)

theorem c_Y_isOnTrip (l : Launch) (D : va_G) (kA : Nat → ClassId) (Hs : Heap) (σ : SG) (H0 : Heap) (hg : Ag Hs H0) (a : Nat) (M : MS) (s : Nat → Int32) (n t q u : Nat) (p : Nat → Nat → Int32) (no : Nat) (go : Nat → Int32) (ns : Nat) (X : Nat → Prop) (i : Nat) (hJ : Lw D kA Hs H0 a M s n t q u p no go ns X) (hnt : l.stackTraces = false) (hi : i < n) : CtW l D kA Hs σ yL_isOnTrip cL_isOnTrip 3 (some .int) [(0, 13, 14, 20)] 10 162 4 24 H0 [.ref a, .int (nI i)] (nof) (pI fun k9 H9 => k9 = (if (M.2.2.2.1 i).1 2 = 0 then 0 else 1) ∧ H9 = H0) := by
  refine CtW.mono (c_L_isOnTrip l D kA Hs σ H0 hg a M s n t q u p no go ns X (nI i) hJ hnt) (fun v9 H9 o9 hp9 => ?_)
  have hq := hJ.sq
  have h8 := hq.1.1.1.2.1
  obtain ⟨r9, e9, h1, h2⟩ := hp9
  refine ⟨r9, e9, ?_, h2 (bc_y hq hi)⟩
  rw [h1, if_neg (bc_y hq hi), mc_i M (show i < 2 ^ 31 by omega)]

theorem c_Y_balance (l : Launch) (D : va_G) (kA : Nat → ClassId) (Hs : Heap) (σ : SG) (H0 : Heap) (hg : Ag Hs H0) (a : Nat) (M : MS) (s : Nat → Int32) (n t q u : Nat) (p : Nat → Nat → Int32) (no : Nat) (go : Nat → Int32) (ns : Nat) (X : Nat → Prop) (i : Nat) (hJ : Lw D kA Hs H0 a M s n t q u p no go ns X) (hnt : l.stackTraces = false) (hi : i < n) : CtW l D kA Hs σ yL_balance cL_balance 3 (some .int) [(0, 5, 6, 20)] 10 162 4 24 H0 [.ref a, .int (nI i)] (nof) (pI fun k9 H9 => k9 = (M.2.2.2.1 i).1 1 ∧ H9 = H0) := by
  refine CtW.mono (c_L_balance l D kA Hs σ H0 hg a M s n t q u p no go ns X (nI i) hJ hnt) (fun v9 H9 o9 hp9 => ?_)
  have hq := hJ.sq
  have h8 := hq.1.1.1.2.1
  obtain ⟨r9, e9, h1, h2⟩ := hp9
  refine ⟨r9, e9, ?_, h2 (bc_y hq hi)⟩
  rw [h1, if_neg (bc_y hq hi), mc_i M (show i < 2 ^ 31 by omega)]

theorem c_Y_left (l : Launch) (D : va_G) (kA : Nat → ClassId) (Hs : Heap) (σ : SG) (H0 : Heap) (hg : Ag Hs H0) (a : Nat) (M : MS) (s : Nat → Int32) (n t q u : Nat) (p : Nat → Nat → Int32) (no : Nat) (go : Nat → Int32) (ns : Nat) (X : Nat → Prop) (i : Nat) (hJ : Lw D kA Hs H0 a M s n t q u p no go ns X) (hnt : l.stackTraces = false) (hi : i < n) : CtW l D kA Hs σ yL_left cL_left 3 (some .int) [(0, 5, 6, 20)] 10 162 4 24 H0 [.ref a, .int (nI i)] (nof) (pI fun k9 H9 => k9 = k_left (M.2.2.2.1 i) (t / 1440) ∧ H9 = H0) := by
  refine CtW.mono (c_L_left l D kA Hs σ H0 hg a M s n t q u p no go ns X (nI i) hJ hnt) (fun v9 H9 o9 hp9 => ?_)
  have hq := hJ.sq
  have h8 := hq.1.1.1.2.1
  obtain ⟨r9, e9, h1, h2⟩ := hp9
  refine ⟨r9, e9, ?_, h2 (bc_y hq hi)⟩
  rw [h1, if_neg (bc_y hq hi), mc_i M (show i < 2 ^ 31 by omega)]

theorem c_Y_tripStart (l : Launch) (D : va_G) (kA : Nat → ClassId) (Hs : Heap) (σ : SG) (H0 : Heap) (hg : Ag Hs H0) (a : Nat) (M : MS) (s : Nat → Int32) (n t q u : Nat) (p : Nat → Nat → Int32) (no : Nat) (go : Nat → Int32) (ns : Nat) (X : Nat → Prop) (i : Nat) (hJ : Lw D kA Hs H0 a M s n t q u p no go ns X) (hnt : l.stackTraces = false) (hi : i < n) (h2t : ¬ (M.2.2.2.1 i).1 2 = 0) : CtW l D kA Hs σ yL_tripStart cL_tripStart 3 (some .int) [(0, 5, 6, 20), (0, 5, 10, 36)] 11 183 4 24 H0 [.ref a, .int (nI i)] (nof) (pI fun k9 H9 => k9 = (M.2.2.2.1 i).1 3 ∧ H9 = H0) := by
  refine CtW.mono (c_L_tripStart l D kA Hs σ H0 hg a M s n t q u p no go ns X (nI i) hJ hnt) (fun v9 H9 o9 hp9 => ?_)
  have hq := hJ.sq
  have h8 := hq.1.1.1.2.1
  obtain ⟨r9, e9, h1, h2⟩ := hp9
  refine ⟨r9, e9, ?_, h2 (bc_y hq hi) (show ¬ (m_c M (nI i)).1 2 = 0 by rw [mc_i M (show i < 2 ^ 31 by omega)]; exact h2t)⟩
  rw [h1, if_neg (bc_y hq hi), if_neg (show ¬ (m_c M (nI i)).1 2 = 0 by rw [mc_i M (show i < 2 ^ 31 by omega)]; exact h2t), mc_i M (show i < 2 ^ 31 by omega)]

theorem c_Z_tripStart (l : Launch) (D : va_G) (kA : Nat → ClassId) (Hs : Heap) (σ : SG) (H0 : Heap) (hg : Ag Hs H0) (a : Nat) (M : MS) (s : Nat → Int32) (n t q u : Nat) (p : Nat → Nat → Int32) (no : Nat) (go : Nat → Int32) (ns : Nat) (X : Nat → Prop) (i : Nat) (hJ : Lw D kA Hs H0 a M s n t q u p no go ns X) (hnt : l.stackTraces = false) (hi : i < n) (h2t : (M.2.2.2.1 i).1 2 = 0) : CtW l D kA Hs σ yL_tripStart cL_tripStart 3 (some .int) [(0, 5, 6, 20), (0, 5, 10, 36)] 11 183 4 24 H0 [.ref a, .int (nI i)] (nof) (pI fun k9 H9 => k9 = -13) := by
  refine CtW.mono (c_L_tripStart l D kA Hs σ H0 hg a M s n t q u p no go ns X (nI i) hJ hnt) (fun v9 H9 o9 hp9 => ?_)
  have hq := hJ.sq
  have h8 := hq.1.1.1.2.1
  obtain ⟨r9, e9, h1, h2⟩ := hp9
  refine ⟨r9, e9, ?_⟩
  rw [h1, if_neg (bc_y hq hi), if_pos (show (m_c M (nI i)).1 2 = 0 by rw [mc_i M (show i < 2 ^ 31 by omega)]; exact h2t)]

theorem c_Y_journeyStart (l : Launch) (D : va_G) (kA : Nat → ClassId) (Hs : Heap) (σ : SG) (H0 : Heap) (hg : Ag Hs H0) (a : Nat) (M : MS) (s : Nat → Int32) (n t q u : Nat) (p : Nat → Nat → Int32) (no : Nat) (go : Nat → Int32) (ns : Nat) (X : Nat → Prop) (i : Nat) (hJ : Lw D kA Hs H0 a M s n t q u p no go ns X) (hnt : l.stackTraces = false) (hi : i < n) (h2t : ¬ (M.2.2.2.1 i).1 2 = 0) : CtW l D kA Hs σ yL_journeyStart cL_journeyStart 3 (some .int) [(0, 5, 6, 20), (0, 5, 10, 36)] 11 183 4 24 H0 [.ref a, .int (nI i)] (nof) (pI fun k9 H9 => k9 = (M.2.2.2.1 i).1 5 ∧ H9 = H0) := by
  refine CtW.mono (c_L_journeyStart l D kA Hs σ H0 hg a M s n t q u p no go ns X (nI i) hJ hnt) (fun v9 H9 o9 hp9 => ?_)
  have hq := hJ.sq
  have h8 := hq.1.1.1.2.1
  obtain ⟨r9, e9, h1, h2⟩ := hp9
  refine ⟨r9, e9, ?_, h2 (bc_y hq hi) (show ¬ (m_c M (nI i)).1 2 = 0 by rw [mc_i M (show i < 2 ^ 31 by omega)]; exact h2t)⟩
  rw [h1, if_neg (bc_y hq hi), if_neg (show ¬ (m_c M (nI i)).1 2 = 0 by rw [mc_i M (show i < 2 ^ 31 by omega)]; exact h2t), mc_i M (show i < 2 ^ 31 by omega)]

theorem c_Z_journeyStart (l : Launch) (D : va_G) (kA : Nat → ClassId) (Hs : Heap) (σ : SG) (H0 : Heap) (hg : Ag Hs H0) (a : Nat) (M : MS) (s : Nat → Int32) (n t q u : Nat) (p : Nat → Nat → Int32) (no : Nat) (go : Nat → Int32) (ns : Nat) (X : Nat → Prop) (i : Nat) (hJ : Lw D kA Hs H0 a M s n t q u p no go ns X) (hnt : l.stackTraces = false) (hi : i < n) (h2t : (M.2.2.2.1 i).1 2 = 0) : CtW l D kA Hs σ yL_journeyStart cL_journeyStart 3 (some .int) [(0, 5, 6, 20), (0, 5, 10, 36)] 11 183 4 24 H0 [.ref a, .int (nI i)] (nof) (pI fun k9 H9 => k9 = -13) := by
  refine CtW.mono (c_L_journeyStart l D kA Hs σ H0 hg a M s n t q u p no go ns X (nI i) hJ hnt) (fun v9 H9 o9 hp9 => ?_)
  have hq := hJ.sq
  have h8 := hq.1.1.1.2.1
  obtain ⟨r9, e9, h1, h2⟩ := hp9
  refine ⟨r9, e9, ?_⟩
  rw [h1, if_neg (bc_y hq hi), if_pos (show (m_c M (nI i)).1 2 = 0 by rw [mc_i M (show i < 2 ^ 31 by omega)]; exact h2t)]

theorem c_Y_minutesLeft (l : Launch) (D : va_G) (kA : Nat → ClassId) (Hs : Heap) (σ : SG) (H0 : Heap) (hg : Ag Hs H0) (a : Nat) (M : MS) (s : Nat → Int32) (n t q u : Nat) (p : Nat → Nat → Int32) (no : Nat) (go : Nat → Int32) (ns : Nat) (X : Nat → Prop) (i : Nat) (hJ : Lw D kA Hs H0 a M s n t q u p no go ns X) (hnt : l.stackTraces = false) (hi : i < n) (h2t : ¬ (M.2.2.2.1 i).1 2 = 0) : CtW l D kA Hs σ yL_minutesLeft cL_minutesLeft 3 (some .int) [(0, 5, 6, 20), (0, 5, 10, 36)] 11 183 4 24 H0 [.ref a, .int (nI i)] (nof) (pI fun k9 H9 => k9 = (M.2.2.2.1 i).1 4 + 180 - M.1 1 ∧ H9 = H0) := by
  refine CtW.mono (c_L_minutesLeft l D kA Hs σ H0 hg a M s n t q u p no go ns X (nI i) hJ hnt) (fun v9 H9 o9 hp9 => ?_)
  have hq := hJ.sq
  have h8 := hq.1.1.1.2.1
  obtain ⟨r9, e9, h1, h2⟩ := hp9
  refine ⟨r9, e9, ?_, h2 (bc_y hq hi) (show ¬ (m_c M (nI i)).1 2 = 0 by rw [mc_i M (show i < 2 ^ 31 by omega)]; exact h2t)⟩
  rw [h1, if_neg (bc_y hq hi), if_neg (show ¬ (m_c M (nI i)).1 2 = 0 by rw [mc_i M (show i < 2 ^ 31 by omega)]; exact h2t), mc_i M (show i < 2 ^ 31 by omega)]

theorem c_Z_minutesLeft (l : Launch) (D : va_G) (kA : Nat → ClassId) (Hs : Heap) (σ : SG) (H0 : Heap) (hg : Ag Hs H0) (a : Nat) (M : MS) (s : Nat → Int32) (n t q u : Nat) (p : Nat → Nat → Int32) (no : Nat) (go : Nat → Int32) (ns : Nat) (X : Nat → Prop) (i : Nat) (hJ : Lw D kA Hs H0 a M s n t q u p no go ns X) (hnt : l.stackTraces = false) (hi : i < n) (h2t : (M.2.2.2.1 i).1 2 = 0) : CtW l D kA Hs σ yL_minutesLeft cL_minutesLeft 3 (some .int) [(0, 5, 6, 20), (0, 5, 10, 36)] 11 183 4 24 H0 [.ref a, .int (nI i)] (nof) (pI fun k9 H9 => k9 = -13) := by
  refine CtW.mono (c_L_minutesLeft l D kA Hs σ H0 hg a M s n t q u p no go ns X (nI i) hJ hnt) (fun v9 H9 o9 hp9 => ?_)
  have hq := hJ.sq
  have h8 := hq.1.1.1.2.1
  obtain ⟨r9, e9, h1, h2⟩ := hp9
  refine ⟨r9, e9, ?_⟩
  rw [h1, if_neg (bc_y hq hi), if_pos (show (m_c M (nI i)).1 2 = 0 by rw [mc_i M (show i < 2 ^ 31 by omega)]; exact h2t)]

theorem c_Y_chargeIf (l : Launch) (D : va_G) (kA : Nat → ClassId) (Hs : Heap) (σ : SG) (H0 : Heap) (hg : Ag Hs H0) (a : Nat) (M : MS) (s : Nat → Int32) (n t q u : Nat) (p : Nat → Nat → Int32) (no : Nat) (go : Nat → Int32) (ns : Nat) (X : Nat → Prop) (i w : Nat) (hJ : Lw D kA Hs H0 a M s n t q u p no go ns X) (hnt : l.stackTraces = false) (hi : i < n) (hw : w < 12) (h2t : ¬ (M.2.2.2.1 i).1 2 = 0) : CtW l D kA Hs σ yL_chargeIf cL_chargeIf 4 (some .int) [(0, 6, 7, 20), (0, 6, 11, 36)] 11 184 4 24 H0 [.ref a, .int (nI i), .int (nI w)] (nof) (pI fun k9 H9 => k9 = k_trip (M.2.2.2.1 i) M.2.1 (M.1 7) (M.1 8) ((M.2.2.2.1 i).1 5).toNatClampNeg w (t / 1440) ∧ H9 = H0) := by
  refine CtW.mono (c_L_chargeIf l D kA Hs σ H0 hg a M s n t q u p no go ns X (nI i) (nI w) hJ hnt) (fun v9 H9 o9 hp9 => ?_)
  have hq := hJ.sq
  have h8 := hq.1.1.1.2.1
  obtain ⟨r9, e9, h1, h2⟩ := hp9
  refine ⟨r9, e9, ?_, h2 (fun z => z.elim (bs_y hw) (bc_y hq hi)) (show ¬ (m_c M (nI i)).1 2 = 0 by rw [mc_i M (show i < 2 ^ 31 by omega)]; exact h2t)⟩
  rw [h1, if_neg (fun z => z.elim (bs_y hw) (bc_y hq hi)), if_neg (show ¬ (m_c M (nI i)).1 2 = 0 by rw [mc_i M (show i < 2 ^ 31 by omega)]; exact h2t), mc_i M (show i < 2 ^ 31 by omega), nI_clamp (n := w) (by omega)]

theorem c_Z_chargeIf (l : Launch) (D : va_G) (kA : Nat → ClassId) (Hs : Heap) (σ : SG) (H0 : Heap) (hg : Ag Hs H0) (a : Nat) (M : MS) (s : Nat → Int32) (n t q u : Nat) (p : Nat → Nat → Int32) (no : Nat) (go : Nat → Int32) (ns : Nat) (X : Nat → Prop) (i w : Nat) (hJ : Lw D kA Hs H0 a M s n t q u p no go ns X) (hnt : l.stackTraces = false) (hi : i < n) (hw : w < 12) (h2t : (M.2.2.2.1 i).1 2 = 0) : CtW l D kA Hs σ yL_chargeIf cL_chargeIf 4 (some .int) [(0, 6, 7, 20), (0, 6, 11, 36)] 11 184 4 24 H0 [.ref a, .int (nI i), .int (nI w)] (nof) (pI fun k9 H9 => k9 = -13) := by
  refine CtW.mono (c_L_chargeIf l D kA Hs σ H0 hg a M s n t q u p no go ns X (nI i) (nI w) hJ hnt) (fun v9 H9 o9 hp9 => ?_)
  have hq := hJ.sq
  have h8 := hq.1.1.1.2.1
  obtain ⟨r9, e9, h1, h2⟩ := hp9
  refine ⟨r9, e9, ?_⟩
  rw [h1, if_neg (fun z => z.elim (bs_y hw) (bc_y hq hi)), if_pos (show (m_c M (nI i)).1 2 = 0 by rw [mc_i M (show i < 2 ^ 31 by omega)]; exact h2t)]

theorem c_Y_continues (l : Launch) (D : va_G) (kA : Nat → ClassId) (Hs : Heap) (σ : SG) (H0 : Heap) (hg : Ag Hs H0) (a : Nat) (M : MS) (s : Nat → Int32) (n t q u : Nat) (p : Nat → Nat → Int32) (no : Nat) (go : Nat → Int32) (ns : Nat) (X : Nat → Prop) (i w : Nat) (hJ : Lw D kA Hs H0 a M s n t q u p no go ns X) (hnt : l.stackTraces = false) (hi : i < n) (hw : w < 12) : CtW l D kA Hs σ yL_continues cL_continues 4 (some .int) [(0, 14, 15, 20)] 10 163 4 24 H0 [.ref a, .int (nI i), .int (nI w)] (nof) (pI fun k9 H9 => k9 = (if k_cont (M.2.2.2.1 i) (nI w) (M.1 1) = 0 then 0 else 1) ∧ H9 = H0) := by
  refine CtW.mono (c_L_continues l D kA Hs σ H0 hg a M s n t q u p no go ns X (nI i) (nI w) hJ hnt) (fun v9 H9 o9 hp9 => ?_)
  have hq := hJ.sq
  have h8 := hq.1.1.1.2.1
  obtain ⟨r9, e9, h1, h2⟩ := hp9
  refine ⟨r9, e9, ?_, h2 (fun z => z.elim (bc_y hq hi) (bs_y hw))⟩
  rw [h1, if_neg (fun z => z.elim (bc_y hq hi) (bs_y hw)), mc_i M (show i < 2 ^ 31 by omega)]

theorem c_Y_chargedOn (l : Launch) (D : va_G) (kA : Nat → ClassId) (Hs : Heap) (σ : SG) (H0 : Heap) (hg : Ag Hs H0) (a : Nat) (M : MS) (s : Nat → Int32) (n t q u : Nat) (p : Nat → Nat → Int32) (no : Nat) (go : Nat → Int32) (ns : Nat) (X : Nat → Prop) (i dd : Nat) (hJ : Lw D kA Hs H0 a M s n t q u p no go ns X) (hnt : l.stackTraces = false) (hi : i < n) (hd1 : t / 1440 - 2 ≤ dd) (hd2 : dd ≤ t / 1440) : CtW l D kA Hs σ yL_chargedOn cL_chargedOn 4 (some .int) [(0, 6, 7, 20), (0, 6, 11, 22)] 10 164 4 24 H0 [.ref a, .int (nI i), .int (nI dd)] (nof) (pI fun k9 H9 => k9 = k_sumOf (M.2.2.2.1 i) dd ∧ H9 = H0) := by
  refine CtW.mono (c_L_chargedOn l D kA Hs σ H0 hg a M s n t q u p no go ns X (nI i) (nI dd) hJ hnt) (fun v9 H9 o9 hp9 => ?_)
  have hq := hJ.sq
  have h8 := hq.1.1.1.2.1
  have h30 := hq.1.1.t30
  obtain ⟨r9, e9, h1, h2⟩ := hp9
  refine ⟨r9, e9, ?_, h2 (bc_y hq hi) (dy_y hq.1.1.t30 hd1 hd2)⟩
  rw [h1, if_neg (bc_y hq hi), if_neg (dy_y hq.1.1.t30 hd1 hd2), mc_i M (show i < 2 ^ 31 by omega), nI_clamp (n := dd) (by omega)]

theorem c_B_chargedOn (l : Launch) (D : va_G) (kA : Nat → ClassId) (Hs : Heap) (σ : SG) (H0 : Heap) (hg : Ag Hs H0) (a : Nat) (M : MS) (s : Nat → Int32) (n t q u : Nat) (p : Nat → Nat → Int32) (no : Nat) (go : Nat → Int32) (ns : Nat) (X : Nat → Prop) (i : Nat) (y : Int32) (hJ : Lw D kA Hs H0 a M s n t q u p no go ns X) (hnt : l.stackTraces = false) (hi : i < n) (hy : y < 0 ∨ nI (t / 1440) < y ∨ ¬ nI (t / 1440) - 2 ≤ y) : CtW l D kA Hs σ yL_chargedOn cL_chargedOn 4 (some .int) [(0, 6, 7, 20), (0, 6, 11, 22)] 10 164 4 24 H0 [.ref a, .int (nI i), .int y] (nof) (pI fun k9 H9 => k9 = -12) := by
  refine CtW.mono (c_L_chargedOn l D kA Hs σ H0 hg a M s n t q u p no go ns X (nI i) y hJ hnt) (fun v9 H9 o9 hp9 => ?_)
  have hq := hJ.sq
  have h8 := hq.1.1.1.2.1
  obtain ⟨r9, e9, h1, h2⟩ := hp9
  refine ⟨r9, e9, ?_⟩
  rw [h1, if_neg (bc_y hq hi), if_pos hy]

theorem c_Y_byRecords (l : Launch) (D : va_G) (kA : Nat → ClassId) (Hs : Heap) (σ : SG) (H0 : Heap) (hg : Ag Hs H0) (a : Nat) (M : MS) (s : Nat → Int32) (n t q u : Nat) (p : Nat → Nat → Int32) (no : Nat) (go : Nat → Int32) (ns : Nat) (X : Nat → Prop) (i dd : Nat) (hJ : Lw D kA Hs H0 a M s n t q u p no go ns X) (hnt : l.stackTraces = false) (hi : i < n) (hd1 : t / 1440 - 2 ≤ dd) (hd2 : dd ≤ t / 1440) : CtW l D kA Hs σ yL_byRecords cL_byRecords 4 (some .int) [(0, 6, 7, 20), (0, 6, 11, 22)] 10 164 4 24 H0 [.ref a, .int (nI i), .int (nI dd)] (nof) (pI fun k9 H9 => k9 = k_recs (nI dd) (M.2.2.2.2 i) 0 ∧ H9 = H0) := by
  refine CtW.mono (c_L_byRecords l D kA Hs σ H0 hg a M s n t q u p no go ns X (nI i) (nI dd) hJ hnt) (fun v9 H9 o9 hp9 => ?_)
  have hq := hJ.sq
  have h8 := hq.1.1.1.2.1
  have h30 := hq.1.1.t30
  obtain ⟨r9, e9, h1, h2⟩ := hp9
  refine ⟨r9, e9, ?_, h2 (bc_y hq hi) (dy_y hq.1.1.t30 hd1 hd2)⟩
  rw [h1, if_neg (bc_y hq hi), if_neg (dy_y hq.1.1.t30 hd1 hd2), nI_clamp (n := i) (by omega)]

theorem c_B_byRecords (l : Launch) (D : va_G) (kA : Nat → ClassId) (Hs : Heap) (σ : SG) (H0 : Heap) (hg : Ag Hs H0) (a : Nat) (M : MS) (s : Nat → Int32) (n t q u : Nat) (p : Nat → Nat → Int32) (no : Nat) (go : Nat → Int32) (ns : Nat) (X : Nat → Prop) (i : Nat) (y : Int32) (hJ : Lw D kA Hs H0 a M s n t q u p no go ns X) (hnt : l.stackTraces = false) (hi : i < n) (hy : y < 0 ∨ nI (t / 1440) < y ∨ ¬ nI (t / 1440) - 2 ≤ y) : CtW l D kA Hs σ yL_byRecords cL_byRecords 4 (some .int) [(0, 6, 7, 20), (0, 6, 11, 22)] 10 164 4 24 H0 [.ref a, .int (nI i), .int y] (nof) (pI fun k9 H9 => k9 = -12) := by
  refine CtW.mono (c_L_byRecords l D kA Hs σ H0 hg a M s n t q u p no go ns X (nI i) y hJ hnt) (fun v9 H9 o9 hp9 => ?_)
  have hq := hJ.sq
  have h8 := hq.1.1.1.2.1
  obtain ⟨r9, e9, h1, h2⟩ := hp9
  refine ⟨r9, e9, ?_⟩
  rw [h1, if_neg (bc_y hq hi), if_pos hy]

theorem c_Y_outputAt (l : Launch) (D : va_G) (kA : Nat → ClassId) (Hs : Heap) (σ : SG) (H0 : Heap) (hg : Ag Hs H0) (a : Nat) (M : MS) (s : Nat → Int32) (n t q u : Nat) (p : Nat → Nat → Int32) (no : Nat) (go : Nat → Int32) (ns : Nat) (X : Nat → Prop) (k : Nat) (hJ : Lw D kA Hs H0 a M s n t q u p no go ns X) (hnt : l.stackTraces = false) (hk : k < no) : CtW l D kA Hs σ yL_outputAt cL_outputAt 3 (some .int) [(0, 5, 6, 20)] 9 141 4 24 H0 [.ref a, .int (nI k)] (nof) (pI fun k9 H9 => k9 = go k ∧ H9 = H0) := by
  refine CtW.mono (c_L_outputAt l D kA Hs σ H0 hg a M s n t q u p no go ns X (nI k) hJ hnt) (fun v9 H9 o9 hp9 => ?_)
  have hq := hJ.sq
  have h16 := hJ.no16
  obtain ⟨r9, e9, h1, h2⟩ := hp9
  have hn9 : ¬ (nI k < 0 ∨ ¬ nI k < nI no) := fun z => z.elim (fun z => nI_pos (by omega) z) (fun z => z (nI_lt hk (by omega)))
  refine ⟨r9, e9, ?_, h2 hn9⟩
  rw [h1, if_neg hn9, nI_clamp (by omega)]

theorem c_N_outputAt (l : Launch) (D : va_G) (kA : Nat → ClassId) (Hs : Heap) (σ : SG) (H0 : Heap) (hg : Ag Hs H0) (a : Nat) (M : MS) (s : Nat → Int32) (n t q u : Nat) (p : Nat → Nat → Int32) (no : Nat) (go : Nat → Int32) (ns : Nat) (X : Nat → Prop)  (hJ : Lw D kA Hs H0 a M s n t q u p no go ns X) (hnt : l.stackTraces = false)  : CtW l D kA Hs σ yL_outputAt cL_outputAt 3 (some .int) [(0, 5, 6, 20)] 9 141 4 24 H0 [.ref a, .int (nI no)] (nof) (pI fun k9 H9 => k9 = -11) := by
  refine CtW.mono (c_L_outputAt l D kA Hs σ H0 hg a M s n t q u p no go ns X (nI no) hJ hnt) (fun v9 H9 o9 hp9 => ?_)
  have hq := hJ.sq
  have h16 := hJ.no16
  obtain ⟨r9, e9, h1, h2⟩ := hp9
  refine ⟨r9, e9, ?_⟩
  rw [h1, if_pos (show nI no < 0 ∨ ¬ nI no < nI no from Or.inr (nI_nlt (Nat.le_refl _) (by omega)))]

theorem c_N_zone (l : Launch) (D : va_G) (kA : Nat → ClassId) (Hs : Heap) (σ : SG) (H0 : Heap) (hg : Ag Hs H0) (a : Nat) (M : MS) (s : Nat → Int32) (n t q u : Nat) (p : Nat → Nat → Int32) (no : Nat) (go : Nat → Int32) (ns : Nat) (X : Nat → Prop) (x : Int32) (hJ : Lw D kA Hs H0 a M s n t q u p no go ns X) (hnt : l.stackTraces = false) (hc : b_st x = 0) : CtW l D kA Hs σ yL_zone cL_zone 3 (some .int) [(0, 5, 6, 20)] 10 161 4 24 H0 [.ref a, .int x] (nof) (pI fun k9 H9 => k9 = -11) := by
  refine CtW.mono (c_L_zone l D kA Hs σ H0 hg a M s n t q u p no go ns X x hJ hnt) (fun v9 H9 o9 hp9 => ?_)
  have hq := hJ.sq
  obtain ⟨r9, e9, h1, h2⟩ := hp9
  refine ⟨r9, e9, ?_⟩
  rw [h1, if_pos hc]

theorem c_N_zones (l : Launch) (D : va_G) (kA : Nat → ClassId) (Hs : Heap) (σ : SG) (H0 : Heap) (hg : Ag Hs H0) (a : Nat) (M : MS) (s : Nat → Int32) (n t q u : Nat) (p : Nat → Nat → Int32) (no : Nat) (go : Nat → Int32) (ns : Nat) (X : Nat → Prop) (x y : Int32) (hJ : Lw D kA Hs H0 a M s n t q u p no go ns X) (hnt : l.stackTraces = false) (hc : b_st x = 0 ∨ b_st y = 0) : CtW l D kA Hs σ yL_zones cL_zones 4 (some .int) [(0, 6, 7, 20)] 10 162 4 24 H0 [.ref a, .int x, .int y] (nof) (pI fun k9 H9 => k9 = -11) := by
  refine CtW.mono (c_L_zones l D kA Hs σ H0 hg a M s n t q u p no go ns X x y hJ hnt) (fun v9 H9 o9 hp9 => ?_)
  have hq := hJ.sq
  obtain ⟨r9, e9, h1, h2⟩ := hp9
  refine ⟨r9, e9, ?_⟩
  rw [h1, if_pos hc]

theorem c_N_byComparing (l : Launch) (D : va_G) (kA : Nat → ClassId) (Hs : Heap) (σ : SG) (H0 : Heap) (hg : Ag Hs H0) (a : Nat) (M : MS) (s : Nat → Int32) (n t q u : Nat) (p : Nat → Nat → Int32) (no : Nat) (go : Nat → Int32) (ns : Nat) (X : Nat → Prop) (x y : Int32) (hJ : Lw D kA Hs H0 a M s n t q u p no go ns X) (hnt : l.stackTraces = false) (hc : b_st x = 0 ∨ b_st y = 0) : CtW l D kA Hs σ yL_byComparing cL_byComparing 4 (some .int) [(0, 6, 7, 20)] 10 162 4 24 H0 [.ref a, .int x, .int y] (nof) (pI fun k9 H9 => k9 = -11) := by
  refine CtW.mono (c_L_byComparing l D kA Hs σ H0 hg a M s n t q u p no go ns X x y hJ hnt) (fun v9 H9 o9 hp9 => ?_)
  have hq := hJ.sq
  obtain ⟨r9, e9, h1, h2⟩ := hp9
  refine ⟨r9, e9, ?_⟩
  rw [h1, if_pos hc]

theorem c_N_fare (l : Launch) (D : va_G) (kA : Nat → ClassId) (Hs : Heap) (σ : SG) (H0 : Heap) (hg : Ag Hs H0) (a : Nat) (M : MS) (s : Nat → Int32) (n t q u : Nat) (p : Nat → Nat → Int32) (no : Nat) (go : Nat → Int32) (ns : Nat) (X : Nat → Prop) (x y : Int32) (hJ : Lw D kA Hs H0 a M s n t q u p no go ns X) (hnt : l.stackTraces = false) (hc : b_st x = 0 ∨ b_st y = 0) : CtW l D kA Hs σ yL_fare cL_fare 4 (some .int) [(0, 6, 7, 20)] 10 162 4 24 H0 [.ref a, .int x, .int y] (nof) (pI fun k9 H9 => k9 = -11) := by
  refine CtW.mono (c_L_fare l D kA Hs σ H0 hg a M s n t q u p no go ns X x y hJ hnt) (fun v9 H9 o9 hp9 => ?_)
  have hq := hJ.sq
  obtain ⟨r9, e9, h1, h2⟩ := hp9
  refine ⟨r9, e9, ?_⟩
  rw [h1, if_pos hc]

theorem c_N_taps (l : Launch) (D : va_G) (kA : Nat → ClassId) (Hs : Heap) (σ : SG) (H0 : Heap) (hg : Ag Hs H0) (a : Nat) (M : MS) (s : Nat → Int32) (n t q u : Nat) (p : Nat → Nat → Int32) (no : Nat) (go : Nat → Int32) (ns : Nat) (X : Nat → Prop) (x : Int32) (hJ : Lw D kA Hs H0 a M s n t q u p no go ns X) (hnt : l.stackTraces = false) (hc : b_st x = 0) : CtW l D kA Hs σ yL_taps cL_taps 3 (some .int) [(0, 5, 6, 20)] 10 161 4 24 H0 [.ref a, .int x] (nof) (pI fun k9 H9 => k9 = -11) := by
  refine CtW.mono (c_L_taps l D kA Hs σ H0 hg a M s n t q u p no go ns X x hJ hnt) (fun v9 H9 o9 hp9 => ?_)
  have hq := hJ.sq
  obtain ⟨r9, e9, h1, h2⟩ := hp9
  refine ⟨r9, e9, ?_⟩
  rw [h1, if_pos hc]

theorem c_N_isReduced (l : Launch) (D : va_G) (kA : Nat → ClassId) (Hs : Heap) (σ : SG) (H0 : Heap) (hg : Ag Hs H0) (a : Nat) (M : MS) (s : Nat → Int32) (n t q u : Nat) (p : Nat → Nat → Int32) (no : Nat) (go : Nat → Int32) (ns : Nat) (X : Nat → Prop) (x : Int32) (hJ : Lw D kA Hs H0 a M s n t q u p no go ns X) (hnt : l.stackTraces = false) (hc : b_card M x = 0) : CtW l D kA Hs σ yL_isReduced cL_isReduced 3 (some .int) [(0, 13, 14, 20)] 10 162 4 24 H0 [.ref a, .int x] (nof) (pI fun k9 H9 => k9 = -11) := by
  refine CtW.mono (c_L_isReduced l D kA Hs σ H0 hg a M s n t q u p no go ns X x hJ hnt) (fun v9 H9 o9 hp9 => ?_)
  have hq := hJ.sq
  obtain ⟨r9, e9, h1, h2⟩ := hp9
  refine ⟨r9, e9, ?_⟩
  rw [h1, if_pos hc]

theorem c_N_balance (l : Launch) (D : va_G) (kA : Nat → ClassId) (Hs : Heap) (σ : SG) (H0 : Heap) (hg : Ag Hs H0) (a : Nat) (M : MS) (s : Nat → Int32) (n t q u : Nat) (p : Nat → Nat → Int32) (no : Nat) (go : Nat → Int32) (ns : Nat) (X : Nat → Prop) (x : Int32) (hJ : Lw D kA Hs H0 a M s n t q u p no go ns X) (hnt : l.stackTraces = false) (hc : b_card M x = 0) : CtW l D kA Hs σ yL_balance cL_balance 3 (some .int) [(0, 5, 6, 20)] 10 162 4 24 H0 [.ref a, .int x] (nof) (pI fun k9 H9 => k9 = -30011) := by
  refine CtW.mono (c_L_balance l D kA Hs σ H0 hg a M s n t q u p no go ns X x hJ hnt) (fun v9 H9 o9 hp9 => ?_)
  have hq := hJ.sq
  obtain ⟨r9, e9, h1, h2⟩ := hp9
  refine ⟨r9, e9, ?_⟩
  rw [h1, if_pos hc]

theorem c_N_isOnTrip (l : Launch) (D : va_G) (kA : Nat → ClassId) (Hs : Heap) (σ : SG) (H0 : Heap) (hg : Ag Hs H0) (a : Nat) (M : MS) (s : Nat → Int32) (n t q u : Nat) (p : Nat → Nat → Int32) (no : Nat) (go : Nat → Int32) (ns : Nat) (X : Nat → Prop) (x : Int32) (hJ : Lw D kA Hs H0 a M s n t q u p no go ns X) (hnt : l.stackTraces = false) (hc : b_card M x = 0) : CtW l D kA Hs σ yL_isOnTrip cL_isOnTrip 3 (some .int) [(0, 13, 14, 20)] 10 162 4 24 H0 [.ref a, .int x] (nof) (pI fun k9 H9 => k9 = -11) := by
  refine CtW.mono (c_L_isOnTrip l D kA Hs σ H0 hg a M s n t q u p no go ns X x hJ hnt) (fun v9 H9 o9 hp9 => ?_)
  have hq := hJ.sq
  obtain ⟨r9, e9, h1, h2⟩ := hp9
  refine ⟨r9, e9, ?_⟩
  rw [h1, if_pos hc]

theorem c_N_tripStart (l : Launch) (D : va_G) (kA : Nat → ClassId) (Hs : Heap) (σ : SG) (H0 : Heap) (hg : Ag Hs H0) (a : Nat) (M : MS) (s : Nat → Int32) (n t q u : Nat) (p : Nat → Nat → Int32) (no : Nat) (go : Nat → Int32) (ns : Nat) (X : Nat → Prop) (x : Int32) (hJ : Lw D kA Hs H0 a M s n t q u p no go ns X) (hnt : l.stackTraces = false) (hc : b_card M x = 0) : CtW l D kA Hs σ yL_tripStart cL_tripStart 3 (some .int) [(0, 5, 6, 20), (0, 5, 10, 36)] 11 183 4 24 H0 [.ref a, .int x] (nof) (pI fun k9 H9 => k9 = -11) := by
  refine CtW.mono (c_L_tripStart l D kA Hs σ H0 hg a M s n t q u p no go ns X x hJ hnt) (fun v9 H9 o9 hp9 => ?_)
  have hq := hJ.sq
  obtain ⟨r9, e9, h1, h2⟩ := hp9
  refine ⟨r9, e9, ?_⟩
  rw [h1, if_pos hc]

theorem c_N_journeyStart (l : Launch) (D : va_G) (kA : Nat → ClassId) (Hs : Heap) (σ : SG) (H0 : Heap) (hg : Ag Hs H0) (a : Nat) (M : MS) (s : Nat → Int32) (n t q u : Nat) (p : Nat → Nat → Int32) (no : Nat) (go : Nat → Int32) (ns : Nat) (X : Nat → Prop) (x : Int32) (hJ : Lw D kA Hs H0 a M s n t q u p no go ns X) (hnt : l.stackTraces = false) (hc : b_card M x = 0) : CtW l D kA Hs σ yL_journeyStart cL_journeyStart 3 (some .int) [(0, 5, 6, 20), (0, 5, 10, 36)] 11 183 4 24 H0 [.ref a, .int x] (nof) (pI fun k9 H9 => k9 = -11) := by
  refine CtW.mono (c_L_journeyStart l D kA Hs σ H0 hg a M s n t q u p no go ns X x hJ hnt) (fun v9 H9 o9 hp9 => ?_)
  have hq := hJ.sq
  obtain ⟨r9, e9, h1, h2⟩ := hp9
  refine ⟨r9, e9, ?_⟩
  rw [h1, if_pos hc]

theorem c_N_minutesLeft (l : Launch) (D : va_G) (kA : Nat → ClassId) (Hs : Heap) (σ : SG) (H0 : Heap) (hg : Ag Hs H0) (a : Nat) (M : MS) (s : Nat → Int32) (n t q u : Nat) (p : Nat → Nat → Int32) (no : Nat) (go : Nat → Int32) (ns : Nat) (X : Nat → Prop) (x : Int32) (hJ : Lw D kA Hs H0 a M s n t q u p no go ns X) (hnt : l.stackTraces = false) (hc : b_card M x = 0) : CtW l D kA Hs σ yL_minutesLeft cL_minutesLeft 3 (some .int) [(0, 5, 6, 20), (0, 5, 10, 36)] 11 183 4 24 H0 [.ref a, .int x] (nof) (pI fun k9 H9 => k9 = -11) := by
  refine CtW.mono (c_L_minutesLeft l D kA Hs σ H0 hg a M s n t q u p no go ns X x hJ hnt) (fun v9 H9 o9 hp9 => ?_)
  have hq := hJ.sq
  obtain ⟨r9, e9, h1, h2⟩ := hp9
  refine ⟨r9, e9, ?_⟩
  rw [h1, if_pos hc]

theorem c_N_continues (l : Launch) (D : va_G) (kA : Nat → ClassId) (Hs : Heap) (σ : SG) (H0 : Heap) (hg : Ag Hs H0) (a : Nat) (M : MS) (s : Nat → Int32) (n t q u : Nat) (p : Nat → Nat → Int32) (no : Nat) (go : Nat → Int32) (ns : Nat) (X : Nat → Prop) (x y : Int32) (hJ : Lw D kA Hs H0 a M s n t q u p no go ns X) (hnt : l.stackTraces = false) (hc : b_card M x = 0 ∨ b_st y = 0) : CtW l D kA Hs σ yL_continues cL_continues 4 (some .int) [(0, 14, 15, 20)] 10 163 4 24 H0 [.ref a, .int x, .int y] (nof) (pI fun k9 H9 => k9 = -11) := by
  refine CtW.mono (c_L_continues l D kA Hs σ H0 hg a M s n t q u p no go ns X x y hJ hnt) (fun v9 H9 o9 hp9 => ?_)
  have hq := hJ.sq
  obtain ⟨r9, e9, h1, h2⟩ := hp9
  refine ⟨r9, e9, ?_⟩
  rw [h1, if_pos hc]

theorem c_N_chargeIf (l : Launch) (D : va_G) (kA : Nat → ClassId) (Hs : Heap) (σ : SG) (H0 : Heap) (hg : Ag Hs H0) (a : Nat) (M : MS) (s : Nat → Int32) (n t q u : Nat) (p : Nat → Nat → Int32) (no : Nat) (go : Nat → Int32) (ns : Nat) (X : Nat → Prop) (x y : Int32) (hJ : Lw D kA Hs H0 a M s n t q u p no go ns X) (hnt : l.stackTraces = false) (hc : b_st y = 0 ∨ b_card M x = 0) : CtW l D kA Hs σ yL_chargeIf cL_chargeIf 4 (some .int) [(0, 6, 7, 20), (0, 6, 11, 36)] 11 184 4 24 H0 [.ref a, .int x, .int y] (nof) (pI fun k9 H9 => k9 = -11) := by
  refine CtW.mono (c_L_chargeIf l D kA Hs σ H0 hg a M s n t q u p no go ns X x y hJ hnt) (fun v9 H9 o9 hp9 => ?_)
  have hq := hJ.sq
  obtain ⟨r9, e9, h1, h2⟩ := hp9
  refine ⟨r9, e9, ?_⟩
  rw [h1, if_pos hc]

theorem c_N_chargedOn (l : Launch) (D : va_G) (kA : Nat → ClassId) (Hs : Heap) (σ : SG) (H0 : Heap) (hg : Ag Hs H0) (a : Nat) (M : MS) (s : Nat → Int32) (n t q u : Nat) (p : Nat → Nat → Int32) (no : Nat) (go : Nat → Int32) (ns : Nat) (X : Nat → Prop) (x y : Int32) (hJ : Lw D kA Hs H0 a M s n t q u p no go ns X) (hnt : l.stackTraces = false) (hc : b_card M x = 0) : CtW l D kA Hs σ yL_chargedOn cL_chargedOn 4 (some .int) [(0, 6, 7, 20), (0, 6, 11, 22)] 10 164 4 24 H0 [.ref a, .int x, .int y] (nof) (pI fun k9 H9 => k9 = -11) := by
  refine CtW.mono (c_L_chargedOn l D kA Hs σ H0 hg a M s n t q u p no go ns X x y hJ hnt) (fun v9 H9 o9 hp9 => ?_)
  have hq := hJ.sq
  obtain ⟨r9, e9, h1, h2⟩ := hp9
  refine ⟨r9, e9, ?_⟩
  rw [h1, if_pos hc]

theorem c_N_byRecords (l : Launch) (D : va_G) (kA : Nat → ClassId) (Hs : Heap) (σ : SG) (H0 : Heap) (hg : Ag Hs H0) (a : Nat) (M : MS) (s : Nat → Int32) (n t q u : Nat) (p : Nat → Nat → Int32) (no : Nat) (go : Nat → Int32) (ns : Nat) (X : Nat → Prop) (x y : Int32) (hJ : Lw D kA Hs H0 a M s n t q u p no go ns X) (hnt : l.stackTraces = false) (hc : b_card M x = 0) : CtW l D kA Hs σ yL_byRecords cL_byRecords 4 (some .int) [(0, 6, 7, 20), (0, 6, 11, 22)] 10 164 4 24 H0 [.ref a, .int x, .int y] (nof) (pI fun k9 H9 => k9 = -11) := by
  refine CtW.mono (c_L_byRecords l D kA Hs σ H0 hg a M s n t q u p no go ns X x y hJ hnt) (fun v9 H9 o9 hp9 => ?_)
  have hq := hJ.sq
  obtain ⟨r9, e9, h1, h2⟩ := hp9
  refine ⟨r9, e9, ?_⟩
  rw [h1, if_pos hc]

theorem c_N_left (l : Launch) (D : va_G) (kA : Nat → ClassId) (Hs : Heap) (σ : SG) (H0 : Heap) (hg : Ag Hs H0) (a : Nat) (M : MS) (s : Nat → Int32) (n t q u : Nat) (p : Nat → Nat → Int32) (no : Nat) (go : Nat → Int32) (ns : Nat) (X : Nat → Prop) (x : Int32) (hJ : Lw D kA Hs H0 a M s n t q u p no go ns X) (hnt : l.stackTraces = false) (hc : b_card M x = 0) : CtW l D kA Hs σ yL_left cL_left 3 (some .int) [(0, 5, 6, 20)] 10 162 4 24 H0 [.ref a, .int x] (nof) (pI fun k9 H9 => k9 = -11) := by
  refine CtW.mono (c_L_left l D kA Hs σ H0 hg a M s n t q u p no go ns X x hJ hnt) (fun v9 H9 o9 hp9 => ?_)
  have hq := hJ.sq
  obtain ⟨r9, e9, h1, h2⟩ := hp9
  refine ⟨r9, e9, ?_⟩
  rw [h1, if_pos hc]

theorem c_N_isRepairable (l : Launch) (D : va_G) (kA : Nat → ClassId) (Hs : Heap) (σ : SG) (H0 : Heap) (hg : Ag Hs H0) (a : Nat) (M : MS) (s : Nat → Int32) (n t q u : Nat) (p : Nat → Nat → Int32) (no : Nat) (go : Nat → Int32) (ns : Nat) (X : Nat → Prop) (x : Int32) (hJ : Lw D kA Hs H0 a M s n t q u p no go ns X) (hnt : l.stackTraces = false) (hc : b_card M x = 0) : CtW l D kA Hs σ yL_isRepairable cL_isRepairable 3 (some .int) [(0, 13, 14, 20)] 10 162 4 24 H0 [.ref a, .int x] (nof) (pI fun k9 H9 => k9 = -11) := by
  refine CtW.mono (c_L_isRepairable l D kA Hs σ H0 hg a M s n t q u p no go ns X x hJ hnt) (fun v9 H9 o9 hp9 => ?_)
  have hq := hJ.sq
  obtain ⟨r9, e9, h1, h2⟩ := hp9
  refine ⟨r9, e9, ?_⟩
  rw [h1, if_pos hc]

theorem c_N_byTaps (l : Launch) (D : va_G) (kA : Nat → ClassId) (Hs : Heap) (σ : SG) (H0 : Heap) (hg : Ag Hs H0) (a : Nat) (M : MS) (s : Nat → Int32) (n t q u : Nat) (p : Nat → Nat → Int32) (no : Nat) (go : Nat → Int32) (ns : Nat) (X : Nat → Prop) (x : Int32) (hJ : Lw D kA Hs H0 a M s n t q u p no go ns X) (hnt : l.stackTraces = false) (hx : ∀ r, r < 12 → ¬ nI r = x) : CtW l D kA Hs σ yL_byTaps cL_byTaps 3 (some .int) [(0, 5, 6, 36)] 9 142 4 24 H0 [.ref a, .int x] (nof) (pI fun k9 H9 => k9 = -13) := by
  refine CtW.mono (c_L_byTaps l D kA Hs σ H0 hg a M s n t q u p no go ns X x hJ hnt) (fun v9 H9 o9 hp9 => ?_)
  have hq := hJ.sq
  obtain ⟨r9, e9, h1⟩ := hp9
  refine ⟨r9, e9, ?_⟩
  rcases h1 with ⟨-, j, hj, -, h3⟩ | ⟨h1, -⟩
  · exact absurd h3 (hx _ (by rw [ln_rk_B]; exact rkB_lt hj))
  · exact h1

theorem c_N_bySpending (l : Launch) (D : va_G) (kA : Nat → ClassId) (Hs : Heap) (σ : SG) (H0 : Heap) (hg : Ag Hs H0) (a : Nat) (M : MS) (s : Nat → Int32) (n t q u : Nat) (p : Nat → Nat → Int32) (no : Nat) (go : Nat → Int32) (ns : Nat) (X : Nat → Prop) (x : Int32) (hJ : Lw D kA Hs H0 a M s n t q u p no go ns X) (hnt : l.stackTraces = false) (hx : ∀ r, r < n → ¬ nI r = x) : CtW l D kA Hs σ yL_bySpending cL_bySpending 3 (some .int) [(0, 5, 6, 36)] 9 142 4 24 H0 [.ref a, .int x] (nof) (pI fun k9 H9 => k9 = -13) := by
  refine CtW.mono (c_L_bySpending l D kA Hs σ H0 hg a M s n t q u p no go ns X x hJ hnt) (fun v9 H9 o9 hp9 => ?_)
  have hq := hJ.sq
  obtain ⟨r9, e9, h1⟩ := hp9
  refine ⟨r9, e9, ?_⟩
  rcases h1 with ⟨-, j, hj, -, h3⟩ | ⟨h1, -⟩
  · exact absurd h3 (hx _ (by rw [m_rk_B]; exact rkB_lt hj))
  · exact h1

theorem c_D_time (l : Launch) (D : va_G) (kA : Nat → ClassId) (Hs : Heap) (σ : SG) (H0 : Heap) (hg : Ag Hs H0) (a : Nat) (M : MS) (s : Nat → Int32) (n t q u : Nat) (p : Nat → Nat → Int32) (no : Nat) (go : Nat → Int32) (ns : Nat) (X : Nat → Prop)  (hJ : Lw D kA Hs H0 a M s n t q u p no go ns X) (hnt : l.stackTraces = false)  : CtS l D kA Hs σ yX5_time cX5_time 1 (some .int) 0 0 0 0 H0 [.ref a] (nof) (pI fun v9 H => v9 = M.1 1 ∧ H = H0) := by
  obtain ⟨W, π, ES, ep, fc, vs, cs, gs, tt, hF, rfl, hS, hH, -, hba, hou, hsc, hX⟩ := id hJ
  exact c_X5_time l D kA Hs σ H0 hg a W π ES u 0 ep fc no go vs cs ns gs hF hnt

theorem c_D_cardCount (l : Launch) (D : va_G) (kA : Nat → ClassId) (Hs : Heap) (σ : SG) (H0 : Heap) (hg : Ag Hs H0) (a : Nat) (M : MS) (s : Nat → Int32) (n t q u : Nat) (p : Nat → Nat → Int32) (no : Nat) (go : Nat → Int32) (ns : Nat) (X : Nat → Prop)  (hJ : Lw D kA Hs H0 a M s n t q u p no go ns X) (hnt : l.stackTraces = false)  : CtS l D kA Hs σ yX5_cardCount cX5_cardCount 1 (some .int) 0 0 0 0 H0 [.ref a] (nof) (pI fun v9 H => v9 = M.1 0 ∧ H = H0) := by
  obtain ⟨W, π, ES, ep, fc, vs, cs, gs, tt, hF, rfl, hS, hH, -, hba, hou, hsc, hX⟩ := id hJ
  exact c_X5_cardCount l D kA Hs σ H0 hg a W π ES u 0 ep fc no go vs cs ns gs hF hnt

theorem c_D_loadedTotal (l : Launch) (D : va_G) (kA : Nat → ClassId) (Hs : Heap) (σ : SG) (H0 : Heap) (hg : Ag Hs H0) (a : Nat) (M : MS) (s : Nat → Int32) (n t q u : Nat) (p : Nat → Nat → Int32) (no : Nat) (go : Nat → Int32) (ns : Nat) (X : Nat → Prop)  (hJ : Lw D kA Hs H0 a M s n t q u p no go ns X) (hnt : l.stackTraces = false)  : CtS l D kA Hs σ yX5_loadedTotal cX5_loadedTotal 1 (some .int) 0 0 0 0 H0 [.ref a] (nof) (pI fun v9 H => v9 = M.1 2 ∧ H = H0) := by
  obtain ⟨W, π, ES, ep, fc, vs, cs, gs, tt, hF, rfl, hS, hH, -, hba, hou, hsc, hX⟩ := id hJ
  exact c_X5_loadedTotal l D kA Hs σ H0 hg a W π ES u 0 ep fc no go vs cs ns gs hF hnt

theorem c_D_chargedTotal (l : Launch) (D : va_G) (kA : Nat → ClassId) (Hs : Heap) (σ : SG) (H0 : Heap) (hg : Ag Hs H0) (a : Nat) (M : MS) (s : Nat → Int32) (n t q u : Nat) (p : Nat → Nat → Int32) (no : Nat) (go : Nat → Int32) (ns : Nat) (X : Nat → Prop)  (hJ : Lw D kA Hs H0 a M s n t q u p no go ns X) (hnt : l.stackTraces = false)  : CtS l D kA Hs σ yX5_chargedTotal cX5_chargedTotal 1 (some .int) 0 0 0 0 H0 [.ref a] (nof) (pI fun v9 H => v9 = M.1 3 ∧ H = H0) := by
  obtain ⟨W, π, ES, ep, fc, vs, cs, gs, tt, hF, rfl, hS, hH, -, hba, hou, hsc, hX⟩ := id hJ
  exact c_X5_chargedTotal l D kA Hs σ H0 hg a W π ES u 0 ep fc no go vs cs ns gs hF hnt

theorem c_D_paidBackTotal (l : Launch) (D : va_G) (kA : Nat → ClassId) (Hs : Heap) (σ : SG) (H0 : Heap) (hg : Ag Hs H0) (a : Nat) (M : MS) (s : Nat → Int32) (n t q u : Nat) (p : Nat → Nat → Int32) (no : Nat) (go : Nat → Int32) (ns : Nat) (X : Nat → Prop)  (hJ : Lw D kA Hs H0 a M s n t q u p no go ns X) (hnt : l.stackTraces = false)  : CtS l D kA Hs σ yX5_paidBackTotal cX5_paidBackTotal 1 (some .int) 0 0 0 0 H0 [.ref a] (nof) (pI fun v9 H => v9 = M.1 4 ∧ H = H0) := by
  obtain ⟨W, π, ES, ep, fc, vs, cs, gs, tt, hF, rfl, hS, hH, -, hba, hou, hsc, hX⟩ := id hJ
  exact c_X5_paidBackTotal l D kA Hs σ H0 hg a W π ES u 0 ep fc no go vs cs ns gs hF hnt

theorem c_D_completeTrips (l : Launch) (D : va_G) (kA : Nat → ClassId) (Hs : Heap) (σ : SG) (H0 : Heap) (hg : Ag Hs H0) (a : Nat) (M : MS) (s : Nat → Int32) (n t q u : Nat) (p : Nat → Nat → Int32) (no : Nat) (go : Nat → Int32) (ns : Nat) (X : Nat → Prop)  (hJ : Lw D kA Hs H0 a M s n t q u p no go ns X) (hnt : l.stackTraces = false)  : CtS l D kA Hs σ yX5_completeTrips cX5_completeTrips 1 (some .int) 0 0 0 0 H0 [.ref a] (nof) (pI fun v9 H => v9 = M.1 5 ∧ H = H0) := by
  obtain ⟨W, π, ES, ep, fc, vs, cs, gs, tt, hF, rfl, hS, hH, -, hba, hou, hsc, hX⟩ := id hJ
  exact c_X5_completeTrips l D kA Hs σ H0 hg a W π ES u 0 ep fc no go vs cs ns gs hF hnt

theorem c_D_incompleteTrips (l : Launch) (D : va_G) (kA : Nat → ClassId) (Hs : Heap) (σ : SG) (H0 : Heap) (hg : Ag Hs H0) (a : Nat) (M : MS) (s : Nat → Int32) (n t q u : Nat) (p : Nat → Nat → Int32) (no : Nat) (go : Nat → Int32) (ns : Nat) (X : Nat → Prop)  (hJ : Lw D kA Hs H0 a M s n t q u p no go ns X) (hnt : l.stackTraces = false)  : CtS l D kA Hs σ yX5_incompleteTrips cX5_incompleteTrips 1 (some .int) 0 0 0 0 H0 [.ref a] (nof) (pI fun v9 H => v9 = M.1 6 ∧ H = H0) := by
  obtain ⟨W, π, ES, ep, fc, vs, cs, gs, tt, hF, rfl, hS, hH, -, hba, hou, hsc, hX⟩ := id hJ
  exact c_X5_incompleteTrips l D kA Hs σ H0 hg a W π ES u 0 ep fc no go vs cs ns gs hF hnt

theorem c_D_baseFare (l : Launch) (D : va_G) (kA : Nat → ClassId) (Hs : Heap) (σ : SG) (H0 : Heap) (hg : Ag Hs H0) (a : Nat) (M : MS) (s : Nat → Int32) (n t q u : Nat) (p : Nat → Nat → Int32) (no : Nat) (go : Nat → Int32) (ns : Nat) (X : Nat → Prop)  (hJ : Lw D kA Hs H0 a M s n t q u p no go ns X) (hnt : l.stackTraces = false)  : CtS l D kA Hs σ yX5_baseFare cX5_baseFare 1 (some .int) 0 0 0 0 H0 [.ref a] (nof) (pI fun v9 H => v9 = M.1 7 ∧ H = H0) := by
  obtain ⟨W, π, ES, ep, fc, vs, cs, gs, tt, hF, rfl, hS, hH, -, hba, hou, hsc, hX⟩ := id hJ
  exact c_X5_baseFare l D kA Hs σ H0 hg a W π ES u 0 ep fc no go vs cs ns gs hF hnt

theorem c_D_zoneFare (l : Launch) (D : va_G) (kA : Nat → ClassId) (Hs : Heap) (σ : SG) (H0 : Heap) (hg : Ag Hs H0) (a : Nat) (M : MS) (s : Nat → Int32) (n t q u : Nat) (p : Nat → Nat → Int32) (no : Nat) (go : Nat → Int32) (ns : Nat) (X : Nat → Prop)  (hJ : Lw D kA Hs H0 a M s n t q u p no go ns X) (hnt : l.stackTraces = false)  : CtS l D kA Hs σ yX5_zoneFare cX5_zoneFare 1 (some .int) 0 0 0 0 H0 [.ref a] (nof) (pI fun v9 H => v9 = M.1 8 ∧ H = H0) := by
  obtain ⟨W, π, ES, ep, fc, vs, cs, gs, tt, hF, rfl, hS, hH, -, hba, hou, hsc, hX⟩ := id hJ
  exact c_X5_zoneFare l D kA Hs σ H0 hg a W π ES u 0 ep fc no go vs cs ns gs hF hnt

theorem c_D_day (l : Launch) (D : va_G) (kA : Nat → ClassId) (Hs : Heap) (σ : SG) (H0 : Heap) (hg : Ag Hs H0) (a : Nat) (M : MS) (s : Nat → Int32) (n t q u : Nat) (p : Nat → Nat → Int32) (no : Nat) (go : Nat → Int32) (ns : Nat) (X : Nat → Prop)  (hJ : Lw D kA Hs H0 a M s n t q u p no go ns X) (hnt : l.stackTraces = false)  : CtS l D kA Hs σ yX5_day cX5_day 1 (some .int) 1 20 0 0 H0 [.ref a] (nof) (pI fun v9 H => v9 = M.1 1 / 1440 ∧ H = H0) := by
  obtain ⟨W, π, ES, ep, fc, vs, cs, gs, tt, hF, rfl, hS, hH, -, hba, hou, hsc, hX⟩ := id hJ
  exact c_X5_day l D kA Hs σ H0 hg a W π ES u 0 ep fc no go vs cs ns gs hF hnt

theorem c_D_defaultFare (l : Launch) (D : va_G) (kA : Nat → ClassId) (Hs : Heap) (σ : SG) (H0 : Heap) (hg : Ag Hs H0) (a : Nat) (M : MS) (s : Nat → Int32) (n t q u : Nat) (p : Nat → Nat → Int32) (no : Nat) (go : Nat → Int32) (ns : Nat) (X : Nat → Prop)  (hJ : Lw D kA Hs H0 a M s n t q u p no go ns X) (hnt : l.stackTraces = false)  : CtS l D kA Hs σ yX5_defaultFare cX5_defaultFare 1 (some .int) 1 20 0 0 H0 [.ref a] (nof) (pI fun v9 H => v9 = M.1 7 + 5 * M.1 8 ∧ H = H0) := by
  obtain ⟨W, π, ES, ep, fc, vs, cs, gs, tt, hF, rfl, hS, hH, -, hba, hou, hsc, hX⟩ := id hJ
  exact c_X5_defaultFare l D kA Hs σ H0 hg a W π ES u 0 ep fc no go vs cs ns gs hF hnt

theorem c_D_isConsistent (l : Launch) (D : va_G) (kA : Nat → ClassId) (Hs : Heap) (σ : SG) (H0 : Heap) (hg : Ag Hs H0) (a : Nat) (M : MS) (s : Nat → Int32) (n t q u : Nat) (p : Nat → Nat → Int32) (no : Nat) (go : Nat → Int32) (ns : Nat) (X : Nat → Prop)  (hJ : Lw D kA Hs H0 a M s n t q u p no go ns X) (hnt : l.stackTraces = false)  : CtS l D kA Hs σ yX5_isConsistent cX5_isConsistent 1 (some .boolean) 3 74 0 0 H0 [.ref a] (nof) (pI fun v9 H => v9 = 1 ∧ H = H0) := by
  obtain ⟨W, π, ES, ep, fc, vs, cs, gs, tt, hF, rfl, hS, hH, -, hba, hou, hsc, hX⟩ := id hJ
  exact c_X5_isConsistent l D kA Hs σ H0 hg a W π ES u 0 ep fc no go vs cs ns gs n (hS.1.1.2.1.1.trans hS.1.1.1.1) hS.1.1.1.2.1 (t / 1440) hS.1.1.day (by have := hS.1.1.t30; omega) hF hnt (fun f9 g9 hf9 hg9 => (zc hS.1.1.zo hf9 hg9).1) hS.1.hcons hS.1.1.2.2.2.2.2.2.1

theorem c_D_zone (l : Launch) (D : va_G) (kA : Nat → ClassId) (Hs : Heap) (σ : SG) (H0 : Heap) (hg : Ag Hs H0) (a : Nat) (M : MS) (s : Nat → Int32) (n t q u : Nat) (p : Nat → Nat → Int32) (no : Nat) (go : Nat → Int32) (ns : Nat) (X : Nat → Prop) (w : Nat) (hJ : Lw D kA Hs H0 a M s n t q u p no go ns X) (hnt : l.stackTraces = false) (hw : w < 12) : CtS l D kA Hs σ yX5_zone cX5_zone 2 (some .int) 9 140 4 24 H0 [.ref a, .int (nI w)] (nof) (pI fun v9 H => v9 = M.2.1 w ∧ H = H0) := by
  have hq := hJ.sq
  have h8 := hq.1.1.1.2.1
  have h30 := hq.1.1.t30
  obtain ⟨W, π, ES, ep, fc, vs, cs, gs, tt, hF, rfl, hS, hH, -, hba, hou, hsc, hX⟩ := id hJ
  refine CtSX.pure (c_X5_zone l D kA Hs σ H0 hg a W π ES u 0 ep fc no go vs cs ns gs (nI w) hF hnt) (fun E9 H9 hx9 => bs_y hw hx9.2) (fun v9 H9 o9 hp9 => ?_)
  obtain ⟨r9, e9, h1, h2, h3⟩ := hp9
  refine ⟨r9, e9, ?_, h2⟩
  rw [h1, nI_clamp (by omega)]

theorem c_D_taps (l : Launch) (D : va_G) (kA : Nat → ClassId) (Hs : Heap) (σ : SG) (H0 : Heap) (hg : Ag Hs H0) (a : Nat) (M : MS) (s : Nat → Int32) (n t q u : Nat) (p : Nat → Nat → Int32) (no : Nat) (go : Nat → Int32) (ns : Nat) (X : Nat → Prop) (w : Nat) (hJ : Lw D kA Hs H0 a M s n t q u p no go ns X) (hnt : l.stackTraces = false) (hw : w < 12) : CtS l D kA Hs σ yX5_taps cX5_taps 2 (some .int) 9 140 4 24 H0 [.ref a, .int (nI w)] (nof) (pI fun v9 H => v9 = M.2.2.1 w ∧ H = H0) := by
  have hq := hJ.sq
  have h8 := hq.1.1.1.2.1
  have h30 := hq.1.1.t30
  obtain ⟨W, π, ES, ep, fc, vs, cs, gs, tt, hF, rfl, hS, hH, -, hba, hou, hsc, hX⟩ := id hJ
  refine CtSX.pure (c_X5_taps l D kA Hs σ H0 hg a W π ES u 0 ep fc no go vs cs ns gs (nI w) hF hnt) (fun E9 H9 hx9 => bs_y hw hx9.2) (fun v9 H9 o9 hp9 => ?_)
  obtain ⟨r9, e9, h1, h2, h3⟩ := hp9
  refine ⟨r9, e9, ?_, h2⟩
  rw [h1, nI_clamp (by omega)]

theorem c_D_isReduced (l : Launch) (D : va_G) (kA : Nat → ClassId) (Hs : Heap) (σ : SG) (H0 : Heap) (hg : Ag Hs H0) (a : Nat) (M : MS) (s : Nat → Int32) (n t q u : Nat) (p : Nat → Nat → Int32) (no : Nat) (go : Nat → Int32) (ns : Nat) (X : Nat → Prop) (i : Nat) (hJ : Lw D kA Hs H0 a M s n t q u p no go ns X) (hnt : l.stackTraces = false) (hi : i < n) : CtS l D kA Hs σ yX5_isReduced cX5_isReduced 2 (some .boolean) 9 141 4 24 H0 [.ref a, .int (nI i)] (nof) (pI fun v9 H => v9 = (M.2.2.2.1 i).1 0 ∧ H = H0) := by
  have hq := hJ.sq
  have h8 := hq.1.1.1.2.1
  have h30 := hq.1.1.t30
  obtain ⟨W, π, ES, ep, fc, vs, cs, gs, tt, hF, rfl, hS, hH, -, hba, hou, hsc, hX⟩ := id hJ
  refine CtSX.pure (c_X5_isReduced l D kA Hs σ H0 hg a W π ES u 0 ep fc no go vs cs ns gs (nI i) hF hnt hS.1.hok) (fun E9 H9 hx9 => bc_y hq hi hx9.2) (fun v9 H9 o9 hp9 => ?_)
  obtain ⟨r9, e9, h1, h2, h3⟩ := hp9
  refine ⟨r9, e9, ?_, h2⟩
  rw [h1, mc_i (W (π 0)) (show i < 2 ^ 31 by omega)]

theorem c_D_balance (l : Launch) (D : va_G) (kA : Nat → ClassId) (Hs : Heap) (σ : SG) (H0 : Heap) (hg : Ag Hs H0) (a : Nat) (M : MS) (s : Nat → Int32) (n t q u : Nat) (p : Nat → Nat → Int32) (no : Nat) (go : Nat → Int32) (ns : Nat) (X : Nat → Prop) (i : Nat) (hJ : Lw D kA Hs H0 a M s n t q u p no go ns X) (hnt : l.stackTraces = false) (hi : i < n) : CtS l D kA Hs σ yX5_balance cX5_balance 2 (some .int) 9 141 4 24 H0 [.ref a, .int (nI i)] (nof) (pI fun v9 H => v9 = (M.2.2.2.1 i).1 1 ∧ H = H0) := by
  have hq := hJ.sq
  have h8 := hq.1.1.1.2.1
  have h30 := hq.1.1.t30
  obtain ⟨W, π, ES, ep, fc, vs, cs, gs, tt, hF, rfl, hS, hH, -, hba, hou, hsc, hX⟩ := id hJ
  refine CtSX.pure (c_X5_balance l D kA Hs σ H0 hg a W π ES u 0 ep fc no go vs cs ns gs (nI i) hF hnt) (fun E9 H9 hx9 => bc_y hq hi hx9.2) (fun v9 H9 o9 hp9 => ?_)
  obtain ⟨r9, e9, h1, h2, h3⟩ := hp9
  refine ⟨r9, e9, ?_, h2⟩
  rw [h1, mc_i (W (π 0)) (show i < 2 ^ 31 by omega)]

theorem c_D_isOnTrip (l : Launch) (D : va_G) (kA : Nat → ClassId) (Hs : Heap) (σ : SG) (H0 : Heap) (hg : Ag Hs H0) (a : Nat) (M : MS) (s : Nat → Int32) (n t q u : Nat) (p : Nat → Nat → Int32) (no : Nat) (go : Nat → Int32) (ns : Nat) (X : Nat → Prop) (i : Nat) (hJ : Lw D kA Hs H0 a M s n t q u p no go ns X) (hnt : l.stackTraces = false) (hi : i < n) : CtS l D kA Hs σ yX5_isOnTrip cX5_isOnTrip 2 (some .boolean) 9 141 4 24 H0 [.ref a, .int (nI i)] (nof) (pI fun v9 H => v9 = (M.2.2.2.1 i).1 2 ∧ H = H0) := by
  have hq := hJ.sq
  have h8 := hq.1.1.1.2.1
  have h30 := hq.1.1.t30
  obtain ⟨W, π, ES, ep, fc, vs, cs, gs, tt, hF, rfl, hS, hH, -, hba, hou, hsc, hX⟩ := id hJ
  refine CtSX.pure (c_X5_isOnTrip l D kA Hs σ H0 hg a W π ES u 0 ep fc no go vs cs ns gs (nI i) hF hnt hS.1.hok) (fun E9 H9 hx9 => bc_y hq hi hx9.2) (fun v9 H9 o9 hp9 => ?_)
  obtain ⟨r9, e9, h1, h2, h3⟩ := hp9
  refine ⟨r9, e9, ?_, h2⟩
  rw [h1, mc_i (W (π 0)) (show i < 2 ^ 31 by omega)]

theorem c_D_isRepairable (l : Launch) (D : va_G) (kA : Nat → ClassId) (Hs : Heap) (σ : SG) (H0 : Heap) (hg : Ag Hs H0) (a : Nat) (M : MS) (s : Nat → Int32) (n t q u : Nat) (p : Nat → Nat → Int32) (no : Nat) (go : Nat → Int32) (ns : Nat) (X : Nat → Prop) (i : Nat) (hJ : Lw D kA Hs H0 a M s n t q u p no go ns X) (hnt : l.stackTraces = false) (hi : i < n) : CtS l D kA Hs σ yX5_isRepairable cX5_isRepairable 2 (some .boolean) 9 141 4 24 H0 [.ref a, .int (nI i)] (nof) (pI fun v9 H => v9 = (if (M.2.2.2.1 i).1 10 = 0 then 0 else m_rep M (nI i)) ∧ H = H0) := by
  have hq := hJ.sq
  have h8 := hq.1.1.1.2.1
  have h30 := hq.1.1.t30
  obtain ⟨W, π, ES, ep, fc, vs, cs, gs, tt, hF, rfl, hS, hH, -, hba, hou, hsc, hX⟩ := id hJ
  refine CtSX.pure (c_X5_isRepairable l D kA Hs σ H0 hg a W π ES u 0 ep fc no go vs cs ns gs (nI i) hF hnt) (fun E9 H9 hx9 => bc_y hq hi hx9.2) (fun v9 H9 o9 hp9 => ?_)
  obtain ⟨r9, e9, h1, h2, h3⟩ := hp9
  refine ⟨r9, e9, ?_, h2⟩
  rw [h1, mc_i (W (π 0)) (show i < 2 ^ 31 by omega)]

theorem c_D_tripStart (l : Launch) (D : va_G) (kA : Nat → ClassId) (Hs : Heap) (σ : SG) (H0 : Heap) (hg : Ag Hs H0) (a : Nat) (M : MS) (s : Nat → Int32) (n t q u : Nat) (p : Nat → Nat → Int32) (no : Nat) (go : Nat → Int32) (ns : Nat) (X : Nat → Prop) (i : Nat) (hJ : Lw D kA Hs H0 a M s n t q u p no go ns X) (hnt : l.stackTraces = false) (hi : i < n) (h2t : ¬ (M.2.2.2.1 i).1 2 = 0) : CtS l D kA Hs σ yX5_tripStart cX5_tripStart 2 (some .int) 10 162 4 24 H0 [.ref a, .int (nI i)] (nof) (pI fun v9 H => v9 = (M.2.2.2.1 i).1 3 ∧ H = H0) := by
  have hq := hJ.sq
  have h8 := hq.1.1.1.2.1
  have h30 := hq.1.1.t30
  obtain ⟨W, π, ES, ep, fc, vs, cs, gs, tt, hF, rfl, hS, hH, -, hba, hou, hsc, hX⟩ := id hJ
  refine CtSX.pure (c_X5_tripStart l D kA Hs σ H0 hg a W π ES u 0 ep fc no go vs cs ns gs (nI i) hF hnt) (fun E9 H9 hx9 => hx9.elim (fun z => bc_y hq hi z.2) (fun z => (show ¬ (m_c (W (π 0)) (nI i)).1 2 = 0 by rw [mc_i (W (π 0)) (show i < 2 ^ 31 by omega)]; exact h2t) z.2.2)) (fun v9 H9 o9 hp9 => ?_)
  obtain ⟨r9, e9, h1, h2, h3⟩ := hp9
  refine ⟨r9, e9, ?_, h2⟩
  rw [h1, mc_i (W (π 0)) (show i < 2 ^ 31 by omega)]

theorem c_D_chargedOn (l : Launch) (D : va_G) (kA : Nat → ClassId) (Hs : Heap) (σ : SG) (H0 : Heap) (hg : Ag Hs H0) (a : Nat) (M : MS) (s : Nat → Int32) (n t q u : Nat) (p : Nat → Nat → Int32) (no : Nat) (go : Nat → Int32) (ns : Nat) (X : Nat → Prop) (i dd : Nat) (hJ : Lw D kA Hs H0 a M s n t q u p no go ns X) (hnt : l.stackTraces = false) (hi : i < n) (hd1 : t / 1440 - 2 ≤ dd) (hd2 : dd ≤ t / 1440) : CtS l D kA Hs σ yX5_chargedOn cX5_chargedOn 3 (some .int) 9 142 4 24 H0 [.ref a, .int (nI i), .int (nI dd)] (nof) (pI fun v9 H => v9 = k_sumOf (M.2.2.2.1 i) dd ∧ H = H0) := by
  have hq := hJ.sq
  have h8 := hq.1.1.1.2.1
  have h30 := hq.1.1.t30
  obtain ⟨W, π, ES, ep, fc, vs, cs, gs, tt, hF, rfl, hS, hH, -, hba, hou, hsc, hX⟩ := id hJ
  refine CtSX.pure (c_X5_chargedOn l D kA Hs σ H0 hg a W π ES u 0 ep fc no go vs cs ns gs (nI i) (nI dd) (t / 1440) hS.1.1.day (by have := hS.1.1.t30; omega) hF hnt) (fun E9 H9 hx9 => hx9.elim (fun z => bc_y hq hi z.2) (fun z => (dy_y hq.1.1.t30 hd1 hd2) z.2.2)) (fun v9 H9 o9 hp9 => ?_)
  obtain ⟨r9, e9, h1, h2, h3⟩ := hp9
  refine ⟨r9, e9, ?_, h2⟩
  rw [h1, mc_i (W (π 0)) (show i < 2 ^ 31 by omega), nI_clamp (n := dd) (by omega)]

theorem c_D_wouldContinue (l : Launch) (D : va_G) (kA : Nat → ClassId) (Hs : Heap) (σ : SG) (H0 : Heap) (hg : Ag Hs H0) (a : Nat) (M : MS) (s : Nat → Int32) (n t q u : Nat) (p : Nat → Nat → Int32) (no : Nat) (go : Nat → Int32) (ns : Nat) (X : Nat → Prop) (i w : Nat) (hJ : Lw D kA Hs H0 a M s n t q u p no go ns X) (hnt : l.stackTraces = false) (hi : i < n) (hw : w < 12) : CtS l D kA Hs σ yX5_wouldContinue cX5_wouldContinue 3 (some .boolean) 9 141 4 24 H0 [.ref a, .int (nI i), .int (nI w)] (nof) (pI fun v9 H => v9 = k_cont (M.2.2.2.1 i) (nI w) (M.1 1) ∧ H = H0) := by
  have hq := hJ.sq
  have h8 := hq.1.1.1.2.1
  have h30 := hq.1.1.t30
  obtain ⟨W, π, ES, ep, fc, vs, cs, gs, tt, hF, rfl, hS, hH, -, hba, hou, hsc, hX⟩ := id hJ
  refine CtSX.pure (c_X5_wouldContinue l D kA Hs σ H0 hg a W π ES u 0 ep fc no go vs cs ns gs (nI i) (nI w) hF hnt) (fun E9 H9 hx9 => hx9.2.elim (bc_y hq hi) (bs_y hw)) (fun v9 H9 o9 hp9 => ?_)
  obtain ⟨r9, e9, h1, h2, h3⟩ := hp9
  refine ⟨r9, e9, ?_, h2⟩
  rw [h1, mc_i (W (π 0)) (show i < 2 ^ 31 by omega)]

