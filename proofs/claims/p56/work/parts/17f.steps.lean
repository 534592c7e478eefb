/-! The steps of a drawing. -/
section DON
variable {M : MS} {s s' : Nat → Int32} {n n' t t' q q' : Nat} {x y : Int32}
theorem do_n0 (h : SQ M s n t q) (h' : SQ (m_do M (t / 1440) n 0 x y).2 s' n' t' q') : n' = n + 1 := by
  have e0 : (m_do M (t / 1440) n 0 x y).2.1 0 = nI n' := h'.1.1.2.1.1.trans h'.1.1.1.1
  have m0 : M.1 0 = nI n := h.1.1.2.1.1.trans h.1.1.1.1
  have h8 : n ≤ 8 := h.1.1.1.2.1
  have h8' : n' ≤ 8 := h'.1.1.1.2.1
  have e1 : (m_do M (t / 1440) n 0 x y).2.1 0 = M.1 0 + 1 := rfl
  rw [e0, m0, show (1 : Int32) = nI 1 from rfl, nI_add, nI_eq (by omega) (by omega)] at e1
  exact e1
theorem do_n (h : SQ M s n t q) {k : Nat} (h' : SQ (m_do M (t / 1440) n k x y).2 s' n' t' q') (hk : k < 8) (hk0 : k ≠ 0) (_ : m_prob M k x y = 0) : n' = n := by
  have e0 : (m_do M (t / 1440) n k x y).2.1 0 = nI n' := h'.1.1.2.1.1.trans h'.1.1.1.1
  have m0 : M.1 0 = nI n := h.1.1.2.1.1.trans h.1.1.1.1
  have h8 : n ≤ 8 := h.1.1.1.2.1
  have h8' : n' ≤ 8 := h'.1.1.1.2.1
  have same : (m_do M (t / 1440) n k x y).2.1 0 = M.1 0 → n' = n := fun e => (nI_eq (by omega) (by omega)).mp ((e0.symm.trans e).trans m0)
  have hc : k = 1 ∨ k = 2 ∨ k = 3 ∨ k = 4 ∨ k = 5 ∨ k = 6 ∨ k = 7 := by omega
  rcases hc with rfl | rfl | rfl | rfl | rfl | rfl | rfl
  · exact same rfl
  · refine same ?_
    show (m_enterAt M x.toNatClampNeg y.toNatClampNeg (t / 1440)).2.1 0 = _
    unfold m_enterAt
    dsimp only
    split <;> rfl
  · exact same rfl
  · exact same rfl
  · exact same rfl
  · exact same rfl
  · exact same (m_ps_keep (m_g M 1 (M.1 1 + x)) n).1
end DON
def s_new : Nat → Int32 := fun j => if j = 2 then 200 else if j = 3 then 50 else if 9 ≤ j ∧ j < 21 then nI ((j - 9) / 2 + 1) else 0
theorem sn_0 {j : Nat} (h2 : j ≠ 2) (h3 : j ≠ 3) (h : j < 9 ∨ 21 ≤ j) : s_new j = 0 := by
  unfold s_new
  rw [if_neg h2, if_neg h3, if_neg (by omega)]
theorem SQ_new : SQ m_new s_new 0 0 0 := by
  have zr : ∀ i w, ro s_new i w = 0 := fun i w => sn_0 (by omega) (by omega) (by omega)
  have e2 : s_new 2 = 200 := rfl
  have e3 : s_new 3 = 50 := rfl
  refine ⟨⟨⟨⟨sn_0 (by decide) (by decide) (by decide), by decide, sn_0 (by decide) (by decide) (by decide), by decide, fun i hi => ?_⟩, ?_, ⟨200, 50, by decide, by decide, e2, e3⟩, fun w hw => ?_, fun w hw => ?_, ⟨0, 0, 0, by decide, sn_0 (by decide) (by decide) (by decide), by decide, sn_0 (by decide) (by decide) (by decide), by decide, sn_0 (by decide) (by decide) (by decide)⟩, rfl, fun i hi => absurd hi (Nat.not_lt_zero i)⟩, fun i hi => absurd hi (Nat.not_lt_zero i)⟩, by decide⟩
  · rw [zr, zr, zr, zr]
    exact ⟨Or.inr ⟨0, by decide, rfl⟩, ⟨0, by decide, rfl⟩, Or.inr ⟨0, by decide, rfl⟩, 0, by decide, rfl⟩
  · exact ⟨(sn_0 (by decide) (by decide) (by decide)).symm, (sn_0 (by decide) (by decide) (by decide)).symm, (sn_0 (by decide) (by decide) (by decide)).symm, (sn_0 (by decide) (by decide) (by decide)).symm, (sn_0 (by decide) (by decide) (by decide)).symm, (sn_0 (by decide) (by decide) (by decide)).symm, (sn_0 (by decide) (by decide) (by decide)).symm, e2.symm, e3.symm⟩
  · have e : s_new (9 + w) = nI (w / 2 + 1) := by
      unfold s_new
      rw [if_neg (by omega), if_neg (by omega), if_pos (by omega), show 9 + w - 9 = w by omega]
    refine ⟨?_, w / 2 + 1, by omega, by omega, e⟩
    rw [e]
    show z_ini 12 w = _
    unfold z_ini
    rw [if_pos hw]
  · refine ⟨(sn_0 (by omega) (by omega) (by omega)).symm, 0, by decide, sn_0 (by omega) (by omega) (by omega)⟩
theorem lw_new {D : va_G} {kA : Nat → ClassId} {Hs H : Heap} {a : Nat} (hF : Fs D kA H a (fun _ => m_new) (fun j => j) (fun _ => False) 0 0 (-1) (-1) 0 (fun _ => 0) (a + 324) 16 0 (fun _ => 0)) (hg : Ag Hs H) (ha : Hs.size ≤ a) : Lw D kA Hs H a m_new s_new 0 0 0 0 (fun _ _ => 0) 0 (fun _ => 0) 0 (fun _ => False) :=
  ⟨_, _, _, _, _, _, _, _, (fun _ => 0), hF, rfl, SQ_new, fun k hk => absurd hk (Nat.not_lt_zero k), hg, ha, ⟨by decide, fun j hj => absurd hj (Nat.not_lt_zero j)⟩, ⟨by decide, fun j hj => absurd hj (Nat.not_lt_zero j)⟩, fun x hx => hx.elim⟩
theorem c_W_issue (l : Launch) (D : va_G) (kA : Nat → ClassId) (Hs : Heap) (σ : SG) (H0 : Heap) (hg : Ag Hs H0) (a : Nat) (M : MS) (s : Nat → Int32) (n t q u : Nat) (p : Nat → Nat → Int32) (no : Nat) (go : Nat → Int32) (ns : Nat) (X : Nat → Prop) (x : Int32) (hJ : Lw D kA Hs H0 a M s n t q u p no go ns X) (hnt : l.stackTraces = false) (hq4 : q ≤ 30000) (hjc : Jc M n q) (hx : x = 0 ∨ x = 1) (hn : n < 5) : CtW l D kA Hs σ yL_issue cL_issue 3 (some .int) [(0, 5, 6, 14)] 11 186 9 30 H0 [.ref a, .int x] (fun q => Hs.size ≤ q ∧ ¬ X q) (pI fun k9 H9 => k9 = nI n ∧ ∃ M2 s2 t2 u2 p2, Lw D kA Hs H9 a M2 s2 (n + 1) t2 (q + 1) u2 p2 no go ns X ∧ Jc M2 (n + 1) (q + 1) ∧ M2.1 7 = M.1 7 ∧ (M2.2.2.2.1 n).1 1 = 0) := by
  refine CtW.mono (c_L_issue l D kA Hs σ H0 hg a M s n t q u p no go ns X x hJ hnt (by omega) hx) (fun v9 H9 o9 hp9 => ?_)
  have hq := hJ.sq
  have h8 := hq.1.1.1.2.1
  have h30 := hq.1.1.t30
  obtain ⟨r9, e9, h1⟩ := hp9
  refine ⟨r9, e9, ?_⟩
  have hz : m_prob M 0 x 0 = 0 := mp_0.trans (if_pos (by rw [hq.1.1.2.1.1, hq.1.1.1.1]; exact nI_lt (b := 8) (by omega) (by decide)))
  obtain ⟨-, hv, s2, n2, t2, hJ9⟩ := h1.resolve_right (fun z => z.1 hz)
  have hjc9 := Jc.step hq (by omega) hjc (by decide) hz hJ9.sq
  obtain rfl := do_n0 hq hJ9.sq
  refine ⟨hv.trans (do_0 hq), _, s2, t2, _, _, hJ9, hjc9, rfl, ?_⟩
  show (va_up M.2.2.2.1 n (k_anew (M.2.2.2.1 n) (if x = 1 then 1 else 0)) n).1 1 = 0
  rw [vu_eq]
  rfl

theorem c_W_load (l : Launch) (D : va_G) (kA : Nat → ClassId) (Hs : Heap) (σ : SG) (H0 : Heap) (hg : Ag Hs H0) (a : Nat) (M : MS) (s : Nat → Int32) (n t q u : Nat) (p : Nat → Nat → Int32) (no : Nat) (go : Nat → Int32) (ns : Nat) (X : Nat → Prop) (i c : Nat) (hJ : Lw D kA Hs H0 a M s n t q u p no go ns X) (hnt : l.stackTraces = false) (hq4 : q ≤ 30000) (hjc : Jc M n q) (hi : i < n) (hc1 : 1 ≤ c) (hc2 : c ≤ 4000) (h0 : (M.2.2.2.1 i).1 1 = 0) : CtW l D kA Hs σ yL_load cL_load 4 (some .int) [(0, 6, 7, 20), (0, 6, 12, 22), (0, 6, 17, 24)] 11 187 9 30 H0 [.ref a, .int (nI i), .int (nI c)] (fun q => Hs.size ≤ q ∧ ¬ X q) (pI fun k9 H9 => k9 = nI c ∧ ∃ M2 s2 t2 u2 p2, Lw D kA Hs H9 a M2 s2 n t2 (q + 1) u2 p2 no go ns X ∧ Jc M2 n (q + 1) ∧ M2.1 7 = M.1 7) := by
  refine CtW.mono (c_L_load l D kA Hs σ H0 hg a M s n t q u p no go ns X (nI i) (nI c) hJ hnt (by omega)) (fun v9 H9 o9 hp9 => ?_)
  have hq := hJ.sq
  have h8 := hq.1.1.1.2.1
  have h30 := hq.1.1.t30
  obtain ⟨r9, e9, h1⟩ := hp9
  refine ⟨r9, e9, ?_⟩
  have hz : m_prob M 1 (nI i) (nI c) = 0 := mp_1.trans (by
    unfold m_pLoad
    rw [if_neg (bc_y hq hi), if_neg (fun z => z.elim (fun z => absurd ((nI_ltI (b := 1) (by omega) (by decide)).mp z) (by omega)) (fun z => z (nI_le (b := 9999) (by omega) (by decide)))), if_pos]
    rw [mc_i M (show i < 2 ^ 31 by omega), h0, Int32.zero_add]
    exact nI_le (b := 20000) (by omega) (by decide))
  obtain ⟨-, hv, s2, n2, t2, hJ9⟩ := h1.resolve_right (fun z => z.1 hz)
  have hjc9 := Jc.step hq (by omega) hjc (by decide) hz hJ9.sq
  obtain rfl := do_n hq hJ9.sq (by decide) (by decide) hz
  refine ⟨?_, _, s2, t2, _, _, hJ9, hjc9, rfl⟩
  rw [hv]
  show (M.2.2.2.1 (nI i).toNatClampNeg).1 1 + nI c = _
  rw [nI_clamp (by omega), h0, Int32.zero_add]

theorem c_W_setFares (l : Launch) (D : va_G) (kA : Nat → ClassId) (Hs : Heap) (σ : SG) (H0 : Heap) (hg : Ag Hs H0) (a : Nat) (M : MS) (s : Nat → Int32) (n t q u : Nat) (p : Nat → Nat → Int32) (no : Nat) (go : Nat → Int32) (ns : Nat) (X : Nat → Prop) (b e : Nat) (hJ : Lw D kA Hs H0 a M s n t q u p no go ns X) (hnt : l.stackTraces = false) (hq4 : q ≤ 30000) (hjc : Jc M n q) (hb : b ≤ 999) (he : e ≤ 99) : CtW l D kA Hs σ yL_setFares cL_setFares 4 (some .int) [(0, 6, 7, 22)] 11 187 9 30 H0 [.ref a, .int (nI b), .int (nI e)] (fun q => Hs.size ≤ q ∧ ¬ X q) (pI fun k9 H9 => k9 = M.1 7 ∧ ∃ M2 s2 t2 u2 p2, Lw D kA Hs H9 a M2 s2 n t2 (q + 1) u2 p2 no go ns X ∧ Jc M2 n (q + 1)) := by
  refine CtW.mono (c_L_setFares l D kA Hs σ H0 hg a M s n t q u p no go ns X (nI b) (nI e) hJ hnt (by omega)) (fun v9 H9 o9 hp9 => ?_)
  have hq := hJ.sq
  have h8 := hq.1.1.1.2.1
  have h30 := hq.1.1.t30
  obtain ⟨r9, e9, h1⟩ := hp9
  refine ⟨r9, e9, ?_⟩
  have hz : m_prob M 6 (nI b) (nI e) = 0 := mp_6.trans (by
    unfold m_pFares
    rw [if_neg]
    rintro (z | z | z | z)
    · exact nI_pos (by omega) z
    · exact absurd ((nI_ltI (a := 999) (by decide) (by omega)).mp z) (by omega)
    · exact nI_pos (by omega) z
    · exact absurd ((nI_ltI (a := 99) (by decide) (by omega)).mp z) (by omega))
  obtain ⟨-, hv, s2, n2, t2, hJ9⟩ := h1.resolve_right (fun z => z.1 hz)
  have hjc9 := Jc.step hq (by omega) hjc (by decide) hz hJ9.sq
  obtain rfl := do_n hq hJ9.sq (by decide) (by decide) hz
  exact ⟨hv, _, s2, t2, _, _, hJ9, hjc9⟩

theorem c_W_setZone (l : Launch) (D : va_G) (kA : Nat → ClassId) (Hs : Heap) (σ : SG) (H0 : Heap) (hg : Ag Hs H0) (a : Nat) (M : MS) (s : Nat → Int32) (n t q u : Nat) (p : Nat → Nat → Int32) (no : Nat) (go : Nat → Int32) (ns : Nat) (X : Nat → Prop) (w z : Nat) (hJ : Lw D kA Hs H0 a M s n t q u p no go ns X) (hnt : l.stackTraces = false) (hq4 : q ≤ 30000) (hjc : Jc M n q) (hw : w < 12) (hz1 : 1 ≤ z) (hz6 : z ≤ 6) : CtW l D kA Hs σ yL_setZone cL_setZone 4 (some .int) [(0, 6, 7, 20), (0, 6, 10, 22)] 11 187 9 30 H0 [.ref a, .int (nI w), .int (nI z)] (fun q => Hs.size ≤ q ∧ ¬ X q) (pI fun k9 H9 => ¬ k9 < 1 ∧ ∃ M2 s2 t2 u2 p2, Lw D kA Hs H9 a M2 s2 n t2 (q + 1) u2 p2 no go ns X ∧ Jc M2 n (q + 1)) := by
  refine CtW.mono (c_L_setZone l D kA Hs σ H0 hg a M s n t q u p no go ns X (nI w) (nI z) hJ hnt (by omega)) (fun v9 H9 o9 hp9 => ?_)
  have hq := hJ.sq
  have h8 := hq.1.1.1.2.1
  have h30 := hq.1.1.t30
  obtain ⟨r9, e9, h1⟩ := hp9
  refine ⟨r9, e9, ?_⟩
  have hz : m_prob M 5 (nI w) (nI z) = 0 := mp_5.trans (by
    unfold m_pZone
    rw [if_neg (bs_y hw), if_neg]
    rintro (g | g)
    · exact absurd ((nI_ltI (b := 1) (by omega) (by decide)).mp g) (by omega)
    · exact absurd ((nI_ltI (a := 6) (by decide) (by omega)).mp g) (by omega))
  obtain ⟨-, hv, s2, n2, t2, hJ9⟩ := h1.resolve_right (fun z => z.1 hz)
  have hjc9 := Jc.step hq (by omega) hjc (by decide) hz hJ9.sq
  obtain rfl := do_n hq hJ9.sq (by decide) (by decide) hz
  obtain ⟨v, v1, v6, ev⟩ := do_5 hq hz
  refine ⟨?_, _, s2, t2, _, _, hJ9, hjc9⟩
  rw [hv, ev]
  exact fun g => absurd ((nI_ltI (b := 1) (by omega) (by decide)).mp g) (by omega)

theorem c_W_advance (l : Launch) (D : va_G) (kA : Nat → ClassId) (Hs : Heap) (σ : SG) (H0 : Heap) (hg : Ag Hs H0) (a : Nat) (M : MS) (s : Nat → Int32) (n t q u : Nat) (p : Nat → Nat → Int32) (no : Nat) (go : Nat → Int32) (ns : Nat) (X : Nat → Prop) (x : Nat) (hJ : Lw D kA Hs H0 a M s n t q u p no go ns X) (hnt : l.stackTraces = false) (hq4 : q ≤ 30000) (hjc : Jc M n q) (hx1 : 1 ≤ x) (hx2 : x ≤ 2000) : CtW l D kA Hs σ yL_advance cL_advance 3 (some .int) [(0, 5, 6, 22)] 11 186 9 30 H0 [.ref a, .int (nI x)] (fun q => Hs.size ≤ q ∧ ¬ X q) (pI fun k9 H9 => ¬ k9 = -1 ∧ ∃ M2 s2 t2 u2 p2, Lw D kA Hs H9 a M2 s2 n t2 (q + 1) u2 p2 no go ns X ∧ Jc M2 n (q + 1)) := by
  refine CtW.mono (c_L_advance l D kA Hs σ H0 hg a M s n t q u p no go ns X (nI x) hJ hnt (by omega)) (fun v9 H9 o9 hp9 => ?_)
  have hq := hJ.sq
  have h8 := hq.1.1.1.2.1
  have h30 := hq.1.1.t30
  obtain ⟨r9, e9, h1⟩ := hp9
  refine ⟨r9, e9, ?_⟩
  have hz : m_prob M 7 (nI x) 0 = 0 := mp_7.trans (if_neg (by
    rintro (g | g)
    · exact absurd ((nI_ltI (b := 1) (by omega) (by decide)).mp g) (by omega)
    · exact g (nI_le (b := 2000) (by omega) (by decide))))
  obtain ⟨-, hv, s2, n2, t2, hJ9⟩ := h1.resolve_right (fun z => z.1 hz)
  have hjc9 := Jc.step hq (by omega) hjc (by decide) hz hJ9.sq
  obtain rfl := do_n hq hJ9.sq (by decide) (by decide) hz
  refine ⟨?_, _, s2, t2, _, _, hJ9, hjc9⟩
  rw [hv]
  intro g
  exact do_7 (x := nI x) (y := 0) hq (by rw [g]; decide)

theorem c_W_tapIn (l : Launch) (D : va_G) (kA : Nat → ClassId) (Hs : Heap) (σ : SG) (H0 : Heap) (hg : Ag Hs H0) (a : Nat) (M : MS) (s : Nat → Int32) (n t q u : Nat) (p : Nat → Nat → Int32) (no : Nat) (go : Nat → Int32) (ns : Nat) (X : Nat → Prop) (i w : Nat) (hJ : Lw D kA Hs H0 a M s n t q u p no go ns X) (hnt : l.stackTraces = false) (hq4 : q ≤ 30000) (hjc : Jc M n q) (hi : i < n) (hw : w < 12) : CtW l D kA Hs σ yL_tapIn cL_tapIn 4 (some .int) [(0, 14, 15, 20), (0, 14, 18, 14)] 11 187 9 30 H0 [.ref a, .int (nI i), .int (nI w)] (fun q => Hs.size ≤ q ∧ ¬ X q) (pI fun k9 H9 => ¬ k9 = -1 ∧ ∃ M2 s2 t2 u2 p2, Lw D kA Hs H9 a M2 s2 n t2 (q + 1) u2 p2 no go ns X ∧ Jc M2 n (q + 1)) := by
  refine CtW.mono (c_L_tapIn l D kA Hs σ H0 hg a M s n t q u p no go ns X (nI i) (nI w) hJ hnt (by omega)) (fun v9 H9 o9 hp9 => ?_)
  have hq := hJ.sq
  have h8 := hq.1.1.1.2.1
  have h30 := hq.1.1.t30
  obtain ⟨r9, e9, h1⟩ := hp9
  refine ⟨r9, e9, ?_⟩
  rcases h1 with ⟨hz, hv, s2, n2, t2, hJ9⟩ | ⟨hz, hv, hJ9⟩
  · have hjc9 := Jc.step hq (by omega) hjc (by decide) hz hJ9.sq
    obtain rfl := do_n hq hJ9.sq (by decide) (by decide) hz
    refine ⟨?_, _, s2, t2, _, _, hJ9, hjc9⟩
    split at hv <;> (rw [hv]; decide)
  · refine ⟨?_, M, s, t, u, p, hJ9.more (Nat.le_succ q), hjc.more (Nat.le_succ q)⟩
    have e1 : ¬ m_prob M 2 (nI i) (nI w) = 1 := by
      rw [mp_2]
      unfold m_pIn
      rw [if_neg (fun g => g.elim (bc_y hq hi) (bs_y hw))]
      split <;> decide
    rw [hv, (xz_2 hz).resolve_left e1]
    decide

theorem c_W_tapOut (l : Launch) (D : va_G) (kA : Nat → ClassId) (Hs : Heap) (σ : SG) (H0 : Heap) (hg : Ag Hs H0) (a : Nat) (M : MS) (s : Nat → Int32) (n t q u : Nat) (p : Nat → Nat → Int32) (no : Nat) (go : Nat → Int32) (ns : Nat) (X : Nat → Prop) (i w : Nat) (hJ : Lw D kA Hs H0 a M s n t q u p no go ns X) (hnt : l.stackTraces = false) (hq4 : q ≤ 30000) (hjc : Jc M n q) (hi : i < n) (hw : w < 12) : CtW l D kA Hs σ yL_tapOut cL_tapOut 4 (some .int) [(0, 6, 7, 20), (0, 6, 10, 14)] 11 187 9 30 H0 [.ref a, .int (nI i), .int (nI w)] (fun q => Hs.size ≤ q ∧ ¬ X q) (pI fun k9 H9 => ¬ k9 = -1 ∧ ∃ M2 s2 t2 u2 p2, Lw D kA Hs H9 a M2 s2 n t2 (q + 1) u2 p2 no go ns X ∧ Jc M2 n (q + 1)) := by
  refine CtW.mono (c_L_tapOut l D kA Hs σ H0 hg a M s n t q u p no go ns X (nI i) (nI w) hJ hnt (by omega)) (fun v9 H9 o9 hp9 => ?_)
  have hq := hJ.sq
  have h8 := hq.1.1.1.2.1
  have h30 := hq.1.1.t30
  obtain ⟨r9, e9, h1⟩ := hp9
  refine ⟨r9, e9, ?_⟩
  rcases h1 with ⟨hz, hv, s2, n2, t2, hJ9⟩ | ⟨hz, hv, hJ9⟩
  · have hjc9 := Jc.step hq (by omega) hjc (by decide) hz hJ9.sq
    obtain rfl := do_n hq hJ9.sq (by decide) (by decide) hz
    refine ⟨?_, _, s2, t2, _, _, hJ9, hjc9⟩
    rw [hv]
    intro g
    exact do_3 hq hz (by rw [g]; decide)
  · refine ⟨?_, M, s, t, u, p, hJ9.more (Nat.le_succ q), hjc.more (Nat.le_succ q)⟩
    have e1 : ¬ m_prob M 3 (nI i) (nI w) = 1 := by
      rw [mp_3]
      unfold m_pOut
      rw [if_neg (fun g => g.elim (bc_y hq hi) (bs_y hw))]
      split <;> decide
    rw [hv, (xz_3 hz).resolve_left e1]
    decide

