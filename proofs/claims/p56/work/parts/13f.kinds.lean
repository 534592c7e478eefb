/-! The eight kinds of change, in the class and in the reference. -/
def Q8 (s : Nat → Int32) (n t k : Nat) (x y : Int32) : Q6 := if k = 0 then q_issue s (if x = 1 then 1 else 0) else if k = 1 then q_load s x y else if k = 2 then q_in s (t / 1440) x y else if k = 3 then q_out s (t / 1440) x y else if k = 4 then q_fix s (t / 1440) x y else if k = 5 then q_zone s x y else if k = 6 then q_fares s x y else q_wait s n t x
/-- the reference's number of a problem -/
def pm (k : Nat) (z : Int32) : Nat := if z = 1 then 1 else if z = 2 then (if k = 6 ∨ k = 7 then 1 else 2) else if z = 3 then (if k = 0 then 1 else if k = 4 then 3 else 2) else if z = 4 then 2 else 3
def Sim (M : MS) (s : Nat → Int32) (n t A B C T k : Nat) (x y : Int32) : Prop :=
  (m_prob M k x y = 0 → (Q8 s n t k x y).1 = 0 ∧ (m_do M (t / 1440) n k x y).1 = (Q8 s n t k x y).2.1 ∧ ∃ n' t', t' ≤ t + 2000 ∧ SS (m_do M (t / 1440) n k x y).2 (Q8 s n t k x y).2.2 n' t' (A + 7000) (B + 1) (C + 10) (T + 1)) ∧
  (¬ m_prob M k x y = 0 → (Q8 s n t k x y).1 = pm k (m_prob M k x y))
section KND
variable {M M' : MS} {s s' : Nat → Int32} {n t A B C T A' B' C' T' i d k : Nat} {x y z : Int32}
theorem Q8_0 : Q8 s n t 0 x y = q_issue s (if x = 1 then 1 else 0) := by unfold Q8; rw [if_pos rfl]
theorem mp_0 : m_prob M 0 x y = (if M.1 0 < 8 then 0 else 3) := by unfold m_prob; rw [if_pos rfl]
theorem Q8_1 : Q8 s n t 1 x y = q_load s x y := by unfold Q8; rw [if_neg (by decide), if_pos rfl]
theorem mp_1 : m_prob M 1 x y = m_pLoad M x y := by unfold m_prob; rw [if_neg (by decide), if_pos rfl]
theorem Q8_2 : Q8 s n t 2 x y = q_in s (t / 1440) x y := by unfold Q8; rw [if_neg (by decide), if_neg (by decide), if_pos rfl]
theorem mp_2 : m_prob M 2 x y = m_pIn M x y := by unfold m_prob; rw [if_neg (by decide), if_neg (by decide), if_pos rfl]
theorem Q8_3 : Q8 s n t 3 x y = q_out s (t / 1440) x y := by unfold Q8; rw [if_neg (by decide), if_neg (by decide), if_neg (by decide), if_pos rfl]
theorem mp_3 : m_prob M 3 x y = m_pOut M x y := by unfold m_prob; rw [if_neg (by decide), if_neg (by decide), if_neg (by decide), if_pos rfl]
theorem Q8_4 : Q8 s n t 4 x y = q_fix s (t / 1440) x y := by unfold Q8; rw [if_neg (by decide), if_neg (by decide), if_neg (by decide), if_neg (by decide), if_pos rfl]
theorem mp_4 : m_prob M 4 x y = m_pRep M x y := by unfold m_prob; rw [if_neg (by decide), if_neg (by decide), if_neg (by decide), if_neg (by decide), if_pos rfl]
theorem Q8_5 : Q8 s n t 5 x y = q_zone s x y := by unfold Q8; rw [if_neg (by decide), if_neg (by decide), if_neg (by decide), if_neg (by decide), if_neg (by decide), if_pos rfl]
theorem mp_5 : m_prob M 5 x y = m_pZone x y := by unfold m_prob; rw [if_neg (by decide), if_neg (by decide), if_neg (by decide), if_neg (by decide), if_neg (by decide), if_pos rfl]
theorem Q8_6 : Q8 s n t 6 x y = q_fares s x y := by unfold Q8; rw [if_neg (by decide), if_neg (by decide), if_neg (by decide), if_neg (by decide), if_neg (by decide), if_neg (by decide), if_pos rfl]
theorem mp_6 : m_prob M 6 x y = m_pFares x y := by unfold m_prob; rw [if_neg (by decide), if_neg (by decide), if_neg (by decide), if_neg (by decide), if_neg (by decide), if_neg (by decide), if_pos rfl]
theorem Q8_7 : Q8 s n t 7 x y = q_wait s n t x := by unfold Q8; rw [if_neg (by decide), if_neg (by decide), if_neg (by decide), if_neg (by decide), if_neg (by decide), if_neg (by decide), if_neg (by decide)]
theorem mp_7 : m_prob M 7 x y = (if x < 1 ∨ ¬ x ≤ 2000 then 2 else 0) := by unfold m_prob; rw [if_neg (by decide), if_neg (by decide), if_neg (by decide), if_neg (by decide), if_neg (by decide), if_neg (by decide), if_neg (by decide)]
theorem pm_03 : pm 0 3 = 1 := by decide
theorem pm_11 : pm 1 1 = 1 := by decide
theorem pm_12 : pm 1 2 = 2 := by decide
theorem pm_15 : pm 1 5 = 3 := by decide
theorem pm_21 : pm 2 1 = 1 := by decide
theorem pm_23 : pm 2 3 = 2 := by decide
theorem pm_31 : pm 3 1 = 1 := by decide
theorem pm_33 : pm 3 3 = 2 := by decide
theorem pm_41 : pm 4 1 = 1 := by decide
theorem pm_44 : pm 4 4 = 2 := by decide
theorem pm_43 : pm 4 3 = 3 := by decide
theorem pm_51 : pm 5 1 = 1 := by decide
theorem pm_52 : pm 5 2 = 2 := by decide
theorem pm_62 : pm 6 2 = 1 := by decide
theorem pm_72 : pm 7 2 = 1 := by decide
theorem Sim.bad {v : Nat} (p : m_prob M k x y = z) (hz : ¬ z = 0) (hv : pm k z = v) (q : (Q8 s n t k x y).1 = v) : Sim M s n t A B C T k x y := ⟨fun h => absurd (p.symm.trans h) hz, fun _ => by rw [p, hv]; exact q⟩
theorem Sim.good {a : Int32} {R : Nat → Int32} (p : m_prob M k x y = 0) (e : Q8 s n t k x y = (0, a, R)) (qa : (m_do M (t / 1440) n k x y).1 = a) (qs : ∃ n' t', t' ≤ t + 2000 ∧ SS (m_do M (t / 1440) n k x y).2 R n' t' (A + 7000) (B + 1) (C + 10) (T + 1)) : Sim M s n t A B C T k x y := by
  unfold Sim
  rw [e]
  exact ⟨fun _ => ⟨rfl, qa, qs⟩, fun h => absurd p h⟩
theorem Sw.card (h : Sw M s n t A B C T) (hR : RI s' n t) (hG : Sg M' s') (hf : s' 2 = s 2 ∧ s' 3 = s 3) (hZ : M'.2.1 = M.2.1) (hz : ∀ w, w < 12 → s' (9 + w) = s (9 + w)) (hT : St M' s' T') (hB : Sb9 s' A' B' C') (hbal : m_bal M' n = M'.1 2 - M'.1 3 + M'.1 4)
    (hC : ∀ j, j ≠ i → M'.2.2.2.1 j = M.2.2.2.1 j ∧ M'.2.2.2.2 j = M.2.2.2.2 j) (hr : ∀ j, j ≠ i → ∀ w, w < 17 → ro s' j w = ro s j w) (hk : SC (M'.2.2.2.1 i) (M'.2.2.2.2 i) (ro s' i) t ∧ SP (M'.2.2.2.1 i) t ∧ SB (M'.2.2.2.1 i)) : Sw M' s' n t A' B' C' T' := by
  refine ⟨hR, hG, ?_, ?_, hT, hB, hbal, ?_⟩
  · obtain ⟨b, p, f1, f2, f3, f4⟩ := h.2.2.1
    exact ⟨b, p, f1, f2, hf.1.trans f3, hf.2.trans f4⟩
  · intro w hw
    rw [hZ, hz w hw]
    exact h.2.2.2.1 w hw
  · intro j hj
    by_cases e : j = i
    · subst e; exact hk
    · rw [(hC j e).1, (hC j e).2]
      obtain ⟨q1, q2, q3⟩ := h.2.2.2.2.2.2.2 j hj
      exact ⟨q1.row (hr j e), q2, q3⟩
theorem SS.more (h : SS M s n t A B C T) (hA : A ≤ A') (hB : B ≤ B') (hC : C ≤ C') (hT : T ≤ T') : SS M s n t A' B' C' T' := ⟨h.1.more hA hB hC hT, h.2⟩
theorem up7 {α : Type} {C : Nat → α} {i : Nat} {κ : α} {P : α → Prop} (h : ∀ j, j < n → P (C j)) (hk : P κ) : ∀ j, j < n → P (va_up C i κ j) := fun j hj => by
  by_cases e : j = i
  · subst e; rw [vu_eq]; exact hk
  · rw [vu_ne e]; exact h j hj
/-- loading -/
theorem sim_1 (h : SS M s n t A B C T) (x y : Int32) : Sim M s n t A B C T 1 x y := by
  obtain ⟨hw, ha⟩ := h
  obtain ⟨g0, g1, g2, g3, g4, g5, g6, g7, g8⟩ := hw.2.1
  have hn8 := hw.1.2.1
  have hs0 : s 0 = nI n := hw.1.1
  have bc := bc_eq (s := s) x (g0.trans hs0) hs0 hn8
  by_cases e1 : b_card M x = 0
  · exact Sim.bad (z := 1) (mp_1.trans (if_pos e1)) (by decide) pm_11 (by rw [Q8_1]; unfold q_load; rw [if_pos (bc.mp e1)])
  · have e1' := fun q => e1 (bc.mpr q)
    have q1 : q_load s x y = if r_in y 1 9999 = 0 then (2, 0, s) else if ro s x.toNatClampNeg 1 + y ≤ 20000 then (0, ro s x.toNatClampNeg 1 + y, upd (rw_ s x.toNatClampNeg 1 (ro s x.toNatClampNeg 1 + y)) 4 (rw_ s x.toNatClampNeg 1 (ro s x.toNatClampNeg 1 + y) 4 + y)) else (3, 0, s) := if_neg e1'
    have p1 : m_prob M 1 x y = if y < 1 ∨ ¬ y ≤ 9999 then 2 else if (m_c M x).1 1 + y ≤ 20000 then 0 else 5 := mp_1.trans (if_neg e1)
    obtain ⟨i, hi, hi8, rfl⟩ := b_card_n (g0.trans hs0) hn8 e1
    rw [nI_clamp (by omega)] at q1
    rw [show m_c M (nI i) = M.2.2.2.1 i by rw [m_c, nI_clamp (by omega)]] at p1
    obtain ⟨hc, hp, hb⟩ := hw.2.2.2.2.2.2.2 i hi
    by_cases e2 : r_in y 1 9999 = 0
    · have e3 := r_in_z.mp e2
      rw [if_pos e2] at q1
      rw [if_pos (e3.imp id (fun q => Int32.not_le.mpr q))] at p1
      exact Sim.bad p1 (by decide) pm_12 (by rw [Q8_1, q1])
    · have e3 : ¬ (y < 1 ∨ ¬ y ≤ 9999) := fun q => e2 (r_in_z.mpr (q.imp id (fun z => Int32.not_le.mp z)))
      rw [if_neg e2, hc.e1] at q1
      rw [if_neg e3] at p1
      have y1 : 1 ≤ y.toInt ∧ y.toInt ≤ 9999 := by
        have a1 : ¬ y < 1 := fun q => e3 (Or.inl q)
        have a2 : y ≤ 9999 := Decidable.byContradiction fun q => e3 (Or.inr q)
        rw [Int32.lt_iff_toInt_lt, show (1 : Int32).toInt = 1 from by decide] at a1
        rw [Int32.le_iff_toInt_le, show (9999 : Int32).toInt = 9999 from by decide] at a2
        omega
      by_cases e4 : (M.2.2.2.1 i).1 1 + y ≤ 20000
      · rw [if_pos e4] at q1 p1
        obtain ⟨k1, k2, k3, k4⟩ := SK.load (κ := M.2.2.2.1 i) ⟨hc, hp, hb, ha i hi⟩ y1 e4
        have hRI : RI (q_load s (nI i) y).2.2 n t := hw.1.load
        rw [q1] at hRI
        obtain ⟨R, eR⟩ : ∃ R, R = upd (rw_ s i 1 ((M.2.2.2.1 i).1 1 + y)) 4 (rw_ s i 1 ((M.2.2.2.1 i).1 1 + y) 4 + y) := ⟨_, rfl⟩
        rw [← eR] at q1 hRI
        have lo : ∀ k, k < 33 → k ≠ 4 → R k = s k := fun k hk h4 => by rw [eR, pk_un h4, rw_lo hk]
        have l4 : R 4 = s 4 + y := by rw [eR, pk_us, rw_lo (by decide)]
        have hro : ∀ j w, w < 17 → ro R j w = if j = i ∧ w = 1 then (M.2.2.2.1 i).1 1 + y else ro s j w := fun j w hw17 => by rw [eR, ro_up (by decide), ro_rw (by decide) hw17]
        refine Sim.good p1 (Q8_1.trans q1) (by rw [m_do_1 hi8]) ⟨n, t, by omega, ?_⟩
        rw [m_do_1 hi8]
        have hci : (m_load M i y).2.2.2.1 i = (upd (M.2.2.2.1 i).1 1 ((M.2.2.2.1 i).1 1 + y), (M.2.2.2.1 i).2) := vu_eq
        have hcj : ∀ j, j ≠ i → (m_load M i y).2.2.2.1 j = M.2.2.2.1 j := fun j hj => vu_ne hj
        refine ⟨hw.card (i := i) (M' := m_load M i y) hRI ⟨?_, ?_, ?_, ?_, ?_, ?_, ?_, ?_, ?_⟩ ⟨lo 2 (by decide) (by decide), lo 3 (by decide) (by decide)⟩ rfl (fun w hw9 => lo (9 + w) (by omega) (by omega)) (fun w hw9 => ?_) ?_ ?_ (fun j hj => ⟨hcj j hj, rfl⟩) (fun j hj w hw9 => ?_) ?_, fun j hj => ?_⟩
        · rw [lo 0 (by decide) (by decide)]; exact g0
        · rw [lo 1 (by decide) (by decide)]; exact g1
        · rw [l4, ← g2]; rfl
        · rw [lo 5 (by decide) (by decide)]; exact g3
        · rw [lo 6 (by decide) (by decide)]; exact g4
        · rw [lo 7 (by decide) (by decide)]; exact g5
        · rw [lo 8 (by decide) (by decide)]; exact g6
        · rw [lo 2 (by decide) (by decide)]; exact g7
        · rw [lo 3 (by decide) (by decide)]; exact g8
        · obtain ⟨a, c, c1, c2⟩ := hw.2.2.2.2.1 w hw9
          rw [lo (21 + w) (by omega) (by omega)]
          exact ⟨a, c, by omega, c2⟩
        · obtain ⟨a, b, c, f1, f2, f3, f4, f5, f6⟩ := hw.2.2.2.2.2.1
          exact ⟨a, b, c, by omega, by rw [lo 5 (by decide) (by decide)]; exact f2, by omega, by rw [lo 7 (by decide) (by decide)]; exact f4, by omega, by rw [lo 8 (by decide) (by decide)]; exact f6⟩
        · rw [m_bal_up (M := M) (i := i) n hi (fun j hj => by rw [hcj j hj]), hw.2.2.2.2.2.2.1, hci]
          show _ - _ + upd (M.2.2.2.1 i).1 1 ((M.2.2.2.1 i).1 1 + y) 1 = M.1 2 + y - M.1 3 + M.1 4
          rw [pk_us]
          grind
        · rw [hro j w hw9, if_neg (fun q => hj q.1)]
        · rw [hci]
          refine ⟨k1.row (fun w hw9 => ?_), k2, k3⟩
          rw [hro i w hw9]
          unfold upd
          by_cases e : w = 1
          · rw [if_pos ⟨rfl, e⟩, if_pos e, hc.e1]
          · rw [if_neg (fun q => e q.2), if_neg e]
        · by_cases e : j = i
          · subst e; rw [hci]; exact k4
          · rw [hcj j e]; exact ha j hj
      · rw [if_neg e4] at q1 p1
        exact Sim.bad p1 (by decide) pm_15 (by rw [Q8_1, q1])
/-- a zone -/
theorem sim_5 (h : SS M s n t A B C T) (x y : Int32) : Sim M s n t A B C T 5 x y := by
  obtain ⟨hw, ha⟩ := h
  obtain ⟨g0, g1, g2, g3, g4, g5, g6, g7, g8⟩ := hw.2.1
  have bs := bs_eq x
  by_cases e1 : b_st x = 0
  · exact Sim.bad (z := 1) (mp_5.trans (if_pos e1)) (by decide) pm_51 (by rw [Q8_5]; unfold q_zone; rw [if_pos (bs.mp e1)])
  · have q1 : q_zone s x y = if r_in y 1 6 = 0 then (2, 0, s) else (0, s (9 + x.toNatClampNeg), upd s (9 + x.toNatClampNeg) y) := if_neg (fun q => e1 (bs.mpr q))
    have p1 : m_prob M 5 x y = if y < 1 ∨ 6 < y then 2 else 0 := mp_5.trans (if_neg e1)
    obtain ⟨w, hw12, rfl⟩ := b_st_in e1
    rw [nI_clamp (by omega)] at q1
    by_cases e2 : r_in y 1 6 = 0
    · rw [if_pos e2] at q1
      rw [if_pos (r_in_z.mp e2)] at p1
      exact Sim.bad p1 (by decide) pm_52 (by rw [Q8_5, q1])
    · rw [if_neg e2] at q1
      rw [if_neg (fun q => e2 (r_in_z.mpr q))] at p1
      obtain ⟨v, v1, v6, rfl⟩ := r_in_gen (a := 1) (n := 6) (by decide) (by decide) e2
      have hRI : RI (q_zone s (nI w) (nI v)).2.2 n t := hw.1.zone
      rw [q1] at hRI
      refine Sim.good p1 (Q8_5.trans q1) (by rw [m_do_5 hw12]; exact (hw.2.2.2.1 w hw12).1) ⟨n, t, by omega, ?_⟩
      rw [m_do_5 hw12]
      have hlo : ∀ k, k < 9 ∨ 21 ≤ k → upd s (9 + w) (nI v) k = s k := fun k hk => pk_un (by omega)
      refine ⟨⟨hRI, ⟨?_, ?_, ?_, ?_, ?_, ?_, ?_, ?_, ?_⟩, ?_, ?_, ?_, ?_, (m_bal_c (M := M) (M' := m_zone M w (nI v)) n (fun _ _ => rfl)).trans hw.2.2.2.2.2.2.1, ?_⟩, ha⟩
      · rw [hlo 0 (by omega)]; exact g0
      · rw [hlo 1 (by omega)]; exact g1
      · rw [hlo 4 (by omega)]; exact g2
      · rw [hlo 5 (by omega)]; exact g3
      · rw [hlo 6 (by omega)]; exact g4
      · rw [hlo 7 (by omega)]; exact g5
      · rw [hlo 8 (by omega)]; exact g6
      · rw [hlo 2 (by omega)]; exact g7
      · rw [hlo 3 (by omega)]; exact g8
      · obtain ⟨b, p, f1, f2, f3, f4⟩ := hw.2.2.1
        exact ⟨b, p, f1, f2, by rw [hlo 2 (by omega)]; exact f3, by rw [hlo 3 (by omega)]; exact f4⟩
      · intro j hj
        show upd M.2.1 w (nI v) j = upd s (9 + w) (nI v) (9 + j) ∧ _
        by_cases e : j = w
        · subst e
          exact ⟨by rw [pk_us, pk_us], v, v1, v6, pk_us⟩
        · obtain ⟨a1, a2⟩ := hw.2.2.2.1 j hj
          rw [pk_un e, pk_un (show 9 + j ≠ 9 + w by omega)]
          exact ⟨a1, a2⟩
      · intro j hj
        obtain ⟨a, c, c1, c2⟩ := hw.2.2.2.2.1 j hj
        rw [hlo (21 + j) (by omega)]
        exact ⟨a, c, by omega, c2⟩
      · obtain ⟨a, b, c, f1, f2, f3, f4, f5, f6⟩ := hw.2.2.2.2.2.1
        exact ⟨a, b, c, by omega, by rw [hlo 5 (by omega)]; exact f2, by omega, by rw [hlo 7 (by omega)]; exact f4, by omega, by rw [hlo 8 (by omega)]; exact f6⟩
      · intro j hj
        obtain ⟨a1, a2, a3⟩ := hw.2.2.2.2.2.2.2 j hj
        exact ⟨a1.row (fun w9 _ => ro_up (by omega)), a2, a3⟩
/-- fares -/
theorem sim_6 (h : SS M s n t A B C T) (x y : Int32) : Sim M s n t A B C T 6 x y := by
  obtain ⟨hw, ha⟩ := h
  obtain ⟨g0, g1, g2, g3, g4, g5, g6, g7, g8⟩ := hw.2.1
  have q1 : q_fares s x y = if r_in x 0 999 = 0 then (1, 0, s) else if r_in y 0 99 = 0 then (1, 0, s) else (0, s 2, upd (upd s 2 x) 3 y) := rfl
  have p1 : m_prob M 6 x y = if x < 0 ∨ 999 < x ∨ y < 0 ∨ 99 < y then 2 else 0 := mp_6
  by_cases e1 : r_in x 0 999 = 0
  · rw [if_pos e1] at q1
    rw [if_pos ((r_in_z.mp e1).elim Or.inl (fun z => Or.inr (Or.inl z)))] at p1
    exact Sim.bad p1 (by decide) pm_62 (by rw [Q8_6, q1])
  · rw [if_neg e1] at q1
    by_cases e2 : r_in y 0 99 = 0
    · rw [if_pos e2] at q1
      rw [if_pos (Or.inr (Or.inr (r_in_z.mp e2)))] at p1
      exact Sim.bad p1 (by decide) pm_62 (by rw [Q8_6, q1])
    · rw [if_neg e2] at q1
      rw [if_neg (by
        rintro (z | z | z | z)
        · exact e1 (r_in_z.mpr (Or.inl z))
        · exact e1 (r_in_z.mpr (Or.inr z))
        · exact e2 (r_in_z.mpr (Or.inl z))
        · exact e2 (r_in_z.mpr (Or.inr z)))] at p1
      obtain ⟨v, v1, v6, rfl⟩ := r_in_gen (a := 0) (n := 999) (by decide) (by decide) e1
      obtain ⟨u, u1, u6, rfl⟩ := r_in_gen (a := 0) (n := 99) (by decide) (by decide) e2
      have hRI : RI (upd (upd s 2 (nI v)) 3 (nI u)) n t := (hw.1.low (by decide) (by decide) (by decide)).low (by decide) (by decide) (by decide)
      have hlo : ∀ k, k ≠ 2 → k ≠ 3 → upd (upd s 2 (nI v)) 3 (nI u) k = s k := fun k h2 h3 => by rw [pk_un h3, pk_un h2]
      refine Sim.good p1 (Q8_6.trans q1) (show M.1 7 = s 2 from g7) ⟨n, t, by omega, ?_⟩
      refine ⟨⟨hRI, ⟨?_, ?_, ?_, ?_, ?_, ?_, ?_, ?_, ?_⟩, ?_, ?_, ?_, ?_, (m_bal_c (M := M) (M' := m_fares M (nI v) (nI u)) n (fun _ _ => rfl)).trans hw.2.2.2.2.2.2.1, ?_⟩, ha⟩
      · rw [hlo 0 (by decide) (by decide)]; exact g0
      · rw [hlo 1 (by decide) (by decide)]; exact g1
      · rw [hlo 4 (by decide) (by decide)]; exact g2
      · rw [hlo 5 (by decide) (by decide)]; exact g3
      · rw [hlo 6 (by decide) (by decide)]; exact g4
      · rw [hlo 7 (by decide) (by decide)]; exact g5
      · rw [hlo 8 (by decide) (by decide)]; exact g6
      · show upd (upd M.1 7 (nI v)) 8 (nI u) 7 = upd (upd s 2 (nI v)) 3 (nI u) 2
        rw [pk_un (by decide), pk_us, pk_un (by decide), pk_us]
      · show upd (upd M.1 7 (nI v)) 8 (nI u) 8 = upd (upd s 2 (nI v)) 3 (nI u) 3
        rw [pk_us, pk_us]
      · exact ⟨v, u, v6, u6, by rw [pk_un (by decide), pk_us], pk_us⟩
      · intro j hj
        rw [hlo (9 + j) (by omega) (by omega)]
        exact hw.2.2.2.1 j hj
      · intro j hj
        obtain ⟨a, c, c1, c2⟩ := hw.2.2.2.2.1 j hj
        rw [hlo (21 + j) (by omega) (by omega)]
        exact ⟨a, c, by omega, c2⟩
      · obtain ⟨a, b, c, f1, f2, f3, f4, f5, f6⟩ := hw.2.2.2.2.2.1
        exact ⟨a, b, c, by omega, by rw [hlo 5 (by decide) (by decide)]; exact f2, by omega, by rw [hlo 7 (by decide) (by decide)]; exact f4, by omega, by rw [hlo 8 (by decide) (by decide)]; exact f6⟩
      · intro j hj
        obtain ⟨a1, a2, a3⟩ := hw.2.2.2.2.2.2.2 j hj
        exact ⟨a1.row (fun w9 _ => by rw [ro_up (by decide), ro_up (by decide)]), a2, a3⟩
theorem r_clr_lo {k : Nat} (hk : k < 33) : ∀ m, r_clr s i m k = s k
  | 0 => rfl
  | m + 1 => by
    show rw_ (r_clr s i m) i m 0 k = _
    rw [rw_lo hk, r_clr_lo hk m]
theorem r_clr_ro {j w : Nat} (hw : w < 17) : ∀ m, m ≤ 17 → ro (r_clr s i m) j w = if j = i ∧ w < m then 0 else ro s j w
  | 0, _ => by rw [if_neg (fun q => absurd q.2 (Nat.not_lt_zero w))]; rfl
  | m + 1, hm => by
    show ro (rw_ (r_clr s i m) i m 0) j w = _
    rw [ro_rw (by omega) hw, r_clr_ro hw m (by omega)]
    by_cases e : j = i ∧ w = m
    · rw [if_pos e, if_pos ⟨e.1, by omega⟩]
    · rw [if_neg e]
      by_cases e2 : j = i ∧ w < m
      · rw [if_pos e2, if_pos ⟨e2.1, by omega⟩]
      · rw [if_neg e2, if_neg (fun q => by
          rcases Nat.lt_succ_iff_lt_or_eq.mp q.2 with g | g
          · exact e2 ⟨q.1, g⟩
          · exact e ⟨q.1, g⟩)]
/-- a card -/
theorem sim_0 (h : SS M s n t A B C T) (x y : Int32) : Sim M s n t A B C T 0 x y := by
  obtain ⟨hw, ha⟩ := h
  obtain ⟨g0, g1, g2, g3, g4, g5, g6, g7, g8⟩ := hw.2.1
  have hn8 := hw.1.2.1
  have hs0 : s 0 = nI n := hw.1.1
  have p1 : m_prob M 0 x y = if M.1 0 < 8 then 0 else 3 := mp_0
  rw [g0, hs0, show (8 : Int32) = nI 8 from rfl] at p1
  by_cases e : n = 8
  · subst e
    rw [if_neg (by decide)] at p1
    exact Sim.bad p1 (by decide) pm_03 (by rw [Q8_0]; unfold q_issue; rw [if_pos (show s 0 = 8 from hs0)])
  · have hn : n < 8 := by omega
    rw [if_pos (nI_lt (by omega) (by decide))] at p1
    have ex : (if (if x = 1 then (1 : Int32) else 0) = 0 then (0 : Int32) else 1) = if x = 1 then 1 else 0 := by
      by_cases g : x = 1
      · rw [if_pos g]; rfl
      · rw [if_neg g]; rfl
    have hx01 : (if x = 1 then (1 : Int32) else 0) = 0 ∨ (if x = 1 then (1 : Int32) else 0) = 1 := by
      by_cases g : x = 1
      · rw [if_pos g]; exact Or.inr rfl
      · rw [if_neg g]; exact Or.inl rfl
    have q1 : q_issue s (if x = 1 then 1 else 0) = (0, s 0, upd (rw_ (rw_ (rw_ (rw_ (r_clr s n 17) n 0 (if x = 1 then 1 else 0)) n 2 (-1)) n 6 (-1)) n 8 (-1)) 0 (rw_ (rw_ (rw_ (rw_ (r_clr s n 17) n 0 (if x = 1 then 1 else 0)) n 2 (-1)) n 6 (-1)) n 8 (-1) 0 + 1)) := by
      unfold q_issue
      rw [if_neg (fun q => by rw [hs0, show (8 : Int32) = nI 8 from rfl, nI_eq (by omega) (by decide)] at q; omega), ex, hs0, nI_clamp (by omega)]
    obtain ⟨-, hRI⟩ := hw.1.issue (r := if x = 1 then 1 else 0) (by rw [q1])
    rw [q1] at hRI
    have hd : m_do M (t / 1440) n 0 x y = (M.1 0, m_addCard M n (if x = 1 then 1 else 0)) := rfl
    obtain ⟨R, eR⟩ : ∃ R, R = upd (rw_ (rw_ (rw_ (rw_ (r_clr s n 17) n 0 (if x = 1 then 1 else 0)) n 2 (-1)) n 6 (-1)) n 8 (-1)) 0 (rw_ (rw_ (rw_ (rw_ (r_clr s n 17) n 0 (if x = 1 then 1 else 0)) n 2 (-1)) n 6 (-1)) n 8 (-1) 0 + 1) := ⟨_, rfl⟩
    rw [← eR] at q1 hRI
    have lo : ∀ k, k < 33 → k ≠ 0 → R k = s k := fun k hk h0 => by rw [eR, pk_un h0, rw_lo hk, rw_lo hk, rw_lo hk, rw_lo hk, r_clr_lo hk]
    have l0 : R 0 = s 0 + 1 := by rw [eR, pk_us, rw_lo (by decide), rw_lo (by decide), rw_lo (by decide), rw_lo (by decide), r_clr_lo (by decide)]
    have hro : ∀ j w, w < 17 → ro R j w = if j = n ∧ w = 8 then -1 else if j = n ∧ w = 6 then -1 else if j = n ∧ w = 2 then -1 else if j = n ∧ w = 0 then (if x = 1 then 1 else 0) else if j = n then 0 else ro s j w := fun j w hw17 => by
      rw [eR, ro_up (by decide), ro_rw (by decide) hw17, ro_rw (by decide) hw17, ro_rw (by decide) hw17, ro_rw (by decide) hw17, r_clr_ro hw17 17 (Nat.le_refl _)]
      simp only [hw17, and_true]
    have k9 := SK.anew (M.2.2.2.1 n) t hw.t30 hx01 (r := ro R n) (by rw [hro n 0 (by decide)]; simp) (by rw [hro n 1 (by decide)]; simp) (by rw [hro n 2 (by decide)]; simp) (by rw [hro n 6 (by decide)]; simp) (by rw [hro n 8 (by decide)]; simp) (fun q h1 h2 => by
      rw [hro n q h2, if_neg (by omega), if_neg (by omega), if_neg (by omega), if_neg (by omega), if_pos rfl])
    obtain ⟨k1, k2, k3, k4⟩ := k9
    refine Sim.good p1 (Q8_0.trans q1) (by rw [hd]; exact g0) ⟨n + 1, t, by omega, ?_⟩
    rw [hd]
    have hcn : (m_addCard M n (if x = 1 then 1 else 0)).2.2.2.1 n = k_anew (M.2.2.2.1 n) (if x = 1 then 1 else 0) := vu_eq
    have hcl : (m_addCard M n (if x = 1 then 1 else 0)).2.2.2.2 n = [] := vu_eq
    have hcj : ∀ j, j ≠ n → (m_addCard M n (if x = 1 then 1 else 0)).2.2.2.1 j = M.2.2.2.1 j ∧ (m_addCard M n (if x = 1 then 1 else 0)).2.2.2.2 j = M.2.2.2.2 j := fun j hj => ⟨vu_ne hj, vu_ne hj⟩
    refine ⟨⟨hRI, ⟨?_, ?_, ?_, ?_, ?_, ?_, ?_, ?_, ?_⟩, ?_, ?_, ?_, ?_, ?_, ?_⟩, ?_⟩
    · show M.1 0 + 1 = R 0
      rw [l0, g0]
    · rw [lo 1 (by decide) (by decide)]; exact g1
    · rw [lo 4 (by decide) (by decide)]; exact g2
    · rw [lo 5 (by decide) (by decide)]; exact g3
    · rw [lo 6 (by decide) (by decide)]; exact g4
    · rw [lo 7 (by decide) (by decide)]; exact g5
    · rw [lo 8 (by decide) (by decide)]; exact g6
    · rw [lo 2 (by decide) (by decide)]; exact g7
    · rw [lo 3 (by decide) (by decide)]; exact g8
    · obtain ⟨b, p, f1, f2, f3, f4⟩ := hw.2.2.1
      exact ⟨b, p, f1, f2, by rw [lo 2 (by decide) (by decide)]; exact f3, by rw [lo 3 (by decide) (by decide)]; exact f4⟩
    · intro j hj
      rw [lo (9 + j) (by omega) (by omega)]
      exact hw.2.2.2.1 j hj
    · intro j hj
      obtain ⟨a, c, c1, c2⟩ := hw.2.2.2.2.1 j hj
      rw [lo (21 + j) (by omega) (by omega)]
      exact ⟨a, c, by omega, c2⟩
    · obtain ⟨a, b, c, f1, f2, f3, f4, f5, f6⟩ := hw.2.2.2.2.2.1
      exact ⟨a, b, c, by omega, by rw [lo 5 (by decide) (by decide)]; exact f2, by omega, by rw [lo 7 (by decide) (by decide)]; exact f4, by omega, by rw [lo 8 (by decide) (by decide)]; exact f6⟩
    · show m_bal _ n + ((m_addCard M n (if x = 1 then 1 else 0)).2.2.2.1 n).1 1 = _
      rw [m_bal_c (M := M) n (fun j hj => by rw [(hcj j (by omega)).1]), hcn, hw.2.2.2.2.2.2.1]
      show _ + (0 : Int32) = _
      rw [Int32.add_zero]
      rfl
    · intro j hj
      by_cases e2 : j = n
      · subst e2
        rw [hcn, hcl]
        exact ⟨k1, k2, k3⟩
      · rw [(hcj j e2).1, (hcj j e2).2]
        obtain ⟨a1, a2, a3⟩ := hw.2.2.2.2.2.2.2 j (by omega)
        exact ⟨a1.row (fun w hw17 => by rw [hro j w hw17, if_neg (fun q => e2 q.1), if_neg (fun q => e2 q.1), if_neg (fun q => e2 q.1), if_neg (fun q => e2 q.1), if_neg e2]), a2, a3⟩
    · intro j hj
      by_cases e2 : j = n
      · subst e2; rw [hcn]; exact k4
      · rw [(hcj j e2).1]; exact ha j (by omega)
end KND
