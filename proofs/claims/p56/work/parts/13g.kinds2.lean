/-! Trips, repairs, time. -/
section KN2
variable {M M' : MS} {s s' : Nat → Int32} {n t A B C T A' B' C' T' i d k w : Nat} {x y z : Int32}
theorem cont_eq {κ : KS} {L : List (Int32 × Int32)} (h : SC κ L (ro s i) t) (h1 : s 1 = nI t) (hw : w < 12) : r_cont s i (nI w) = k_cont κ (nI w) (nI t) := by
  unfold r_cont k_cont
  rcases h.tr with ⟨a, b⟩ | ⟨a, j, b, hj, -, c, -⟩
  · rw [b, if_neg (by decide), h1]
    rcases h.la with ⟨e, f⟩ | ⟨e, -, f, g⟩
    · rw [f, if_pos (nI_m1 (by omega)), if_neg (fun q => q.2.1 e)]
    · rw [f, g]
      by_cases u : κ.1 8 = nI w
      · rw [if_neg (not_not_intro u)]
        by_cases v : 15 < nI t - κ.1 9
        · rw [if_pos v, if_neg (fun q => q.2.2.2 v)]
        · rw [if_neg v, if_pos ⟨a, by rw [e]; decide, u, v⟩]
      · rw [if_pos u, if_neg (fun q => u q.2.2.1)]
  · rw [c, if_pos (nI_pos' (by omega)), if_neg (fun q => by rw [a] at q; exact absurd q.1 (by decide))]
theorem Sw.inc_c (h : Sw M s n t A B C T) (hi : i < n) (h1 : t / 1440 - 2 ≤ d) (h2 : d ≤ t / 1440) : ((M.2.2.2.1 i).1 1).toInt - 700 ≤ (((m_inc M i d).2.2.2.1 i).1 1).toInt := by
  have h30 := h.t30
  obtain ⟨eX, u, hu, eu⟩ := lossX_eq h hi (d := d) (by omega)
  obtain ⟨hc, hp, hb⟩ := h.2.2.2.2.2.2.2 i hi
  obtain ⟨x0, x7, y1, y2⟩ := k_min_b hc h1 h2 (P := nI u) (by rw [nI_toInt (by omega)]; omega)
  rw [← eu] at x0 x7
  have hci : (m_inc M i d).2.2.2.1 i = k_break (k_enter (M.2.2.2.1 i) d (m_incX M i d)) (nI d) (m_incX M i d) := vu_eq
  rw [hci]
  show _ ≤ ((M.2.2.2.1 i).1 1 - m_incX M i d).toInt
  have := hb.1
  have := hb.2.2.1
  rw [i_sub (by omega) (by omega)]
  omega
def R_in (s : Nat → Int32) (i w : Nat) (c : Int32) : Nat → Int32 := q_st (rw_ (rw_ (if c = 0 then rw_ (rw_ s i 4 (nI w)) i 5 0 else s) i 2 (nI w)) i 3 (rw_ (if c = 0 then rw_ (rw_ s i 4 (nI w)) i 5 0 else s) i 2 (nI w) 1)) w
theorem R_in_lo {c : Int32} {k : Nat} (hk : k < 33) : R_in s i w c k = if k = 21 + w then s (21 + w) + 1 else s k := by
  have e : ∀ j, j < 33 → rw_ (rw_ (if c = 0 then rw_ (rw_ s i 4 (nI w)) i 5 0 else s) i 2 (nI w)) i 3 (rw_ (if c = 0 then rw_ (rw_ s i 4 (nI w)) i 5 0 else s) i 2 (nI w) 1) j = s j := fun j hj => by
    rw [rw_lo hj, rw_lo hj]
    split
    · rw [rw_lo hj, rw_lo hj]
    · rfl
  show upd _ (21 + w) _ k = _
  unfold upd
  by_cases g : k = 21 + w
  · rw [if_pos g, if_pos g, e _ (by omega)]
  · rw [if_neg g, if_neg g, e k hk]
theorem R_in_ro {c : Int32} {j k : Nat} (hk : k < 17) (hw : w < 12) : ro (R_in s i w c) j k = if j = i then rbg (ro s i) c (nI w) (s 1) k else ro s j k := by
  have e1 : rw_ (if c = 0 then rw_ (rw_ s i 4 (nI w)) i 5 0 else s) i 2 (nI w) 1 = s 1 := by
    rw [rw_lo (by decide)]
    split
    · rw [rw_lo (by decide), rw_lo (by decide)]
    · rfl
  unfold R_in q_st
  rw [ro_up (by omega), e1, ro_rw (by decide) hk, ro_rw (by decide) hk]
  unfold rbg
  by_cases g : j = i
  · subst g
    rw [if_pos rfl]
    by_cases h3 : k = 3
    · rw [if_pos ⟨rfl, h3⟩, if_pos h3]
    · rw [if_neg (fun q => h3 q.2), if_neg h3]
      by_cases h2 : k = 2
      · rw [if_pos ⟨rfl, h2⟩, if_pos h2]
      · rw [if_neg (fun q => h2 q.2), if_neg h2]
        by_cases hc : c = 0
        · rw [if_pos hc, if_pos hc, ro_rw (by decide) hk, ro_rw (by decide) hk]
          by_cases h5 : k = 5
          · rw [if_pos ⟨rfl, h5⟩, if_pos h5]
          · rw [if_neg (fun q => h5 q.2), if_neg h5]
            by_cases h4 : k = 4
            · rw [if_pos ⟨rfl, h4⟩, if_pos h4]
            · rw [if_neg (fun q => h4 q.2), if_neg h4]
        · rw [if_neg hc, if_neg hc]
  · rw [if_neg g, if_neg (fun q => g q.1), if_neg (fun q => g q.1)]
    split
    · rw [ro_rw (by decide) hk, ro_rw (by decide) hk, if_neg (fun q => g q.1), if_neg (fun q => g q.1)]
    · rfl
theorem Sw.begin (h : Sw M s n t A B C T) (hi : i < n) (h0 : (M.2.2.2.1 i).1 2 = 0) (hb2 : -1200 ≤ ((M.2.2.2.1 i).1 1).toInt) (hw : w < 12) (hRI : RI (R_in s i w (k_cont (M.2.2.2.1 i) (nI w) (nI t))) n t) :
    Sw (m_card (m_tap M w) i (k_begin (M.2.2.2.1 i) (nI w) (nI t))) (R_in s i w (k_cont (M.2.2.2.1 i) (nI w) (nI t))) n t A B C (T + 1) ∧ SA (k_begin (M.2.2.2.1 i) (nI w) (nI t)) t := by
  obtain ⟨g0, g1, g2, g3, g4, g5, g6, g7, g8⟩ := h.2.1
  obtain ⟨hc, hp, hb⟩ := h.2.2.2.2.2.2.2 i hi
  obtain ⟨k1, k2, k3, k4⟩ := SK.bgn h.t30 hc hp hb h0 hb2 hw
  have h1 : s 1 = nI t := h.1.2.2.1
  obtain ⟨c, ec⟩ : ∃ c, c = k_cont (M.2.2.2.1 i) (nI w) (nI t) := ⟨_, rfl⟩
  rw [← ec] at hRI k1 ⊢
  have lo : ∀ k, k < 21 → R_in s i w c k = s k := fun k hk => by rw [R_in_lo (by omega), if_neg (by omega)]
  have hci : (m_card (m_tap M w) i (k_begin (M.2.2.2.1 i) (nI w) (nI t))).2.2.2.1 i = k_begin (M.2.2.2.1 i) (nI w) (nI t) := vu_eq
  have hcj : ∀ j, j ≠ i → (m_card (m_tap M w) i (k_begin (M.2.2.2.1 i) (nI w) (nI t))).2.2.2.1 j = M.2.2.2.1 j := fun j hj => vu_ne hj
  refine ⟨h.card (i := i) hRI ⟨?_, ?_, ?_, ?_, ?_, ?_, ?_, ?_, ?_⟩ ⟨lo 2 (by decide), lo 3 (by decide)⟩ rfl (fun v hv => lo (9 + v) (by omega)) (fun v hv => ?_) ?_ ?_ (fun j hj => ⟨hcj j hj, rfl⟩) (fun j hj v hv => by rw [R_in_ro hv hw, if_neg hj]) ?_, k4⟩
  · rw [lo 0 (by decide)]; exact g0
  · rw [lo 1 (by decide)]; exact g1
  · rw [lo 4 (by decide)]; exact g2
  · rw [lo 5 (by decide)]; exact g3
  · rw [lo 6 (by decide)]; exact g4
  · rw [lo 7 (by decide)]; exact g5
  · rw [lo 8 (by decide)]; exact g6
  · rw [lo 2 (by decide)]; exact g7
  · rw [lo 3 (by decide)]; exact g8
  · obtain ⟨a, b, b1, b2⟩ := h.2.2.2.2.1 v hv
    rw [R_in_lo (by omega)]
    show upd M.2.2.1 w (M.2.2.1 w + 1) v = _ ∧ _
    by_cases e : v = w
    · subst e
      rw [pk_us, if_pos rfl]
      exact ⟨by rw [a], b + 1, by omega, by rw [b2, nI_1]⟩
    · rw [pk_un e, if_neg (by omega)]
      exact ⟨a, b, by omega, b2⟩
  · obtain ⟨a, b, c9, f1, f2, f3, f4, f5, f6⟩ := h.2.2.2.2.2.1
    exact ⟨a, b, c9, f1, by rw [lo 5 (by decide)]; exact f2, f3, by rw [lo 7 (by decide)]; exact f4, f5, by rw [lo 8 (by decide)]; exact f6⟩
  · rw [m_bal_c (M := M) n (fun j hj => by
      by_cases e : j = i
      · subst e
        rw [hci]
        unfold k_begin
        split <;> rfl
      · rw [hcj j e])]
    exact h.2.2.2.2.2.2.1
  · rw [hci]
    exact ⟨k1.row (fun v hv => by rw [R_in_ro hv hw, if_pos rfl, h1]), k2, k3⟩
/-- tapping in -/
theorem sim_2 (h : SS M s n t A B C T) (x y : Int32) : Sim M s n t A B C T 2 x y := by
  obtain ⟨hw, ha⟩ := h
  obtain ⟨g0, g1, g2, g3, g4, g5, g6, g7, g8⟩ := hw.2.1
  have hn8 := hw.1.2.1
  have h30 := hw.t30
  have hs0 : s 0 = nI n := hw.1.1
  have hs1 : s 1 = nI t := hw.1.2.2.1
  have bc := bc_eq (s := s) x (g0.trans hs0) hs0 hn8
  have bs := bs_eq y
  by_cases e1 : b_card M x = 0 ∨ b_st y = 0
  · refine Sim.bad (z := 1) (mp_2.trans (if_pos e1)) (by decide) pm_21 ?_
    rw [Q8_2]
    unfold q_in
    by_cases e2 : r_in x 0 (s 0 - 1) = 0
    · rw [if_pos e2]
    · rw [if_neg e2, if_pos (bs.mp (e1.resolve_left (fun q => e2 (bc.mp q))))]
  · have c1 : ¬ b_card M x = 0 := fun q => e1 (Or.inl q)
    have c2 : ¬ b_st y = 0 := fun q => e1 (Or.inr q)
    have p1 : m_prob M 2 x y = if (-500) ≤ (m_c M x).1 1 then 0 else 3 := mp_2.trans (if_neg e1)
    obtain ⟨i, hi, hi8, rfl⟩ := b_card_n (g0.trans hs0) hn8 c1
    obtain ⟨w, hw12, rfl⟩ := b_st_in c2
    rw [show m_c M (nI i) = M.2.2.2.1 i by rw [m_c, nI_clamp (by omega)]] at p1
    obtain ⟨hc, hp, hb⟩ := hw.2.2.2.2.2.2.2 i hi
    have q1 : q_in s (t / 1440) (nI i) (nI w) = if ¬ -500 ≤ ro s i 1 then (2, 0, s) else (0, (if r_cont s i (nI w) = 0 then 0 else 1), R_in (if ro s i 2 < 0 then s else r_loses s i (t / 1440)) i w (r_cont s i (nI w))) := by
      unfold q_in
      rw [if_neg (fun q => c1 (bc.mpr q)), if_neg (fun q => c2 (bs.mpr q)), nI_clamp (n := i) (by omega), nI_clamp (n := w) (by omega)]
      rfl
    have hRI : RI (q_in s (t / 1440) (nI i) (nI w)).2.2 n t := hw.1.tin
    rw [hc.e1] at q1
    by_cases e4 : (-500) ≤ (M.2.2.2.1 i).1 1
    · rw [if_pos e4] at p1
      rw [if_neg (not_not_intro e4)] at q1
      rw [q1] at hRI
      have e5 : -500 ≤ ((M.2.2.2.1 i).1 1).toInt := by
        rw [Int32.le_iff_toInt_le, show (-500 : Int32).toInt = -500 from by decide] at e4
        exact e4
      have hct := cont_eq (w := w) hc hs1 hw12
      have key : ∀ (M0 : MS) (s0 : Nat → Int32), Sw M0 s0 n t (A + 700) B (C + 1) T → (M0.2.2.2.1 i).1 2 = 0 → -1200 ≤ ((M0.2.2.2.1 i).1 1).toInt → (∀ j, j ≠ i → M0.2.2.2.1 j = M.2.2.2.1 j) → r_cont s i (nI w) = k_cont (M0.2.2.2.1 i) (nI w) (nI t) → (if ro s i 2 < 0 then s else r_loses s i (t / 1440)) = s0 → m_do M (t / 1440) n 2 (nI i) (nI w) = (k_cont (M0.2.2.2.1 i) (nI w) (nI t), m_card (m_tap M0 w) i (k_begin (M0.2.2.2.1 i) (nI w) (nI t))) → Sim M s n t A B C T 2 (nI i) (nI w) := by
        intro M0 s0 h0 z0 zb zc z1 z2 z3
        rw [z2, z1] at q1 hRI
        obtain ⟨b1, b2⟩ := h0.begin hi z0 zb hw12 hRI
        refine Sim.good p1 (Q8_2.trans q1) ?_ ⟨n, t, by omega, ?_⟩
        · rw [z3]
          rcases k_cont_z (M0.2.2.2.1 i) (nI w) (nI t) with q | q <;> rw [q] <;> rfl
        · rw [z3]
          refine ⟨b1.more (by omega) (by omega) (by omega) (by omega), fun j hj => ?_⟩
          by_cases e : j = i
          · subst e
            show SA (va_up M0.2.2.2.1 j _ j) t
            rw [vu_eq]; exact b2
          · show SA (va_up M0.2.2.2.1 i _ j) t
            rw [vu_ne e, zc j e]; exact ha j hj
      rcases hc.tr with ⟨a1, a2⟩ | ⟨a1, j, b, hj, a3, a4, a5⟩
      · refine key M s (hw.more (by omega) (by omega) (by omega) (by omega)) a1 (by omega) (fun _ _ => rfl) hct (by rw [a2]; rfl) ?_
        rw [m_do_2 hi8 hw12]
        unfold m_enterAt
        rw [if_pos a1]
        show (k_cont (M.2.2.2.1 i) (nI w) (M.1 1), m_card (m_tap M w) i (k_begin (M.2.2.2.1 i) (nI w) (M.1 1))) = _
        rw [g1, hs1]
      · obtain ⟨i1, i2, i3⟩ := hw.inc hi a1 (d := t / 1440) (by omega) (Nat.le_refl _)
        have i4 := hw.inc_c hi (d := t / 1440) (by omega) (Nat.le_refl _)
        refine key (m_inc M i (t / 1440)) (r_loses s i (t / 1440)) i1 i2 (by omega) i3 ?_ (by rw [a4, if_neg (nI_pos (by omega))]) ?_
        · rw [hct]
          have l1 : k_cont (M.2.2.2.1 i) (nI w) (nI t) = 0 := if_neg (fun q => by rw [a1] at q; exact absurd q.1 (by decide))
          have l2 : k_cont ((m_inc M i (t / 1440)).2.2.2.1 i) (nI w) (nI t) = 0 := if_neg (fun q => q.2.1 (by
            show (va_up M.2.2.2.1 i (k_break _ _ _) i).1 7 = 0
            rw [vu_eq]; rfl))
          rw [l1, l2]
        · rw [m_do_2 hi8 hw12]
          unfold m_enterAt
          rw [if_neg (fun q => by rw [a1] at q; exact absurd q (by decide))]
          show (k_cont ((m_inc M i (t / 1440)).2.2.2.1 i) (nI w) ((m_inc M i (t / 1440)).1 1), m_card (m_tap (m_inc M i (t / 1440)) w) i (k_begin ((m_inc M i (t / 1440)).2.2.2.1 i) (nI w) ((m_inc M i (t / 1440)).1 1))) = _
          rw [i1.2.1.2.1, i1.1.2.2.1]
    · rw [if_neg e4] at p1
      rw [if_pos e4] at q1
      exact Sim.bad p1 (by decide) pm_23 (by rw [Q8_2, q1])
theorem mx0 (b : Int32) : r_max 0 b = if b < 0 then 0 else b := by
  unfold r_max
  by_cases h1 : 0 < b
  · rw [if_pos h1, if_neg (fun q => by rw [Int32.lt_iff_toInt_lt, i_zero] at h1 q; omega)]
  · rw [if_neg h1]
    by_cases h2 : b < 0
    · rw [if_pos h2]
    · rw [if_neg h2]
      apply Int32.toInt_inj.mp
      rw [Int32.lt_iff_toInt_lt, i_zero] at h1 h2
      rw [i_zero]; omega
theorem mx0_b (b : Int32) : 0 ≤ (if b < 0 then (0 : Int32) else b).toInt := by
  by_cases h2 : b < 0
  · rw [if_pos h2]; decide
  · rw [if_neg h2]
    rw [Int32.lt_iff_toInt_lt, i_zero] at h2
    omega
def R_out (s : Nat → Int32) (i w d : Nat) (c : Int32) : Nat → Int32 :=
  let a := r_pay s i d c
  let a := rw_ a i 5 (ro a i 5 + c)
  let a := rw_ a i 2 (-1)
  let a := rw_ a i 6 (nI w)
  let a := rw_ a i 7 (a 1)
  let a := upd a 7 (a 7 + 1)
  q_st a w
theorem R_out_lo {c : Int32} {k : Nat} (hk : k < 33) : R_out s i w d c k = if k = 21 + w then s (21 + w) + 1 else if k = 7 then s 7 + 1 else if k = 5 then s 5 + c else s k := by
  have e5 : ∀ j, j < 33 → j ≠ 5 → r_pay s i d c j = s j := fun j hj h5 => r_pay_lo hj h5
  have e : ∀ j, j < 33 → j ≠ 7 → upd (rw_ (rw_ (rw_ (rw_ (r_pay s i d c) i 5 (ro (r_pay s i d c) i 5 + c)) i 2 (-1)) i 6 (nI w)) i 7 (rw_ (rw_ (rw_ (r_pay s i d c) i 5 (ro (r_pay s i d c) i 5 + c)) i 2 (-1)) i 6 (nI w) 1)) 7 (rw_ (rw_ (rw_ (rw_ (r_pay s i d c) i 5 (ro (r_pay s i d c) i 5 + c)) i 2 (-1)) i 6 (nI w)) i 7 (rw_ (rw_ (rw_ (r_pay s i d c) i 5 (ro (r_pay s i d c) i 5 + c)) i 2 (-1)) i 6 (nI w) 1) 7 + 1) j = r_pay s i d c j := fun j hj h7 => by rw [pk_un h7, rw_lo hj, rw_lo hj, rw_lo hj, rw_lo hj]
  show upd (upd _ 7 _) (21 + w) (upd _ 7 _ (21 + w) + 1) k = _
  by_cases g : k = 21 + w
  · subst g
    rw [pk_us, if_pos rfl, e _ hk (by omega), e5 _ hk (by omega)]
  · rw [pk_un g, if_neg g]
    by_cases h7 : k = 7
    · subst h7
      rw [if_pos rfl, pk_us, rw_lo (by decide), rw_lo (by decide), rw_lo (by decide), rw_lo (by decide), e5 7 (by decide) (by decide)]
    · rw [if_neg h7, e k hk h7]
      by_cases h5 : k = 5
      · subst h5
        rw [if_pos rfl, r_pay_5]
      · rw [if_neg h5, e5 k hk h5]
theorem R_out_ro {c : Int32} {j k : Nat} (hk : k < 17) (hw : w < 12) : ro (R_out s i w d c) j k = if j = i then rcm (ro s i) d c (nI w) (s 1) k else ro s j k := by
  have e1 : rw_ (rw_ (rw_ (r_pay s i d c) i 5 (ro (r_pay s i d c) i 5 + c)) i 2 (-1)) i 6 (nI w) 1 = s 1 := by rw [rw_lo (by decide), rw_lo (by decide), rw_lo (by decide), r_pay_lo (by decide) (by decide)]
  have e5 : ro (r_pay s i d c) i 5 = ro s i 5 := by rw [ro_pay_i (by decide), rp_lo (by decide) (by decide)]
  unfold R_out q_st
  dsimp only
  rw [ro_up (by omega), ro_up (by decide), e1, e5, ro_rw (by decide) hk, ro_rw (by decide) hk, ro_rw (by decide) hk, ro_rw (by decide) hk]
  unfold rcm
  by_cases g : j = i
  · subst g
    simp only [true_and, if_true]
    rw [ro_pay_i hk]
  · rw [if_neg g, if_neg (fun q => g q.1), if_neg (fun q => g q.1), if_neg (fun q => g q.1), if_neg (fun q => g q.1), ro_pay hk (Or.inl g)]
/-- tapping out -/
theorem sim_3 (h : SS M s n t A B C T) (x y : Int32) : Sim M s n t A B C T 3 x y := by
  obtain ⟨hw, ha⟩ := h
  obtain ⟨g0, g1, g2, g3, g4, g5, g6, g7, g8⟩ := hw.2.1
  have hn8 := hw.1.2.1
  have h30 := hw.t30
  have hs0 : s 0 = nI n := hw.1.1
  have hs1 : s 1 = nI t := hw.1.2.2.1
  have bc := bc_eq (s := s) x (g0.trans hs0) hs0 hn8
  have bs := bs_eq y
  by_cases e1 : b_card M x = 0 ∨ b_st y = 0
  · refine Sim.bad (z := 1) (mp_3.trans (if_pos e1)) (by decide) pm_31 ?_
    rw [Q8_3]
    unfold q_out
    by_cases e2 : r_in x 0 (s 0 - 1) = 0
    · rw [if_pos e2]
    · rw [if_neg e2, if_pos (bs.mp (e1.resolve_left (fun q => e2 (bc.mp q))))]
  · have c1 : ¬ b_card M x = 0 := fun q => e1 (Or.inl q)
    have c2 : ¬ b_st y = 0 := fun q => e1 (Or.inr q)
    have p1 : m_prob M 3 x y = if (m_c M x).1 2 = 0 then 3 else 0 := mp_3.trans (if_neg e1)
    obtain ⟨i, hi, hi8, rfl⟩ := b_card_n (g0.trans hs0) hn8 c1
    obtain ⟨w, hw12, rfl⟩ := b_st_in c2
    rw [show m_c M (nI i) = M.2.2.2.1 i by rw [m_c, nI_clamp (by omega)]] at p1
    obtain ⟨hc, hp, hb⟩ := hw.2.2.2.2.2.2.2 i hi
    have q1 : q_out s (t / 1440) (nI i) (nI w) = if ¬ 0 ≤ ro s i 2 then (2, 0, s) else (0, r_chg s i (t / 1440) (r_to s i (ro s i 4).toNatClampNeg w), R_out s i w (t / 1440) (r_chg s i (t / 1440) (r_to s i (ro s i 4).toNatClampNeg w))) := by
      unfold q_out
      rw [if_neg (fun q => c1 (bc.mpr q)), if_neg (fun q => c2 (bs.mpr q)), nI_clamp (n := i) (by omega), nI_clamp (n := w) (by omega)]
      rfl
    have hRI : RI (q_out s (t / 1440) (nI i) (nI w)).2.2 n t := hw.1.tout
    rcases hc.tr with ⟨a1, a2⟩ | ⟨a1, j0, b0, hj0, a3, a4, a5⟩
    · rw [if_pos a1] at p1
      rw [a2, if_pos (by decide)] at q1
      exact Sim.bad p1 (by decide) pm_33 (by rw [Q8_3, q1])
    · rw [if_neg (fun q => by rw [a1] at q; exact absurd q (by decide))] at p1
      rw [a4, if_neg (not_not_intro (nI_pos' (by omega)))] at q1
      rw [q1] at hRI
      obtain ⟨⟨j, hj, t5, r4⟩, r5⟩ := hc.jo (Or.inl a1)
      have eo : r_chg s i (t / 1440) (r_to s i (ro s i 4).toNatClampNeg w) = m_leaveX M i j w (t / 1440) := by
        rw [r_chg_eq hc (by omega), r4, nI_clamp (by omega)]
        unfold r_to
        rw [mx0, r_paid_eq hc, hw.price hj hw12, r5]
        rfl
      rw [eo] at q1 hRI
      have x01 : ∃ P : Int32, 0 ≤ P.toInt ∧ m_leaveX M i j w (t / 1440) = k_min (M.2.2.2.1 i) (t / 1440) P := ⟨_, mx0_b (k_price (M.2.2.2.1 i) (ln_fare M.2.1 (M.1 7) (M.1 8) j w) - (M.2.2.2.1 i).1 6), rfl⟩
      obtain ⟨P, hP, eP⟩ := x01
      obtain ⟨x0, x7, y1, y2⟩ := k_min_b hc (d := t / 1440) (by omega) (Nat.le_refl _) hP
      rw [← eP] at x0 x7 y1 y2
      obtain ⟨xv, ex⟩ : ∃ v, v = m_leaveX M i j w (t / 1440) := ⟨_, rfl⟩
      have hdo : m_do M (t / 1440) n 3 (nI i) (nI w) = (xv, m_leave M i w (t / 1440) xv) := by rw [m_do_3 hi8 hw12 hj t5, ex]
      rw [← ex] at q1 hRI x0 x7 y1 y2
      obtain ⟨k1, k2, k3, k4⟩ := SK.cmp hc hp hb (d := t / 1440) (by omega) (Nat.le_refl _) h30 a1 x0 x7 y1 y2 hw12 (nI t)
      refine Sim.good p1 (Q8_3.trans q1) (by rw [hdo]) ⟨n, t, by omega, ?_⟩
      rw [hdo]
      have hci : (m_leave M i w (t / 1440) xv).2.2.2.1 i = k_complete (k_enter (M.2.2.2.1 i) (t / 1440) xv) (nI w) (M.1 1) xv := vu_eq
      have hcl : (m_leave M i w (t / 1440) xv).2.2.2.2 i = (nI (t / 1440), xv) :: M.2.2.2.2 i := vu_eq
      have hcj : ∀ j, j ≠ i → (m_leave M i w (t / 1440) xv).2.2.2.1 j = M.2.2.2.1 j ∧ (m_leave M i w (t / 1440) xv).2.2.2.2 j = M.2.2.2.2 j := fun j hj => ⟨vu_ne hj, vu_ne hj⟩
      have lo : ∀ k, k < 21 → k ≠ 5 → k ≠ 7 → R_out s i w (t / 1440) xv k = s k := fun k hk h5 h7 => by rw [R_out_lo (by omega), if_neg (by omega), if_neg h7, if_neg h5]
      obtain ⟨xc, hxc, exc⟩ := nI_of (x := xv) (by rw [Int32.lt_iff_toInt_lt, i_zero]; omega)
      rw [g1, hs1] at hci
      refine ⟨hw.card (i := i) hRI ⟨?_, ?_, ?_, ?_, ?_, ?_, ?_, ?_, ?_⟩ ⟨lo 2 (by decide) (by decide) (by decide), lo 3 (by decide) (by decide) (by decide)⟩ rfl (fun v hv => lo (9 + v) (by omega) (by omega) (by omega)) (fun v hv => ?_) ?_ ?_ hcj (fun j hj v hv => by rw [R_out_ro hv hw12, if_neg hj]) ?_, fun j hj => ?_⟩
      · rw [lo 0 (by decide) (by decide) (by decide)]; exact g0
      · rw [lo 1 (by decide) (by decide) (by decide)]; exact g1
      · rw [lo 4 (by decide) (by decide) (by decide)]; exact g2
      · rw [R_out_lo (by decide), if_neg (by omega), if_neg (by decide), if_pos rfl, ← g3]; rfl
      · rw [lo 6 (by decide) (by decide) (by decide)]; exact g4
      · rw [R_out_lo (by decide), if_neg (by omega), if_pos rfl, ← g5]; rfl
      · rw [lo 8 (by decide) (by decide) (by decide)]; exact g6
      · rw [lo 2 (by decide) (by decide) (by decide)]; exact g7
      · rw [lo 3 (by decide) (by decide) (by decide)]; exact g8
      · obtain ⟨a, b, b1, b2⟩ := hw.2.2.2.2.1 v hv
        rw [R_out_lo (by omega)]
        show upd M.2.2.1 w (M.2.2.1 w + 1) v = _ ∧ _
        by_cases e : v = w
        · subst e
          rw [pk_us, if_pos rfl]
          exact ⟨by rw [a], b + 1, by omega, by rw [b2, nI_1]⟩
        · rw [pk_un e, if_neg (by omega), if_neg (by omega), if_neg (by omega)]
          exact ⟨a, b, by omega, b2⟩
      · obtain ⟨a, b, c9, f1, f2, f3, f4, f5, f6⟩ := hw.2.2.2.2.2.1
        rw [exc, nI_toInt hxc] at x7
        exact ⟨a + xc, b + 1, c9, by omega, by rw [R_out_lo (by decide), if_neg (by omega), if_neg (by decide), if_pos rfl, f2, exc, nI_add], by omega, by rw [R_out_lo (by decide), if_neg (by omega), if_pos rfl, f4, nI_1], by omega, by rw [lo 8 (by decide) (by decide) (by decide)]; exact f6⟩
      · rw [m_bal_up (M := M) (i := i) n hi (fun j hj => by rw [(hcj j hj).1]), hci]
        show m_bal M n - (M.2.2.2.1 i).1 1 + ((M.2.2.2.1 i).1 1 - xv) = M.1 2 - (M.1 3 + xv) + M.1 4
        rw [i_alg4]
        exact i_alg3 _ _ _ _ _ hw.2.2.2.2.2.2.1
      · rw [hci, hcl]
        exact ⟨k1.row (fun v hv => by rw [R_out_ro hv hw12, if_pos rfl, hs1]), k2, k3⟩
      · by_cases e : j = i
        · subst e; rw [hci]; exact k4
        · rw [(hcj j e).1]; exact ha j hj
end KN2
