/-! Repairs, time; all kinds. -/
section KN3
variable {M M' : MS} {s s' : Nat → Int32} {n t A B C T A' B' C' T' i d k w : Nat} {x y z : Int32}
def R_fix (s : Nat → Int32) (i e : Nat) (c : Int32) : Nat → Int32 :=
  let a := r_add s i e (-c)
  let a := rw_ a i 1 (ro a i 1 + c)
  let a := rw_ a i 8 (-1)
  upd a 6 (a 6 + c)
theorem R_fix_lo {c : Int32} {k : Nat} (hk : k < 33) : R_fix s i d c k = if k = 6 then s 6 + c else s k := by
  show upd (rw_ (rw_ (r_add s i d (-c)) i 1 _) i 8 (-1)) 6 (rw_ (rw_ (r_add s i d (-c)) i 1 _) i 8 (-1) 6 + c) k = _
  by_cases g : k = 6
  · subst g
    rw [pk_us, if_pos rfl, rw_lo (by decide), rw_lo (by decide), r_add_lo (by decide)]
  · rw [pk_un g, if_neg g, rw_lo hk, rw_lo hk, r_add_lo hk]
theorem ro_add {c : Int32} {j k : Nat} (hk : k < 17) : ro (r_add s i d c) j k = if j = i ∧ k = 14 + d % 3 then nI d else if j = i ∧ k = 11 + d % 3 then r_sum s i d + c else ro s j k := by
  have hd : d % 3 < 3 := Nat.mod_lt _ (by decide)
  unfold r_add
  rw [ro_rw (by omega) hk, ro_rw (by omega) hk]
theorem R_fix_ro {c : Int32} {j k : Nat} (hk : k < 17) : ro (R_fix s i d c) j k = if j = i then rbk (ro s i) d c k else ro s j k := by
  have hd : d % 3 < 3 := Nat.mod_lt _ (by decide)
  show ro (upd (rw_ (rw_ (r_add s i d (-c)) i 1 (ro (r_add s i d (-c)) i 1 + c)) i 8 (-1)) 6 _) j k = _
  have e1 : ro (r_add s i d (-c)) i 1 = ro s i 1 := by rw [ro_add (by decide), if_neg (by omega), if_neg (by omega)]
  rw [ro_up (by decide), e1, ro_rw (by decide) hk, ro_rw (by decide) hk, ro_add hk]
  unfold rbk rp r_sum
  by_cases g : j = i
  · subst g
    simp only [true_and, if_true]
    by_cases h8 : k = 8
    · rw [if_pos h8, if_pos h8]
    · rw [if_neg h8, if_neg h8]
      by_cases h1 : k = 1
      · rw [if_pos h1, if_pos h1]
        grind
      · rw [if_neg h1, if_neg h1]
        by_cases h2 : k = 14 + d % 3
        · rw [if_pos h2, if_neg (by omega), if_pos h2]
        · rw [if_neg h2]
          by_cases h3 : k = 11 + d % 3
          · rw [if_pos h3, if_pos h3]
          · rw [if_neg h3, if_neg h3, if_neg h2]
  · rw [if_neg g, if_neg (fun q => g q.1), if_neg (fun q => g q.1), if_neg (fun q => g q.1), if_neg (fun q => g q.1)]
theorem i_alg5 (a b c d x : Int32) (h : a = b - c + d) : a + x = b - c + (d + x) := by subst h; grind
theorem i_alg6 (a c x : Int32) : a - c + (c - -x) = a + x := by grind
/-- repairing -/
theorem sim_4 (h : SS M s n t A B C T) (x y : Int32) : Sim M s n t A B C T 4 x y := by
  obtain ⟨hw, ha⟩ := h
  obtain ⟨g0, g1, g2, g3, g4, g5, g6, g7, g8⟩ := hw.2.1
  have hn8 := hw.1.2.1
  have h30 := hw.t30
  have hs0 : s 0 = nI n := hw.1.1
  have bc := bc_eq (s := s) x (g0.trans hs0) hs0 hn8
  have bs := bs_eq y
  by_cases e1 : b_card M x = 0 ∨ b_st y = 0
  · refine Sim.bad (z := 1) (mp_4.trans (if_pos e1)) (by decide) pm_41 ?_
    rw [Q8_4]
    unfold q_fix
    by_cases e2 : r_in x 0 (s 0 - 1) = 0
    · rw [if_pos e2]
    · rw [if_neg e2, if_pos (bs.mp (e1.resolve_left (fun q => e2 (bc.mp q))))]
  · have c1 : ¬ b_card M x = 0 := fun q => e1 (Or.inl q)
    have c2 : ¬ b_st y = 0 := fun q => e1 (Or.inr q)
    have p1 : m_prob M 4 x y = if (m_c M x).1 10 = 0 then 4 else if m_rep M x = 0 then 3 else 0 := mp_4.trans (if_neg e1)
    have p2 : m_rep M x = if 2 < M.1 1 / 1440 - (m_c M x).1 12 then 0 else 1 := rfl
    obtain ⟨i, hi, hi8, rfl⟩ := b_card_n (g0.trans hs0) hn8 c1
    obtain ⟨w, hw12, rfl⟩ := b_st_in c2
    rw [show m_c M (nI i) = M.2.2.2.1 i by rw [m_c, nI_clamp (by omega)]] at p1 p2
    rw [hw.day] at p2
    obtain ⟨hc, hp, hb⟩ := hw.2.2.2.2.2.2.2 i hi
    have q1 : q_fix s (t / 1440) (nI i) (nI w) = if ¬ 0 ≤ ro s i 8 then (2, 0, s) else if ¬ nI (t / 1440) - ro s i 9 ≤ 2 then (3, 0, s) else (0, r_max 0 (ro s i 10 - r_paid s i (r_price s (ro s i 8).toNatClampNeg w)), R_fix s i (ro s i 9).toNatClampNeg (r_max 0 (ro s i 10 - r_paid s i (r_price s (ro s i 8).toNatClampNeg w)))) := by
      unfold q_fix
      rw [if_neg (fun q => c1 (bc.mpr q)), if_neg (fun q => c2 (bs.mpr q)), nI_clamp (n := i) (by omega), nI_clamp (n := w) (by omega)]
      rfl
    have hRI : RI (q_fix s (t / 1440) (nI i) (nI w)).2.2 n t := hw.1.fix
    rcases hc.nc with ⟨a1, a2⟩ | ⟨a1, j, e, c, hj, t11, r8, he, t12, r9, hc7, t13, r10⟩
    · rw [if_pos a1] at p1
      rw [a2, if_pos (by decide)] at q1
      exact Sim.bad p1 (by decide) pm_44 (by rw [Q8_4, q1])
    · rw [if_neg (fun q => by rw [a1] at q; exact absurd q (by decide))] at p1
      rw [r8, r9, r10, if_neg (not_not_intro (nI_pos' (by omega))), nI_clamp (n := j) (by omega), nI_clamp (n := e) (by omega)] at q1
      rw [t12] at p2
      have hsub : nI (t / 1440) - nI e = nI (t / 1440 - e) := pk_sub he
      rw [hsub] at q1 p2
      rw [show (2 : Int32) = nI 2 from rfl] at p2 q1
      by_cases e5 : t / 1440 - e ≤ 2
      · rw [if_neg (nI_nlt e5 (by decide))] at p2
        rw [p2, if_neg (by decide)] at p1
        rw [if_neg (not_not_intro (nI_le e5 (by decide)))] at q1
        rw [q1] at hRI
        obtain ⟨v, hv, ev⟩ := hw.fare hj hw12
        obtain ⟨u, hu, eu⟩ := price_b (κ := M.2.2.2.1 i) (v := v) (by omega)
        have eo : r_max 0 (nI c - r_paid s i (r_price s j w)) = m_backX M i j w := by
          rw [mx0, r_paid_eq hc, hw.price hj hw12, ← t13]
          rfl
        rw [eo] at q1 hRI
        have exx : m_backX M i j w = if nI c - nI u < 0 then 0 else nI c - nI u := by
          show (if (M.2.2.2.1 i).1 13 - k_price (M.2.2.2.1 i) (ln_fare M.2.1 (M.1 7) (M.1 8) j w) < 0 then (0 : Int32) else _) = _
          rw [t13, ev, eu]
        have hti : (nI c - nI u).toInt = (c : Int) - u := pk_sub_toInt (by omega) (by omega)
        have x0 : 0 ≤ (m_backX M i j w).toInt := by rw [exx]; exact mx0_b _
        have x1 : (m_backX M i j w).toInt ≤ c := by
          rw [exx]
          by_cases q : nI c - nI u < 0
          · rw [if_pos q, i_zero]; omega
          · rw [if_neg q, hti]; omega
        obtain ⟨xv, ex⟩ : ∃ v, v = m_backX M i j w := ⟨_, rfl⟩
        have hdo : m_do M (t / 1440) n 4 (nI i) (nI w) = (xv, m_back M i e xv) := by rw [m_do_4 hi8 hw12 hj t11 (by omega) t12, ex]
        rw [← ex] at q1 hRI x0 x1
        obtain ⟨k1, k2, k3, k4⟩ := SK.bck hc hp hb (ha i hi) (d := e) (by omega) he h30 a1 t12 x0 (by rw [t13, nI_toInt (by omega)]; exact x1)
        refine Sim.good p1 (Q8_4.trans q1) (by rw [hdo]) ⟨n, t, by omega, ?_⟩
        rw [hdo]
        have hci : (m_back M i e xv).2.2.2.1 i = (upd (k_enter (M.2.2.2.1 i) e (-xv)).1 10 0, (k_enter (M.2.2.2.1 i) e (-xv)).2) := vu_eq
        have hcl : (m_back M i e xv).2.2.2.2 i = (nI e, -xv) :: M.2.2.2.2 i := vu_eq
        have hcj : ∀ j, j ≠ i → (m_back M i e xv).2.2.2.1 j = M.2.2.2.1 j ∧ (m_back M i e xv).2.2.2.2 j = M.2.2.2.2 j := fun j hj => ⟨vu_ne hj, vu_ne hj⟩
        have lo : ∀ k, k < 33 → k ≠ 6 → R_fix s i e xv k = s k := fun k hk h6 => by rw [R_fix_lo hk, if_neg h6]
        refine ⟨hw.card (i := i) hRI ⟨?_, ?_, ?_, ?_, ?_, ?_, ?_, ?_, ?_⟩ ⟨lo 2 (by decide) (by decide), lo 3 (by decide) (by decide)⟩ rfl (fun v hv => lo (9 + v) (by omega) (by omega)) (fun v hv => ?_) ?_ ?_ hcj (fun j hj v hv => by rw [R_fix_ro hv, if_neg hj]) ?_, fun j hj => ?_⟩
        · rw [lo 0 (by decide) (by decide)]; exact g0
        · rw [lo 1 (by decide) (by decide)]; exact g1
        · rw [lo 4 (by decide) (by decide)]; exact g2
        · rw [lo 5 (by decide) (by decide)]; exact g3
        · rw [R_fix_lo (by decide), if_pos rfl, ← g4]; rfl
        · rw [lo 7 (by decide) (by decide)]; exact g5
        · rw [lo 8 (by decide) (by decide)]; exact g6
        · rw [lo 2 (by decide) (by decide)]; exact g7
        · rw [lo 3 (by decide) (by decide)]; exact g8
        · obtain ⟨a, b, b1, b2⟩ := hw.2.2.2.2.1 v hv
          rw [lo (21 + v) (by omega) (by omega)]
          exact ⟨a, b, by omega, b2⟩
        · obtain ⟨a, b, c9, f1, f2, f3, f4, f5, f6⟩ := hw.2.2.2.2.2.1
          exact ⟨a, b, c9, by omega, by rw [lo 5 (by decide) (by decide)]; exact f2, by omega, by rw [lo 7 (by decide) (by decide)]; exact f4, by omega, by rw [lo 8 (by decide) (by decide)]; exact f6⟩
        · rw [m_bal_up (M := M) (i := i) n hi (fun j hj => by rw [(hcj j hj).1]), hci]
          show m_bal M n - (M.2.2.2.1 i).1 1 + upd (k_enter (M.2.2.2.1 i) e (-xv)).1 10 0 1 = M.1 2 - M.1 3 + (M.1 4 + xv)
          rw [pk_un (by decide)]
          show m_bal M n - (M.2.2.2.1 i).1 1 + upd (M.2.2.2.1 i).1 1 ((M.2.2.2.1 i).1 1 - -xv) 1 = _
          rw [pk_us, i_alg6]
          exact i_alg5 _ _ _ _ _ hw.2.2.2.2.2.2.1
        · rw [hci, hcl]
          exact ⟨k1.row (fun v hv => by rw [R_fix_ro hv, if_pos rfl]), k2, k3⟩
        · by_cases e9 : j = i
          · subst e9; rw [hci]; exact k4
          · rw [(hcj j e9).1]; exact ha j hj
      · rw [if_pos (nI_lt (by omega) (by omega))] at p2
        rw [p2, if_pos rfl] at p1
        rw [if_pos (fun q => e5 ((nI_leI (by omega) (by decide)).mp q))] at q1
        exact Sim.bad p1 (by decide) pm_43 (by rw [Q8_4, q1])
/-- the same Metro at a later minute -/
theorem Sw.at {m : Nat} (h : Sw M s n t A B C T) (hm : t + m < 2 ^ 30) : Sw (m_g M 1 (M.1 1 + nI m)) (upd s 1 (nI (t + m))) n (t + m) A B C T := by
  obtain ⟨⟨r1, r2, r3, r4, r5⟩, ⟨g0, g1, g2, g3, g4, g5, g6, g7, g8⟩, ⟨b, p, f1, f2, f3, f4⟩, hz, ht, ⟨a, b', c, q1, q2, q3, q4, q5, q6⟩, hb, hc⟩ := h
  have lo : ∀ k, k ≠ 1 → upd s 1 (nI (t + m)) k = s k := fun k hk => pk_un hk
  have lg : ∀ k, k ≠ 1 → (m_g M 1 (M.1 1 + nI m)).1 k = M.1 k := fun k hk => pk_un hk
  refine ⟨⟨?_, r2, pk_us, hm, fun j hj => ?_⟩, ⟨?_, ?_, ?_, ?_, ?_, ?_, ?_, ?_, ?_⟩, ⟨b, p, f1, f2, ?_, ?_⟩, fun w hw => ?_, fun w hw => ?_, ⟨a, b', c, q1, ?_, q3, ?_, q5, ?_⟩, ?_, fun j hj => ?_⟩
  · rw [lo 0 (by decide)]; exact r1
  · rw [ro_up (by decide), ro_up (by decide), ro_up (by decide), ro_up (by decide)]; exact r5 j hj
  · rw [lg 0 (by decide), lo 0 (by decide)]; exact g0
  · show upd M.1 1 (M.1 1 + nI m) 1 = _
    rw [pk_us, pk_us, g1, r3, nI_add]
  · rw [lg 2 (by decide), lo 4 (by decide)]; exact g2
  · rw [lg 3 (by decide), lo 5 (by decide)]; exact g3
  · rw [lg 4 (by decide), lo 6 (by decide)]; exact g4
  · rw [lg 5 (by decide), lo 7 (by decide)]; exact g5
  · rw [lg 6 (by decide), lo 8 (by decide)]; exact g6
  · rw [lg 7 (by decide), lo 2 (by decide)]; exact g7
  · rw [lg 8 (by decide), lo 3 (by decide)]; exact g8
  · rw [lo 2 (by decide)]; exact f3
  · rw [lo 3 (by decide)]; exact f4
  · rw [lo (9 + w) (by omega)]; exact hz w hw
  · rw [lo (21 + w) (by omega)]; exact ht w hw
  · rw [lo 5 (by decide)]; exact q2
  · rw [lo 7 (by decide)]; exact q4
  · rw [lo 8 (by decide)]; exact q6
  · rw [m_bal_c (M := M) (M' := m_g M 1 (M.1 1 + nI m)) n (fun _ _ => rfl), lg 2 (by decide), lg 3 (by decide), lg 4 (by decide)]; exact hb
  · obtain ⟨a1, a2, a3⟩ := hc j hj
    exact ⟨(a1.later (Nat.le_add_right _ _) hm).row (fun w _ => ro_up (by decide)), a2.later a1 (Nat.le_add_right _ _) hm, a3⟩
/-- time -/
theorem sim_7 (h : SS M s n t A B C T) (x y : Int32) (ht20 : t + 2000 < 2 ^ 30) : Sim M s n t A B C T 7 x y := by
  obtain ⟨hw, ha⟩ := h
  obtain ⟨g0, g1, g2, g3, g4, g5, g6, g7, g8⟩ := hw.2.1
  have hn8 := hw.1.2.1
  have h30 := hw.t30
  have hs1 : s 1 = nI t := hw.1.2.2.1
  have p1 : m_prob M 7 x y = if x < 1 ∨ ¬ x ≤ 2000 then 2 else 0 := mp_7
  have q1 : q_wait s n t x = if r_in x 1 2000 = 0 then (1, 0, s) else (0, nI (r_adv s n t x.toNatClampNeg).2, (r_adv s n t x.toNatClampNeg).1) := rfl
  by_cases e2 : r_in x 1 2000 = 0
  · rw [if_pos ((r_in_z.mp e2).imp id (fun q => Int32.not_le.mpr q))] at p1
    rw [if_pos e2] at q1
    exact Sim.bad p1 (by decide) pm_72 (by rw [Q8_7, q1])
  · rw [if_neg (fun q => e2 (r_in_z.mpr (q.imp id (fun z => Int32.not_le.mp z))))] at p1
    rw [if_neg e2] at q1
    obtain ⟨m, m1, m2, rfl⟩ := r_in_gen (a := 1) (n := 2000) (by decide) (by decide) e2
    rw [nI_clamp (by omega)] at q1
    -- the trips
    obtain ⟨on, hon⟩ : ∃ on : Nat → Bool, on = fun j => decide ((M.2.2.2.1 j).1 2 = 1) := ⟨_, rfl⟩
    obtain ⟨b, hb⟩ : ∃ b : Nat → Nat, b = fun j => (ro s j 3).toNatClampNeg := ⟨_, rfl⟩
    have htr : ∀ j, j < n → on j = true → (M.2.2.2.1 j).1 2 = 1 ∧ (M.2.2.2.1 j).1 4 = nI (b j) ∧ ¬ ro s j 2 < 0 ∧ ro s j 3 = nI (b j) ∧ b j ≤ t ∧ t < b j + 180 := fun j hj q => by
      rw [hon] at q
      have q := of_decide_eq_true q
      obtain ⟨hc, -, -⟩ := hw.2.2.2.2.2.2.2 j hj
      rcases hc.tr with ⟨a1, -⟩ | ⟨a1, i, b0, hi, -, a2, a3, a4, a5⟩
      · rw [a1] at q; exact absurd q (by decide)
      · obtain ⟨b1, hb1, c1, c2⟩ := ha j hj a1
        have e : b1 = b0 := (nI_eq hb1 (by omega)).mp (c1.symm.trans a3)
        have eb : b j = b0 := by rw [hb]; show (ro s j 3).toNatClampNeg = b0; rw [a4, nI_clamp (by omega)]
        rw [eb]
        exact ⟨a1, a3, by rw [a2]; exact nI_pos (by omega), a4, a5, by omega⟩
    have hof : ∀ j, j < n → on j = false → (M.2.2.2.1 j).1 2 = 0 ∧ ro s j 2 < 0 := fun j hj q => by
      rw [hon] at q
      have q := of_decide_eq_false q
      obtain ⟨hc, -, -⟩ := hw.2.2.2.2.2.2.2 j hj
      rcases hc.tr with ⟨a1, a2⟩ | ⟨a1, -⟩
      · exact ⟨a1, by rw [a2]; decide⟩
      · exact absurd a1 q
    have adv := adv_at (on := on) (b := b) (n := n) hs1 (fun j hj => ⟨fun q => by
      obtain ⟨-, -, q1, q2, q3, q4⟩ := htr j hj q
      exact ⟨q1, q2, q3, q4⟩, fun q => (hof j hj q).2⟩) m (by omega)
    rw [adv] at q1
    dsimp only at q1
    have h0 := hw.at (m := m) (by omega)
    obtain ⟨M0, eM0⟩ : ∃ M0, M0 = m_g M 1 (M.1 1 + nI m) := ⟨_, rfl⟩
    obtain ⟨s1, es1⟩ : ∃ s1, s1 = upd s 1 (nI (t + m)) := ⟨_, rfl⟩
    have hcM : ∀ j, M0.2.2.2.1 j = M.2.2.2.1 j := fun j => by rw [eM0]; rfl
    have hmin : M0.1 1 = nI (t + m) := by rw [eM0, h0.2.1.2.1, pk_us]
    have hdo : m_do M (t / 1440) n 7 (nI m) y = (nI (m_ps M0 n).1, (m_ps M0 n).2) := by rw [eM0]; rfl
    rw [← eM0, ← es1] at h0
    rw [← es1] at q1
    have ind : ∀ k, k ≤ n → (m_ps M0 k).1 = c_fold (p_at on b (t + m)) k ∧ Sw (m_ps M0 k).2 (r_fold s1 (p_at on b (t + m)) (d_at b) k) n (t + m) (A + 700 * k) B (C + k) T ∧ (∀ j, k ≤ j → (m_ps M0 k).2.2.2.2.1 j = M.2.2.2.1 j) ∧ ∀ j, j < k → SA ((m_ps M0 k).2.2.2.2.1 j) (t + m) := by
      intro k
      induction k with
      | zero => intro _; exact ⟨rfl, h0, fun j _ => hcM j, fun j hj => absurd hj (Nat.not_lt_zero j)⟩
      | succ k ih =>
        intro hk
        obtain ⟨i1, i2, i3, i4⟩ := ih (by omega)
        have ck := i3 k (Nat.le_refl k)
        by_cases hp : p_at on b (t + m) k = true
        · have hp' := hp
          unfold p_at at hp'
          rw [Bool.and_eq_true] at hp'
          obtain ⟨u1, u2, u3, u4, u5, u6⟩ := htr k (by omega) hp'.1
          have hle := of_decide_eq_true hp'.2
          have e180 : nI (b k) + 180 = nI (b k + 180) := nI_add _ 180
          have hd : m_day M0 k = d_at b k := by
            show ((M0.2.2.2.1 k).1 4 + 180).toNatClampNeg / 1440 = _
            rw [hcM k, u2, e180, nI_clamp (by omega)]; rfl
          have em : m_ps M0 (k + 1) = ((m_ps M0 k).1 + 1, m_inc (m_ps M0 k).2 k (d_at b k)) := by
            rw [← hd]
            refine if_pos ⟨?_, ?_⟩
            · rw [ck, u1]; decide
            · rw [ck, u2, hmin, e180]; exact nI_nlt hle (by omega)
          have ef : r_fold s1 (p_at on b (t + m)) (d_at b) (k + 1) = r_loses (r_fold s1 (p_at on b (t + m)) (d_at b) k) k (d_at b k) := if_pos hp
          have ec : c_fold (p_at on b (t + m)) (k + 1) = c_fold (p_at on b (t + m)) k + 1 := if_pos hp
          obtain ⟨v1, v2, v3⟩ := i2.inc (i := k) (d := d_at b k) (by omega) (by rw [ck]; exact u1) (by unfold d_at; omega) (by unfold d_at; omega)
          rw [em, ef, ec]
          refine ⟨by rw [i1], v1.more (by omega) (by omega) (by omega) (by omega), fun j hj => ?_, fun j hj => ?_⟩
          · show (m_inc (m_ps M0 k).2 k (d_at b k)).2.2.2.1 j = _
            rw [v3 j (by omega)]; exact i3 j (by omega)
          · show SA ((m_inc (m_ps M0 k).2 k (d_at b k)).2.2.2.1 j) (t + m)
            by_cases e : j = k
            · subst e
              intro z
              rw [v2] at z; exact absurd z (by decide)
            · rw [v3 j e]; exact i4 j (by omega)
        · have em : m_ps M0 (k + 1) = m_ps M0 k := by
            refine if_neg ?_
            rintro ⟨z1, z2⟩
            rw [ck] at z1 z2
            apply hp
            unfold p_at
            cases ho : on k
            · exact absurd (hof k (by omega) ho).1 z1
            · obtain ⟨u1, u2, u3, u4, u5, u6⟩ := htr k (by omega) ho
              rw [u2, hmin, show nI (b k) + 180 = nI (b k + 180) from nI_add _ 180] at z2
              rw [Bool.true_and]
              exact decide_eq_true (Nat.not_lt.mp fun q => z2 (nI_lt q (by omega)))
          have hp2 : p_at on b (t + m) k = false := by
            cases q : p_at on b (t + m) k
            · rfl
            · exact absurd q hp
          have ef : r_fold s1 (p_at on b (t + m)) (d_at b) (k + 1) = r_fold s1 (p_at on b (t + m)) (d_at b) k := if_neg hp
          have ec : c_fold (p_at on b (t + m)) (k + 1) = c_fold (p_at on b (t + m)) k := if_neg hp
          rw [em, ef, ec]
          refine ⟨i1, i2.more (by omega) (by omega) (by omega) (by omega), fun j hj => i3 j (by omega), fun j hj => ?_⟩
          by_cases e : j = k
          · subst e
            rw [ck]
            intro z
            cases ho : on j
            · rw [(hof j (by omega) ho).1] at z; exact absurd z (by decide)
            · obtain ⟨u1, u2, u3, u4, u5, u6⟩ := htr j (by omega) ho
              refine ⟨b j, by omega, u2, ?_⟩
              unfold p_at at hp2
              rw [ho, Bool.true_and] at hp2
              have := of_decide_eq_false hp2
              omega
          · exact i4 j (by omega)
    obtain ⟨j1, j2, -, j4⟩ := ind n (Nat.le_refl n)
    refine Sim.good p1 (Q8_7.trans q1) (by rw [hdo, j1]) ⟨n, t + m, by omega, ?_⟩
    rw [hdo]
    exact ⟨j2.more (by omega) (by omega) (by omega) (by omega), j4⟩
/-- every kind -/
theorem sim_all (h : SS M s n t A B C T) (hk : k < 8) (x y : Int32) (ht20 : t + 2000 < 2 ^ 30) : Sim M s n t A B C T k x y := by
  match k, hk with
  | 0, _ => exact sim_0 h x y
  | 1, _ => exact sim_1 h x y
  | 2, _ => exact sim_2 h x y
  | 3, _ => exact sim_3 h x y
  | 4, _ => exact sim_4 h x y
  | 5, _ => exact sim_5 h x y
  | 6, _ => exact sim_6 h x y
  | 7, _ => exact sim_7 h x y ht20
/-- what the class's calls ask of a Metro -/
theorem SS.mi (h : SS M s n t A B C T) : MI M n (t / 1440) := by
  obtain ⟨hw, ha⟩ := h
  refine ⟨hw.2.1.1.trans hw.1.1, hw.1.2.1, hw.day, by have := hw.t30; omega, fun i hi => ?_⟩
  obtain ⟨hc, -, -⟩ := hw.2.2.2.2.2.2.2 i hi
  have h30 := hw.t30
  refine ⟨?_, fun z => ?_, fun z => ?_⟩
  · rintro j (rfl | rfl | rfl | rfl)
    · exact hc.z0
    · exact hc.tr.imp (fun q => q.1) (fun q => q.1)
    · exact hc.la.imp (fun q => q.1) (fun q => q.1)
    · exact hc.nc.imp (fun q => q.1) (fun q => q.1)
  · obtain ⟨a1, j, b, hj, a2, -, a3, -, a4⟩ := hc.tr.resolve_left (fun q => z q.1)
    obtain ⟨⟨j5, hj5, a5, -⟩, -⟩ := hc.jo (Or.inl a1)
    exact ⟨⟨j, hj, a2⟩, ⟨j5, hj5, a5⟩, b, a3, by omega⟩
  · obtain ⟨a1, j, e, c, hj, a2, -, he, a3, -⟩ := hc.nc.resolve_left (fun q => z q.1)
    exact ⟨⟨j, hj, a2⟩, e, by omega, a3⟩
end KN3
