/-! The reference's calls, as functions of its row of numbers. -/
theorem ro_rw {s : Nat → Int32} {i j w w' : Nat} {x : Int32} (h : w < 17) (h' : w' < 17) : ro (rw_ s i w x) j w' = if j = i ∧ w' = w then x else ro s j w' := by
  unfold ro rw_ upd
  by_cases e : j = i ∧ w' = w
  · rw [if_pos e, if_pos (by omega)]
  · rw [if_neg e, if_neg (by omega)]
theorem ro_up {s : Nat → Int32} {i w k : Nat} {x : Int32} (h : k < 33) : ro (upd s k x) i w = ro s i w := if_neg (by omega)
theorem r_in_st {y : Int32} (h : ¬ r_in y 0 11 = 0) : ∃ w, w < 12 ∧ y = nI w := r_in_nat (n := 12) (by decide) (by rw [show nI 12 - 1 = 11 by decide]; exact h)
theorem r_in_ca {s : Nat → Int32} {n : Nat} {x : Int32} (h0 : s 0 = nI n) (h8 : n ≤ 8) (h : ¬ r_in x 0 (s 0 - 1) = 0) : ∃ i, i < n ∧ x = nI i := r_in_nat (by omega) (by rw [← h0]; exact h)
/-- what the reference's row must be -/
def RI (s : Nat → Int32) (n t : Nat) : Prop :=
  s 0 = nI n ∧ n ≤ 8 ∧ s 1 = nI t ∧ t < 2 ^ 30 ∧ ∀ i, i < 8 → (ro s i 2 < 0 ∨ ∃ j, j < 12 ∧ ro s i 2 = nI j) ∧ (∃ j, j < 12 ∧ ro s i 4 = nI j) ∧ (ro s i 8 < 0 ∨ ∃ j, j < 12 ∧ ro s i 8 = nI j) ∧ ∃ e, e < 2 ^ 30 ∧ ro s i 9 = nI e
theorem RI.day {s : Nat → Int32} {n t : Nat} (h : RI s n t) : s 1 / 1440 = nI (t / 1440) := by
  rw [h.2.2.1, show (1440 : Int32) = nI 1440 from rfl, pk_div (by have := h.2.2.2.1; omega) (by decide) (by decide)]
theorem RI.d {s : Nat → Int32} {n t : Nat} (h : RI s n t) : t / 1440 < 2 ^ 31 := by have := h.2.2.2.1; omega
/-- cells other than 1, 5, 11 to 16 of the card are left by a charge -/
theorem ro_pay {s : Nat → Int32} {i j d w : Nat} {c : Int32} (hw : w < 17) (h : j ≠ i ∨ (w ≠ 1 ∧ w < 11)) : ro (r_pay s i d c) j w = ro s j w := by
  show ro (upd _ 5 _) j w = _
  have hd : d % 3 < 3 := Nat.mod_lt _ (by decide)
  rw [ro_up (by decide), ro_rw (by decide) hw, if_neg (by omega), r_add, ro_rw (by omega) hw, if_neg (by omega), ro_rw (by omega) hw, if_neg (by omega)]
theorem ro_loses {s : Nat → Int32} {i j d w : Nat} (hw : w < 17) : ro (r_loses s i d) j w = if j = i ∧ w = 6 then -1 else if j = i ∧ w = 2 then -1 else if j = i ∧ w = 10 then r_lossX s i d else if j = i ∧ w = 9 then nI d else if j = i ∧ w = 8 then ro s i 2 else ro (r_pay s i d (r_lossX s i d)) j w := by
  show ro (upd _ 8 _) j w = _
  rw [ro_up (by decide), ro_rw (by decide) hw, ro_rw (by decide) hw, ro_rw (by decide) hw, ro_rw (by decide) hw, ro_rw (by decide) hw, ro_pay (w := 2) (by decide) (Or.inr (by decide))]
theorem r_loses_lo {s : Nat → Int32} {i d k : Nat} (h : k < 33) (h5 : k ≠ 5) (h8 : k ≠ 8) : r_loses s i d k = s k := by
  show upd _ 8 _ k = _
  rw [pk_un h8, rw_lo h, rw_lo h, rw_lo h, rw_lo h, rw_lo h, r_pay_lo h h5]
theorem RI.loses {s : Nat → Int32} {n t i : Nat} (h : RI s n t) (hi : i < 8) : RI (r_loses s i (t / 1440)) n t := by
  obtain ⟨a, b, c, d, g⟩ := h
  refine ⟨by rw [r_loses_lo (by decide) (by decide) (by decide)]; exact a, b, by rw [r_loses_lo (by decide) (by decide) (by decide)]; exact c, d, fun j hj => ?_⟩
  obtain ⟨g1, g2, g3, g4⟩ := g j hj
  rw [ro_loses (by decide), ro_loses (by decide), ro_loses (by decide), ro_loses (by decide)]
  by_cases e : j = i
  · subst e
    simp only [true_and]
    refine ⟨Or.inl (by rw [if_neg (by decide), if_pos trivial]; decide), ?_, ?_, ?_⟩
    · simp only [show ¬ (4 = 6) by decide, show ¬ (4 = 2) by decide, show ¬ (4 = 10) by decide, show ¬ (4 = 9) by decide, show ¬ (4 = 8) by decide, if_false]
      rw [ro_pay (by decide) (by omega)]
      exact g2
    · exact g1
    · exact ⟨t / 1440, by omega, rfl⟩
  · simp only [e, false_and, if_false]
    rw [ro_pay (by decide) (Or.inl e), ro_pay (by decide) (Or.inl e), ro_pay (by decide) (Or.inl e), ro_pay (by decide) (Or.inl e)]
    exact ⟨g1, g2, g3, g4⟩
theorem RI.tick {s : Nat → Int32} {n t : Nat} (h : RI s n t) (ht : t + 1 < 2 ^ 30) : RI (upd s 1 (s 1 + 1)) n (t + 1) := by
  obtain ⟨a, b, c, d, g⟩ := h
  refine ⟨a, b, by rw [pk_us, c, nI_1], ht, fun j hj => ?_⟩
  rw [ro_up (by decide), ro_up (by decide), ro_up (by decide), ro_up (by decide)]
  exact g j hj
def r_clr (s : Nat → Int32) (i : Nat) : Nat → Nat → Int32
  | 0 => s
  | w + 1 => rw_ (r_clr s i w) i w 0
abbrev Q6 : Type := Nat × Int32 × (Nat → Int32)
def q_issue (s : Nat → Int32) (r : Int32) : Q6 :=
  if s 0 = 8 then (1, 0, s) else
  let i := (s 0).toNatClampNeg
  let a := rw_ (rw_ (rw_ (rw_ (r_clr s i 17) i 0 (if r = 0 then 0 else 1)) i 2 (-1)) i 6 (-1)) i 8 (-1)
  (0, s 0, upd a 0 (a 0 + 1))
def q_load (s : Nat → Int32) (x y : Int32) : Q6 :=
  if r_in x 0 (s 0 - 1) = 0 then (1, 0, s) else if r_in y 1 9999 = 0 then (2, 0, s) else
  let i := x.toNatClampNeg
  if ro s i 1 + y ≤ 20000 then
    let a := rw_ s i 1 (ro s i 1 + y)
    (0, ro s i 1 + y, upd a 4 (a 4 + y))
  else (3, 0, s)
def q_st (s : Nat → Int32) (w : Nat) : Nat → Int32 := upd s (21 + w) (s (21 + w) + 1)
def q_in (s : Nat → Int32) (d : Nat) (x y : Int32) : Q6 :=
  if r_in x 0 (s 0 - 1) = 0 then (1, 0, s) else if r_in y 0 11 = 0 then (1, 0, s) else
  let i := x.toNatClampNeg
  if ¬ -500 ≤ ro s i 1 then (2, 0, s) else
  let is := r_cont s i y
  let a := if ro s i 2 < 0 then s else r_loses s i d
  let b := if is = 0 then rw_ (rw_ a i 4 y) i 5 0 else a
  let b := rw_ b i 2 y
  let b := rw_ b i 3 (b 1)
  (0, if is = 0 then 0 else 1, q_st b y.toNatClampNeg)
def q_out (s : Nat → Int32) (d : Nat) (x y : Int32) : Q6 :=
  if r_in x 0 (s 0 - 1) = 0 then (1, 0, s) else if r_in y 0 11 = 0 then (1, 0, s) else
  let i := x.toNatClampNeg
  if ¬ 0 ≤ ro s i 2 then (2, 0, s) else
  let c := r_chg s i d (r_to s i (ro s i 4).toNatClampNeg y.toNatClampNeg)
  let a := r_pay s i d c
  let a := rw_ a i 5 (ro a i 5 + c)
  let a := rw_ a i 2 (-1)
  let a := rw_ a i 6 y
  let a := rw_ a i 7 (a 1)
  let a := upd a 7 (a 7 + 1)
  (0, c, q_st a y.toNatClampNeg)
def q_fix (s : Nat → Int32) (d : Nat) (x y : Int32) : Q6 :=
  if r_in x 0 (s 0 - 1) = 0 then (1, 0, s) else if r_in y 0 11 = 0 then (1, 0, s) else
  let i := x.toNatClampNeg
  if ¬ 0 ≤ ro s i 8 then (2, 0, s) else if ¬ nI d - ro s i 9 ≤ 2 then (3, 0, s) else
  let c := r_max 0 (ro s i 10 - r_paid s i (r_price s (ro s i 8).toNatClampNeg y.toNatClampNeg))
  let a := r_add s i (ro s i 9).toNatClampNeg (-c)
  let a := rw_ a i 1 (ro a i 1 + c)
  let a := rw_ a i 8 (-1)
  (0, c, upd a 6 (a 6 + c))
def q_zone (s : Nat → Int32) (x y : Int32) : Q6 :=
  if r_in x 0 11 = 0 then (1, 0, s) else if r_in y 1 6 = 0 then (2, 0, s) else
  (0, s (9 + x.toNatClampNeg), upd s (9 + x.toNatClampNeg) y)
def r_sweep (s : Nat → Int32) (d : Nat) : Nat → (Nat → Int32) × Nat
  | 0 => (s, 0)
  | k + 1 =>
    let a := r_sweep s d k
    if ¬ ro a.1 k 2 < 0 ∧ a.1 1 - ro a.1 k 3 = 180 then (r_loses a.1 k d, a.2 + 1) else a
def r_adv (s : Nat → Int32) (n t : Nat) : Nat → (Nat → Int32) × Nat
  | 0 => (s, 0)
  | m + 1 =>
    let a := r_adv s n t m
    let y := r_sweep (upd a.1 1 (a.1 1 + 1)) ((t + m + 1) / 1440) n
    (y.1, a.2 + y.2)
def q_wait (s : Nat → Int32) (n t : Nat) (x : Int32) : Q6 :=
  if r_in x 1 2000 = 0 then (1, 0, s) else
  let a := r_adv s n t x.toNatClampNeg
  (0, nI a.2, a.1)
def q_fares (s : Nat → Int32) (x y : Int32) : Q6 :=
  if r_in x 0 999 = 0 then (1, 0, s) else if r_in y 0 99 = 0 then (1, 0, s) else (0, s 2, upd (upd s 2 x) 3 y)
theorem RI.sweep {s : Nat → Int32} {n t : Nat} (h : RI s n t) : ∀ k, k ≤ n → RI (r_sweep s (t / 1440) k).1 n t
  | 0, _ => h
  | k + 1, hk => by
    have g := RI.sweep h k (by omega)
    unfold r_sweep
    dsimp only
    split
    · exact g.loses (by have := h.2.1; omega)
    · exact g
theorem RI.adv {s : Nat → Int32} {n t : Nat} (h : RI s n t) : ∀ m, t + m < 2 ^ 30 → RI (r_adv s n t m).1 n (t + m)
  | 0, _ => h
  | m + 1, hm => by
    have g := RI.adv h m (by omega)
    exact RI.sweep (g.tick (by omega)) n (Nat.le_refl _)
/-- the snapshots behind one more call -/
def r_push (p b : Nat → Int32) (k : Nat) : Nat → Int32 := if k = 8 then va_cpy b (va_cpy p p 169 0 1183) 0 (169 * 7) 169 else va_cpy b p 0 (169 * k) 169
def r_ok (k : Nat) : Nat := if k = 8 then 8 else k + 1
/-- fields behind a call with problem z -/
def r_fd (F : Nat → Int32) (k z : Nat) : Nat → Int32 := if z = 0 then upd (upd F 6 0) 5 (nI (r_ok k)) else upd F 6 (nI z)
theorem upd_same {f : Nat → Int32} {k : Nat} {x : Int32} (h : f k = x) : upd f k x = f := by
  funext j
  unfold upd
  by_cases e : j = k
  · rw [if_pos e, e, h]
  · rw [if_neg e]
theorem q_e {D : va_G} {kA : Nat → ClassId} {H : Heap} {o : Nat} {F b v p u t c s1 : Nat → Int32} {q : Q6} {z : Nat} {a x : Int32} (h1 : x = a) (h2 : Rs D kA H o (upd F 6 (nI z)) s1 b v p u t c) (e : q = (z, a, s1)) : x = q.2.1 ∧ Rs D kA H o (upd F 6 (nI q.1)) q.2.2 b v p u t c := by
  subst e
  exact ⟨h1, h2⟩
theorem r_in_gen {x : Int32} {a n : Nat} (ha : a ≤ n) (hn : n < 2 ^ 31) (h : ¬ r_in x (nI a) (nI n) = 0) : ∃ i, a ≤ i ∧ i ≤ n ∧ x = nI i := by
  unfold r_in at h
  by_cases h1 : x < nI a
  · rw [if_pos h1] at h; exact absurd rfl h
  · rw [if_neg h1] at h
    by_cases h2 : nI n < x
    · rw [if_pos h2] at h; exact absurd rfl h
    · rw [Int32.lt_iff_toInt_lt, nI_toInt (by omega)] at h1
      rw [Int32.lt_iff_toInt_lt, nI_toInt (by omega)] at h2
      refine ⟨x.toInt.toNat, by omega, by omega, ?_⟩
      apply Int32.toInt_inj.mp
      rw [nI_toInt (by omega)]
      omega
theorem r_sweep_le (s : Nat → Int32) (d : Nat) : ∀ k, (r_sweep s d k).2 ≤ k
  | 0 => Nat.le_refl 0
  | k + 1 => by
    have h := r_sweep_le s d k
    unfold r_sweep
    dsimp only
    split
    · exact Nat.succ_le_succ h
    · exact Nat.le_succ_of_le h
