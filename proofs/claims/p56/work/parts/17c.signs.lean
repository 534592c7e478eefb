/-! What a change answers; what journeys cost. -/
section SGN
variable {M : MS} {s : Nat → Int32} {n t q : Nat} {x y : Int32}
theorem do_0 (h : SQ M s n t q) : (m_do M (t / 1440) n 0 x y).1 = nI n := h.1.1.2.1.1.trans h.1.1.1.1
theorem do_1 (h : SQ M s n t q) (hz : m_prob M 1 x y = 0) : ¬ (m_do M (t / 1440) n 1 x y).1 + 30000 < 0 := by
  have c1 := pr_1 hz
  obtain ⟨i, hi, -, ex, em, -, hb, ei⟩ := h.1.1.ci c1
  have hz1 : m_pLoad M x y = 0 := mp_1.symm.trans hz
  unfold m_pLoad at hz1
  rw [if_neg c1, em] at hz1
  split at hz1
  · exact absurd hz1 (by decide)
  · rename_i hy
    split at hz1
    · have e1 := hb.1
      have e2 := hb.2.2.1
      show ¬ (M.2.2.2.1 x.toNatClampNeg).1 1 + y + 30000 < 0
      rw [ei]
      have y1 : ¬ y < 1 := fun z => hy (Or.inl z)
      have y2 : y ≤ 9999 := Decidable.byContradiction fun z => hy (Or.inr z)
      rw [Int32.lt_iff_toInt_lt, show (1 : Int32).toInt = 1 from by decide] at y1
      rw [Int32.le_iff_toInt_le, show (9999 : Int32).toInt = 9999 from by decide] at y2
      have a1 := i_add (a := (M.2.2.2.1 i).1 1) (b := y) (by omega) (by omega)
      have a2 := i_add (a := (M.2.2.2.1 i).1 1 + y) (b := 30000) (by rw [a1, show (30000 : Int32).toInt = 30000 from by decide]; omega) (by rw [a1, show (30000 : Int32).toInt = 30000 from by decide]; omega)
      rw [Int32.lt_iff_toInt_lt, a2, a1, show (30000 : Int32).toInt = 30000 from by decide, i_zero]
      omega
    · exact absurd hz1 (by decide)
theorem out_ci (h : SQ M s n t q) (hz : m_prob M 3 x y = 0) : ∃ i, i < n ∧ x = nI i ∧ x.toNatClampNeg = i ∧ (M.2.2.2.1 i).1 2 = 1 ∧ SC (M.2.2.2.1 i) (M.2.2.2.2 i) (ro s i) t := by
  have hz1 : m_pOut M x y = 0 := mp_3.symm.trans hz
  unfold m_pOut at hz1
  split at hz1
  · exact absurd hz1 (by decide)
  · rename_i hb
    obtain ⟨i, hi, -, ex, em, hsc, -, ei⟩ := h.1.1.ci (fun z => hb (Or.inl z))
    rw [em] at hz1
    split at hz1
    · exact absurd hz1 (by decide)
    · rename_i h2
      exact ⟨i, hi, ex, ei, (hsc.tr.resolve_left (fun z => h2 z.1)).1, hsc⟩
theorem trip_0 {κ : KS} {L : List (Int32 × Int32)} {r : Nat → Int32} (h : SC κ L r t) (z : Nat → Int32) (b p : Int32) (j w : Nat) : 0 ≤ (k_trip κ z b p j w (t / 1440)).toInt ∧ (k_trip κ z b p j w (t / 1440)).toInt ≤ 700 := by
  obtain ⟨a1, a2, a3⟩ := k_left_b h (d := t / 1440) (by omega) (Nat.le_refl _)
  have z0 := i_zero
  unfold k_trip
  dsimp only
  simp only [Int32.lt_iff_toInt_lt, i_zero]
  (repeat' split) <;> (try simp only [i_zero]) <;> omega
theorem do_3 (h : SQ M s n t q) (hz : m_prob M 3 x y = 0) : ¬ (m_do M (t / 1440) n 3 x y).1 < 0 := by
  obtain ⟨i, hi, ex, ei, h2, hsc⟩ := out_ci h hz
  show ¬ m_leaveX M x.toNatClampNeg ((M.2.2.2.1 x.toNatClampNeg).1 5).toNatClampNeg y.toNatClampNeg (t / 1440) < 0
  rw [ei, Int32.lt_iff_toInt_lt, i_zero]
  have := (trip_0 hsc M.2.1 (M.1 7) (M.1 8) ((M.2.2.2.1 i).1 5).toNatClampNeg y.toNatClampNeg).1
  show ¬ (k_trip (M.2.2.2.1 i) M.2.1 (M.1 7) (M.1 8) ((M.2.2.2.1 i).1 5).toNatClampNeg y.toNatClampNeg (t / 1440)).toInt < 0
  omega
theorem do_4 : ¬ (m_do M (t / 1440) n 4 x y).1 < 0 := by
  show ¬ m_backX M x.toNatClampNeg ((M.2.2.2.1 x.toNatClampNeg).1 11).toNatClampNeg y.toNatClampNeg < 0
  unfold m_backX
  dsimp only
  split
  · decide
  · assumption
theorem do_5 (h : SQ M s n t q) (hz : m_prob M 5 x y = 0) : ∃ v : Nat, 1 ≤ v ∧ v ≤ 6 ∧ (m_do M (t / 1440) n 5 x y).1 = nI v := by
  have hz1 : m_pZone x y = 0 := mp_5.symm.trans hz
  unfold m_pZone at hz1
  split at hz1
  · exact absurd hz1 (by decide)
  · rename_i hb
    obtain ⟨w, hw, ew⟩ := b_st_in hb
    obtain ⟨v, v1, v6, e⟩ := h.1.1.zo w hw
    refine ⟨v, v1, v6, ?_⟩
    show M.2.1 x.toNatClampNeg = nI v
    rw [ew, nI_clamp (by omega)]
    exact e
theorem do_6 (h : SQ M s n t q) : ¬ (m_do M (t / 1440) n 6 x y).1 < 0 := by
  obtain ⟨b, p, hb, -, e, -⟩ := h.1.1.2.2.1
  have e7 : M.1 7 = s 2 := h.1.1.2.1.2.2.2.2.2.2.2.1
  show ¬ M.1 7 < 0
  rw [e7, e]
  exact nI_pos (by omega)
theorem do_7 (h : SQ M s n t q) : ¬ (m_do M (t / 1440) n 7 x y).1 < 0 := by
  have h8 : n ≤ 8 := h.1.1.1.2.1
  have := (m_ps_keep (m_g M 1 (M.1 1 + x)) n).2.2.2.2.2.1
  show ¬ nI (m_ps (m_g M 1 (M.1 1 + x)) n).1 < 0
  exact nI_pos (by omega)
end SGN
/-- what a journey has cost: nothing negative, no more than b -/
def Jk (κ : KS) (b : Nat) : Prop := (κ.1 2 = 1 ∨ κ.1 7 = 1) → 0 ≤ (κ.1 6).toInt ∧ (κ.1 6).toInt ≤ (b : Int)
def Jc (M : MS) (n q : Nat) : Prop := ∀ i, i < n → Jk (M.2.2.2.1 i) (700 * q)
section JKS
variable {κ κ' : KS} {b b' : Nat} {x st mn : Int32} {d : Nat}
theorem Jk.more (h : Jk κ b) (hb : b ≤ b') : Jk κ b' := fun z => by have := h z; omega
theorem Jk.to (h : Jk κ b) (e2 : κ'.1 2 = κ.1 2) (e6 : κ'.1 6 = κ.1 6) (e7 : κ'.1 7 = κ.1 7) : Jk κ' b := fun z => by
  rw [e2, e7] at z
  rw [e6]
  exact h z
theorem Jk.enter (h : Jk κ b) : Jk (k_enter κ d x) b := h.to rfl rfl rfl
theorem Jk.none (h2 : κ.1 2 = 0) (h7 : κ.1 7 = 0) : Jk κ b := fun z => by
  rw [h2, h7] at z
  exact absurd z (by decide)
theorem Jk.bgn (h : Jk κ b) (h7 : κ.1 7 = 0 ∨ κ.1 7 = 1) : Jk (k_begin κ st mn) b := by
  unfold k_begin
  by_cases hc : k_cont κ st mn = 0
  · rw [if_pos hc]
    intro _
    show 0 ≤ (0 : Int32).toInt ∧ (0 : Int32).toInt ≤ (b : Int)
    rw [i_zero]
    omega
  · rw [if_neg hc]
    intro _
    show 0 ≤ (κ.1 6).toInt ∧ (κ.1 6).toInt ≤ (b : Int)
    refine h (Or.inr (h7.resolve_left (fun z => hc ?_)))
    unfold k_cont
    exact if_neg (fun g => g.2.1 z)
theorem Jk.cmp (h : Jk κ b) (h2 : κ.1 2 = 1) (x0 : 0 ≤ x.toInt) (x7 : x.toInt ≤ 700) (hb : b < 2 ^ 30) : Jk (k_complete κ st mn x) (b + 700) := fun _ => by
  have := h (Or.inl h2)
  show 0 ≤ (κ.1 6 + x).toInt ∧ (κ.1 6 + x).toInt ≤ ((b + 700 : Nat) : Int)
  rw [i_add (by omega) (by omega)]
  omega
end JKS
section JCS
variable {M M' : MS} {s s' : Nat → Int32} {n n' t t' q q' : Nat} {x y : Int32}
theorem Jc.more (h : Jc M n q) (hq : q ≤ q') : Jc M n q' := fun i hi => (h i hi).more (by omega)
theorem Jc.one {i : Nat} {κ : KS} {b : Nat} (h : Jc M n q) (hb : 700 * q ≤ b) (hk : Jk κ b) (e : M'.2.2.2.1 = va_up M.2.2.2.1 i κ) (j : Nat) (hj : j < n) : Jk (M'.2.2.2.1 j) b := by
  rw [e]
  by_cases g : j = i
  · subst g; rw [vu_eq]; exact hk
  · rw [vu_ne g]; exact (h j hj).more hb
theorem Jk.inc {i d : Nat} {b : Nat} : Jk ((m_inc M i d).2.2.2.1 i) b := by
  show Jk (va_up M.2.2.2.1 i (k_break (k_enter (M.2.2.2.1 i) d (m_incX M i d)) (nI d) (m_incX M i d)) i) b
  rw [vu_eq]
  exact Jk.none rfl rfl
theorem inc_cards {i d : Nat} : (m_inc M i d).2.2.2.1 = va_up M.2.2.2.1 i (k_break (k_enter (M.2.2.2.1 i) d (m_incX M i d)) (nI d) (m_incX M i d)) := rfl
theorem Jc.pass (h : Jc M n q) : ∀ k, k ≤ n → ∀ j, j < n → Jk ((m_ps M k).2.2.2.2.1 j) (700 * q)
  | 0, _ => h
  | k + 1, hk => by
    have ih := Jc.pass h k (by omega)
    unfold m_ps
    split
    · intro j hj
      show Jk ((m_inc (m_ps M k).2 k (m_day M k)).2.2.2.1 j) _
      exact Jc.one (M := (m_ps M k).2) (q := q) ih (Nat.le_refl _) (Jk.none rfl rfl) inc_cards j hj
    · exact ih
theorem Jc.step (h : SQ M s n t q) (hq4 : q ≤ 40000) (hJ : Jc M n q) {k : Nat} (hk : k < 8) (hz : m_prob M k x y = 0) (h' : SQ (m_do M (t / 1440) n k x y).2 s' n' t' q') : Jc (m_do M (t / 1440) n k x y).2 n' (q + 1) := by
  have e0 : (m_do M (t / 1440) n k x y).2.1 0 = nI n' := h'.1.1.2.1.1.trans h'.1.1.1.1
  have m0 : M.1 0 = nI n := h.1.1.2.1.1.trans h.1.1.1.1
  have h8 : n ≤ 8 := h.1.1.1.2.1
  have h8' : n' ≤ 8 := h'.1.1.1.2.1
  have hle : 700 * q ≤ 700 * (q + 1) := by omega
  have same : (m_do M (t / 1440) n k x y).2.1 0 = M.1 0 → n' = n := fun e => (nI_eq (by omega) (by omega)).mp ((e0.symm.trans e).trans m0)
  have hc : k = 0 ∨ k = 1 ∨ k = 2 ∨ k = 3 ∨ k = 4 ∨ k = 5 ∨ k = 6 ∨ k = 7 := by omega
  rcases hc with rfl | rfl | rfl | rfl | rfl | rfl | rfl | rfl
  · have e1 : (m_do M (t / 1440) n 0 x y).2.1 0 = M.1 0 + 1 := rfl
    rw [e0, m0, show (1 : Int32) = nI 1 from rfl, nI_add, nI_eq (by omega) (by omega)] at e1
    subst e1
    intro j hj
    by_cases g : j = n
    · subst g
      show Jk (va_up M.2.2.2.1 j (k_anew (M.2.2.2.1 j) (if x = 1 then 1 else 0)) j) _
      rw [vu_eq]
      exact Jk.none rfl rfl
    · show Jk (va_up M.2.2.2.1 n (k_anew (M.2.2.2.1 n) (if x = 1 then 1 else 0)) j) _
      rw [vu_ne g]
      exact (hJ j (by omega)).more hle
  · obtain rfl := same rfl
    obtain ⟨i, hi, -, -, -, -, -, ei⟩ := h.1.1.ci (pr_1 hz)
    refine Jc.one (i := x.toNatClampNeg) hJ hle ?_ rfl
    rw [ei]
    exact ((hJ i hi).to rfl rfl rfl).more hle
  · have hz1 : m_pIn M x y = 0 := mp_2.symm.trans hz
    unfold m_pIn at hz1
    split at hz1
    · exact absurd hz1 (by decide)
    · rename_i hb
      obtain ⟨i, hi, -, ex, em, hsc, -, ei⟩ := h.1.1.ci (fun z => hb (Or.inl z))
      by_cases h2 : (M.2.2.2.1 i).1 2 = 0
      · have eM : (m_do M (t / 1440) n 2 x y).2 = m_card (m_tap M y.toNatClampNeg) i (k_begin (M.2.2.2.1 i) (nI y.toNatClampNeg) (M.1 1)) := by
          show (m_enterAt M x.toNatClampNeg y.toNatClampNeg (t / 1440)).2 = _
          rw [ei]
          unfold m_enterAt
          dsimp only
          rw [if_pos h2]
          rfl
        obtain rfl := same (by rw [eM]; rfl)
        rw [eM]
        exact Jc.one (i := i) hJ hle (((hJ i hi).bgn (hsc.la.elim (fun z => Or.inl z.1) (fun z => Or.inr z.1))).more hle) rfl
      · have eM : (m_do M (t / 1440) n 2 x y).2 = m_card (m_tap (m_inc M i (t / 1440)) y.toNatClampNeg) i (k_begin ((m_inc M i (t / 1440)).2.2.2.1 i) (nI y.toNatClampNeg) (M.1 1)) := by
          show (m_enterAt M x.toNatClampNeg y.toNatClampNeg (t / 1440)).2 = _
          rw [ei]
          unfold m_enterAt
          dsimp only
          rw [if_neg h2]
          rfl
        obtain rfl := same (by rw [eM]; rfl)
        rw [eM]
        intro j hj
        show Jk (va_up (m_inc M i (t / 1440)).2.2.2.1 i (k_begin ((m_inc M i (t / 1440)).2.2.2.1 i) (nI y.toNatClampNeg) (M.1 1)) j) _
        by_cases g : j = i
        · subst g
          rw [vu_eq]
          exact Jk.inc.bgn (Or.inl (by rw [inc_cards, vu_eq]; rfl))
        · rw [vu_ne g, inc_cards, vu_ne g]
          exact (hJ j hj).more hle
  · obtain ⟨i, hi, ex, ei, h2, hsc⟩ := out_ci h hz
    obtain rfl := same rfl
    obtain ⟨x0, x7⟩ := trip_0 hsc M.2.1 (M.1 7) (M.1 8) ((M.2.2.2.1 i).1 5).toNatClampNeg y.toNatClampNeg
    refine Jc.one (i := x.toNatClampNeg) hJ hle ?_ rfl
    rw [ei]
    exact (((hJ i hi).enter).cmp h2 x0 x7 (by omega)).more (by omega)
  · obtain rfl := same rfl
    by_cases hi : x.toNatClampNeg < n'
    · intro j hj
      refine Jc.one (i := x.toNatClampNeg) hJ hle ?_ rfl j hj
      exact ((hJ _ hi).to rfl rfl rfl).more hle
    · intro j hj
      show Jk (va_up M.2.2.2.1 x.toNatClampNeg _ j) _
      rw [vu_ne (by omega)]
      exact (hJ j hj).more hle
  · obtain rfl := same rfl
    exact fun j hj => (hJ j hj).more hle
  · obtain rfl := same rfl
    exact fun j hj => (hJ j hj).more hle
  · obtain rfl := same (m_ps_keep (m_g M 1 (M.1 1 + x)) n).1
    exact fun j hj => (Jc.pass (M := m_g M 1 (M.1 1 + x)) hJ n' (Nat.le_refl _) j hj).more hle
end JCS
