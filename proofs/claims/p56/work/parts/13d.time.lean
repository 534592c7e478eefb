/-! The reference's row behind losses; time that passes. -/
theorem row_ext {a b : Nat → Int32} (h1 : ∀ k, k < 33 → a k = b k) (h2 : ∀ j w, w < 17 → ro a j w = ro b j w) : a = b := by
  funext k
  rcases Nat.lt_or_ge k 33 with g | g
  · exact h1 k g
  · have e := h2 ((k - 33) / 17) ((k - 33) % 17) (Nat.mod_lt _ (by decide))
    unfold ro at e
    rw [show 33 + 17 * ((k - 33) / 17) + (k - 33) % 17 = k by omega] at e
    exact e
section ROW
variable {s s' : Nat → Int32} {i j d e w : Nat} {c : Int32}
theorem r_pay_5 : r_pay s i d c 5 = s 5 + c := by
  show upd _ 5 _ 5 = _
  rw [pk_us, rw_lo (by decide), r_add_lo (by decide)]
theorem ro_pay_i (hw : w < 17) : ro (r_pay s i d c) i w = rp (ro s i) d c w := by
  have hd : d % 3 < 3 := Nat.mod_lt _ (by decide)
  show ro (upd _ 5 _) i w = _
  rw [ro_up (by decide), ro_rw (by decide) hw]
  unfold rp r_add r_sum
  by_cases e1 : w = 1
  · rw [if_pos ⟨rfl, e1⟩, if_pos e1, ro_rw (by omega) (by decide), if_neg (by omega), ro_rw (by omega) (by decide), if_neg (by omega)]
  · rw [if_neg (fun q => e1 q.2), if_neg e1, ro_rw (by omega) hw]
    by_cases e2 : w = 14 + d % 3
    · rw [if_pos ⟨rfl, e2⟩, if_neg (by omega), if_pos e2]
    · rw [if_neg (fun q => e2 q.2), ro_rw (by omega) hw]
      by_cases e3 : w = 11 + d % 3
      · rw [if_pos ⟨rfl, e3⟩, if_pos e3]
      · rw [if_neg (fun q => e3 q.2), if_neg e3, if_neg e2]
theorem ro_loses_i (hw : w < 17) : ro (r_loses s i d) i w = rl (ro s i) d (r_lossX s i d) w := by
  rw [ro_loses hw, ro_pay_i hw]
  unfold rl
  simp only [true_and]
theorem ro_loses_n (hw : w < 17) (h : j ≠ i) : ro (r_loses s i d) j w = ro s j w := by
  rw [ro_loses hw, if_neg (fun q => h q.1), if_neg (fun q => h q.1), if_neg (fun q => h q.1), if_neg (fun q => h q.1), if_neg (fun q => h q.1), ro_pay hw (Or.inl h)]
theorem r_loses_5 : r_loses s i d 5 = s 5 + r_lossX s i d := by
  show upd _ 8 _ 5 = _
  rw [pk_un (by decide), rw_lo (by decide), rw_lo (by decide), rw_lo (by decide), rw_lo (by decide), rw_lo (by decide), r_pay_5]
theorem r_loses_8 : r_loses s i d 8 = s 8 + 1 := by
  show upd _ 8 _ 8 = _
  rw [pk_us, rw_lo (by decide), rw_lo (by decide), rw_lo (by decide), rw_lo (by decide), rw_lo (by decide), r_pay_lo (by decide) (by decide)]
theorem lossX_c (h : ∀ w, w < 17 → ro s' i w = ro s i w) (h2 : s' 2 = s 2) (h3 : s' 3 = s 3) : r_lossX s' i d = r_lossX s i d := by
  have hd : d % 3 < 3 := Nat.mod_lt _ (by decide)
  unfold r_lossX r_chg r_left r_paid r_cap r_sum
  rw [h 0 (by decide), h (14 + d % 3) (by omega), h (11 + d % 3) (by omega), h2, h3]
theorem rp_c {r r' : Nat → Int32} (h : ∀ w, w < 17 → r' w = r w) (hw : w < 17) : rp r' d c w = rp r d c w := by
  have hd : d % 3 < 3 := Nat.mod_lt _ (by decide)
  unfold rp
  rw [h 1 (by decide), h (14 + d % 3) (by omega), h (11 + d % 3) (by omega), h w hw]
theorem rl_c {r r' : Nat → Int32} (h : ∀ w, w < 17 → r' w = r w) (hw : w < 17) : rl r' d c w = rl r d c w := by
  unfold rl
  rw [h 2 (by decide), rp_c h hw]
theorem lossX_n (h : j ≠ i) : r_lossX (r_loses s i d) j e = r_lossX s j e := lossX_c (fun w hw => ro_loses_n hw h) (r_loses_lo (by decide) (by decide) (by decide)) (r_loses_lo (by decide) (by decide) (by decide))
theorem loses_comm (h : i ≠ j) : r_loses (r_loses s i d) j e = r_loses (r_loses s j e) i d := by
  apply row_ext
  · intro k hk
    by_cases e5 : k = 5
    · subst e5
      rw [r_loses_5, r_loses_5, r_loses_5, r_loses_5, lossX_n (Ne.symm h), lossX_n h, Int32.add_assoc, Int32.add_assoc, Int32.add_comm (r_lossX s i d)]
    · by_cases e8 : k = 8
      · subst e8
        rw [r_loses_8, r_loses_8, r_loses_8, r_loses_8]
      · rw [r_loses_lo hk e5 e8, r_loses_lo hk e5 e8, r_loses_lo hk e5 e8, r_loses_lo hk e5 e8]
  · intro m w hw
    by_cases ei : m = i
    · subst ei
      rw [ro_loses_n hw h, ro_loses_i hw, ro_loses_i hw, lossX_n h]
      exact (rl_c (fun v hv => ro_loses_n hv h) hw).symm
    · by_cases ej : m = j
      · subst ej
        rw [ro_loses_i hw, ro_loses_n hw (Ne.symm h), ro_loses_i hw, lossX_n (Ne.symm h)]
        exact rl_c (fun v hv => ro_loses_n hv (Ne.symm h)) hw
      · rw [ro_loses_n hw ej, ro_loses_n hw ei, ro_loses_n hw ei, ro_loses_n hw ej]
theorem loses_1 {x : Int32} : r_loses (upd s 1 x) i d = upd (r_loses s i d) 1 x := by
  have hX : r_lossX (upd s 1 x) i d = r_lossX s i d := lossX_c (fun w _ => ro_up (by decide)) (pk_un (by decide)) (pk_un (by decide))
  apply row_ext
  · intro k hk
    by_cases e1 : k = 1
    · subst e1
      rw [r_loses_lo (by decide) (by decide) (by decide), pk_us, pk_us]
    · rw [pk_un e1]
      by_cases e5 : k = 5
      · subst e5
        rw [r_loses_5, r_loses_5, hX, pk_un (by decide)]
      · by_cases e8 : k = 8
        · subst e8
          rw [r_loses_8, r_loses_8, pk_un (by decide)]
        · rw [r_loses_lo hk e5 e8, r_loses_lo hk e5 e8, pk_un e1]
  · intro m w hw
    rw [ro_up (by decide)]
    by_cases ei : m = i
    · subst ei
      rw [ro_loses_i hw, ro_loses_i hw, hX]
      exact rl_c (fun v _ => ro_up (by decide)) hw
    · rw [ro_loses_n hw ei, ro_loses_n hw ei, ro_up (by decide)]
end ROW
/-- those of the first n cards that p names lose their trips -/
def r_fold (s : Nat → Int32) (p : Nat → Bool) (dd : Nat → Nat) : Nat → Nat → Int32
  | 0 => s
  | j + 1 => if p j then r_loses (r_fold s p dd j) j (dd j) else r_fold s p dd j
def c_fold (p : Nat → Bool) : Nat → Nat
  | 0 => 0
  | j + 1 => if p j then c_fold p j + 1 else c_fold p j
theorem fold_c {s : Nat → Int32} {p p' : Nat → Bool} {dd : Nat → Nat} : ∀ n, (∀ j, j < n → p' j = p j) → r_fold s p' dd n = r_fold s p dd n ∧ c_fold p' n = c_fold p n
  | 0, _ => ⟨rfl, rfl⟩
  | n + 1, h => by
    obtain ⟨a, b⟩ := fold_c (s := s) (dd := dd) n (fun j hj => h j (by omega))
    unfold r_fold c_fold
    rw [a, b, h n (by omega)]
    exact ⟨rfl, rfl⟩
theorem fold_add {s : Nat → Int32} {p p' : Nat → Bool} {dd : Nat → Nat} {k : Nat} (hk : p k = false) (hk' : p' k = true) : ∀ n, k < n → (∀ j, j < n → j ≠ k → p' j = p j) → r_fold s p' dd n = r_loses (r_fold s p dd n) k (dd k) ∧ c_fold p' n = c_fold p n + 1
  | 0, h, _ => absurd h (Nat.not_lt_zero k)
  | n + 1, h, hp => by
    rcases Nat.lt_succ_iff_lt_or_eq.mp h with g | g
    · obtain ⟨a, b⟩ := fold_add (s := s) (dd := dd) hk hk' n g (fun j hj => hp j (by omega))
      have e := hp n (by omega) (by omega)
      unfold r_fold c_fold
      rw [e, a, b]
      cases p n
      · exact ⟨rfl, rfl⟩
      · exact ⟨loses_comm (by omega), rfl⟩
    · subst g
      obtain ⟨a, b⟩ := fold_c (s := s) (dd := dd) (p := p) (p' := p') k (fun j hj => hp j (by omega) (by omega))
      unfold r_fold c_fold
      rw [hk, hk', a, b]
      exact ⟨rfl, rfl⟩
theorem fold_1 {s : Nat → Int32} {p : Nat → Bool} {dd : Nat → Nat} {x : Int32} : ∀ n, r_fold (upd s 1 x) p dd n = upd (r_fold s p dd n) 1 x
  | 0 => rfl
  | n + 1 => by
    unfold r_fold
    rw [fold_1 n]
    split
    · exact loses_1
    · rfl
theorem fold_lo {s : Nat → Int32} {p : Nat → Bool} {dd : Nat → Nat} {k : Nat} (hk : k < 33) (h5 : k ≠ 5) (h8 : k ≠ 8) : ∀ n, r_fold s p dd n k = s k
  | 0 => rfl
  | n + 1 => by
    unfold r_fold
    split
    · rw [r_loses_lo hk h5 h8]; exact fold_lo hk h5 h8 n
    · exact fold_lo hk h5 h8 n
theorem fold_ro {s : Nat → Int32} {p : Nat → Bool} {dd : Nat → Nat} {j w : Nat} (hw : w < 17) : ∀ n, ro (r_fold s p dd n) j w = if j < n ∧ p j = true then rl (ro s j) (dd j) (r_lossX s j (dd j)) w else ro s j w
  | 0 => by rw [if_neg (fun q => absurd q.1 (Nat.not_lt_zero j))]; rfl
  | n + 1 => by
    have ih := fun v hv => fold_ro (s := s) (p := p) (dd := dd) (j := j) (w := v) hv n
    show ro (if p n then r_loses (r_fold s p dd n) n (dd n) else r_fold s p dd n) j w = _
    by_cases e : j = n
    · subst e
      have ih2 : ∀ v, v < 17 → ro (r_fold s p dd j) j v = ro s j v := fun v hv => by rw [ih v hv, if_neg (fun q => absurd q.1 (Nat.lt_irrefl j))]
      cases hp : p j
      · rw [if_neg (show ¬ (false = true) by decide), if_neg (show ¬ (j < j + 1 ∧ false = true) from fun q => absurd q.2 (by decide)), ih2 w hw]
      · rw [if_pos rfl, if_pos ⟨Nat.lt_succ_self j, rfl⟩, ro_loses_i hw, lossX_c ih2 (fold_lo (by decide) (by decide) (by decide) j) (fold_lo (by decide) (by decide) (by decide) j)]
        exact rl_c ih2 hw
    · have e2 : (if p n then r_loses (r_fold s p dd n) n (dd n) else r_fold s p dd n) = (if p n then r_loses (r_fold s p dd n) n (dd n) else r_fold s p dd n) := rfl
      have e3 : ro (if p n then r_loses (r_fold s p dd n) n (dd n) else r_fold s p dd n) j w = ro (r_fold s p dd n) j w := by
        split
        · exact ro_loses_n hw e
        · rfl
      rw [e3, ih w hw]
      by_cases g : j < n
      · by_cases hp : p j = true
        · rw [if_pos ⟨g, hp⟩, if_pos ⟨by omega, hp⟩]
        · rw [if_neg (fun q => hp q.2), if_neg (fun q => hp q.2)]
      · rw [if_neg (fun q => g q.1), if_neg (fun q => by have := q.1; omega)]
/-- the trips: which cards are on one, since when -/
def p_at (on : Nat → Bool) (b : Nat → Nat) (τ : Nat) : Nat → Bool := fun j => on j && decide (b j + 180 ≤ τ)
def d_at (b : Nat → Nat) : Nat → Nat := fun j => (b j + 180) / 1440
theorem sweep_at {s : Nat → Int32} {on : Nat → Bool} {b : Nat → Nat} {n τ : Nat} (hτ : τ + 1 < 2 ^ 30) (h1 : s 1 = nI (τ + 1)) (ho : ∀ j, j < n → (on j = true → ¬ ro s j 2 < 0 ∧ ro s j 3 = nI (b j) ∧ b j ≤ τ) ∧ (on j = false → ro s j 2 < 0)) :
    ∀ k, k ≤ n → r_sweep (r_fold s (p_at on b τ) (d_at b) n) ((τ + 1) / 1440) k = (r_fold s (fun j => if j < k then p_at on b (τ + 1) j else p_at on b τ j) (d_at b) n, c_fold (fun j => if j < k then p_at on b (τ + 1) j else p_at on b τ j) n - c_fold (p_at on b τ) n) ∧ c_fold (p_at on b τ) n ≤ c_fold (fun j => if j < k then p_at on b (τ + 1) j else p_at on b τ j) n
  | 0, _ => by
    have e : (fun j => if j < 0 then p_at on b (τ + 1) j else p_at on b τ j) = p_at on b τ := by funext j; exact if_neg (Nat.not_lt_zero j)
    rw [e, Nat.sub_self]
    exact ⟨rfl, Nat.le_refl _⟩
  | k + 1, hk => by
    obtain ⟨ih, ih2⟩ := sweep_at hτ h1 ho k (by omega)
    obtain ⟨o1, o2⟩ := ho k (by omega)
    have hpk : (if k < k then p_at on b (τ + 1) k else p_at on b τ k) = p_at on b τ k := if_neg (Nat.lt_irrefl k)
    have hr : ∀ v, v < 17 → ro (r_fold s (fun j => if j < k then p_at on b (τ + 1) j else p_at on b τ j) (d_at b) n) k v = if p_at on b τ k = true then rl (ro s k) (d_at b k) (r_lossX s k (d_at b k)) v else ro s k v := fun v hv => by
      rw [fold_ro hv n]
      by_cases e : p_at on b τ k = true
      · rw [if_pos ⟨by omega, by rw [hpk]; exact e⟩, if_pos e]
      · rw [if_neg (fun q => e (by rw [← hpk]; exact q.2)), if_neg e]
    have hm : r_fold s (fun j => if j < k then p_at on b (τ + 1) j else p_at on b τ j) (d_at b) n 1 = nI (τ + 1) := by rw [fold_lo (by decide) (by decide) (by decide)]; exact h1
    unfold r_sweep
    rw [ih]
    dsimp only
    by_cases hit : p_at on b τ k = false ∧ p_at on b (τ + 1) k = true
    · obtain ⟨g1, g2⟩ := hit
      have gon : on k = true := by
        unfold p_at at g2
        rw [Bool.and_eq_true] at g2
        exact g2.1
      have gb : b k + 180 = τ + 1 := by
        unfold p_at at g1 g2
        rw [gon, Bool.true_and] at g1 g2
        have := of_decide_eq_true g2
        have := of_decide_eq_false g1
        omega
      obtain ⟨q1, q2, q3⟩ := o1 gon
      have hd : (τ + 1) / 1440 = d_at b k := by unfold d_at; rw [gb]
      obtain ⟨a, c⟩ := fold_add (s := s) (dd := d_at b) (p := fun j => if j < k then p_at on b (τ + 1) j else p_at on b τ j) (p' := fun j => if j < k + 1 then p_at on b (τ + 1) j else p_at on b τ j) (k := k) (by rw [hpk]; exact g1) (by rw [if_pos (Nat.lt_succ_self k)]; exact g2) n (by omega) (fun j hj hn => by
        by_cases e : j < k
        · rw [if_pos e, if_pos (by omega)]
        · rw [if_neg e, if_neg (by omega)])
      refine ⟨(if_pos ⟨?_, ?_⟩).trans ?_, ?_⟩
      · rw [hd, a, c, Nat.sub_add_comm ih2]
      · rw [c]; omega
      · rw [hr 2 (by decide), g1, if_neg (show ¬ (false = true) by decide)]; exact q1
      · rw [hr 3 (by decide), hm, g1, if_neg (show ¬ (false = true) by decide), q2, pk_sub (by omega)]; exact (congrArg nI (show τ + 1 - b k = 180 by omega) : nI (τ + 1 - b k) = nI 180)
    · have same : ∀ j, j < n → (if j < k + 1 then p_at on b (τ + 1) j else p_at on b τ j) = (if j < k then p_at on b (τ + 1) j else p_at on b τ j) := fun j _ => by
        by_cases e : j < k
        · rw [if_pos e, if_pos (by omega)]
        · rw [if_neg e]
          by_cases e2 : j = k
          · subst e2
            rw [if_pos (Nat.lt_succ_self j)]
            cases g1 : p_at on b τ j
            · cases g2 : p_at on b (τ + 1) j
              · rfl
              · exact absurd ⟨g1, g2⟩ hit
            · unfold p_at at g1 ⊢
              rw [Bool.and_eq_true] at g1
              have := of_decide_eq_true g1.2
              rw [g1.1, Bool.true_and]
              exact decide_eq_true (by omega)
          · rw [if_neg (by omega)]
      obtain ⟨a, c⟩ := fold_c (s := s) (dd := d_at b) n same
      rw [a, c]
      refine ⟨if_neg ?_, ih2⟩
      rintro ⟨z1, z2⟩
      rw [hr 2 (by decide)] at z1
      rw [hr 3 (by decide), hm] at z2
      cases g1 : p_at on b τ k
      · rw [g1, if_neg (show ¬ (false = true) by decide)] at z1 z2
        cases gon : on k
        · exact z1 (o2 gon)
        · obtain ⟨q1, q2, q3⟩ := o1 gon
          rw [q2, pk_sub (by omega)] at z2
          have z3 : nI (τ + 1 - b k) = nI 180 := z2
          rw [nI_eq (by omega) (by decide)] at z3
          refine hit ⟨g1, ?_⟩
          unfold p_at
          rw [gon, Bool.true_and]
          exact decide_eq_true (by omega)
      · rw [g1, if_pos rfl] at z1
        exact z1 (show (-1 : Int32) < 0 by decide)
theorem adv_at {s : Nat → Int32} {on : Nat → Bool} {b : Nat → Nat} {n t : Nat} (hs1 : s 1 = nI t) (ho : ∀ j, j < n → (on j = true → ¬ ro s j 2 < 0 ∧ ro s j 3 = nI (b j) ∧ b j ≤ t ∧ t < b j + 180) ∧ (on j = false → ro s j 2 < 0)) :
    ∀ m, t + m < 2 ^ 30 → r_adv s n t m = (r_fold (upd s 1 (nI (t + m))) (p_at on b (t + m)) (d_at b) n, c_fold (p_at on b (t + m)) n)
  | 0, _ => by
    have e0 : ∀ j, j < n → p_at on b t j = (fun _ => false) j := fun j hj => by
      unfold p_at
      cases g : on j
      · rfl
      · have := ((ho j hj).1 g).2.2.2
        rw [Bool.true_and]
        exact decide_eq_false (by omega)
    obtain ⟨a, c⟩ := fold_c (s := upd s 1 (nI t)) (dd := d_at b) n e0
    have z : ∀ k, r_fold (upd s 1 (nI t)) (fun _ => false) (d_at b) k = upd s 1 (nI t) ∧ c_fold (fun _ => false) k = 0 := fun k => by
      induction k with
      | zero => exact ⟨rfl, rfl⟩
      | succ k ih => exact ih
    show (s, 0) = (r_fold (upd s 1 (nI t)) (p_at on b t) (d_at b) n, c_fold (p_at on b t) n)
    rw [a, c, (z n).1, (z n).2, upd_same hs1]
  | m + 1, hm => by
    have ih := adv_at hs1 ho m (by omega)
    unfold r_adv
    rw [ih]
    dsimp only
    have hm1 : r_fold (upd s 1 (nI (t + m))) (p_at on b (t + m)) (d_at b) n 1 + 1 = nI (t + m + 1) := by rw [fold_lo (by decide) (by decide) (by decide), pk_us]; exact nI_1 _
    have e : upd (r_fold (upd s 1 (nI (t + m))) (p_at on b (t + m)) (d_at b) n) 1 (r_fold (upd s 1 (nI (t + m))) (p_at on b (t + m)) (d_at b) n 1 + 1) = r_fold (upd s 1 (nI (t + m + 1))) (p_at on b (t + m)) (d_at b) n := by
      rw [hm1, ← fold_1]
      congr 1
      funext j
      unfold upd
      split <;> rfl
    have sw := sweep_at (s := upd s 1 (nI (t + m + 1))) (on := on) (b := b) (n := n) (τ := t + m) hm pk_us (fun j hj => by
      obtain ⟨a1, a2⟩ := ho j hj
      refine ⟨fun g => ?_, fun g => ?_⟩
      · obtain ⟨c1, c2, c3, -⟩ := a1 g
        rw [ro_up (by decide), ro_up (by decide)]
        exact ⟨c1, c2, by omega⟩
      · rw [ro_up (by decide)]
        exact a2 g) n (Nat.le_refl _)
    have en : ∀ j, j < n → (if j < n then p_at on b (t + m + 1) j else p_at on b (t + m) j) = p_at on b (t + m + 1) j := fun j hj => if_pos hj
    obtain ⟨f1, f2⟩ := fold_c (s := upd s 1 (nI (t + m + 1))) (dd := d_at b) n en
    rw [e, sw.1, f1, f2]
    have := sw.2
    rw [f2] at this
    dsimp only
    rw [show c_fold (p_at on b (t + m)) n + (c_fold (p_at on b (t + m + 1)) n - c_fold (p_at on b (t + m)) n) = c_fold (p_at on b (t + m + 1)) n by omega]
    rfl
