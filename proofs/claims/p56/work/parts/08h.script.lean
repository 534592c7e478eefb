/-! What a read command is. -/
def okK (k : Int32) : Prop := k = 99 ∨ k = 119 ∨ k = 108 ∨ k = 105 ∨ k = 111 ∨ k = 102 ∨ k = 122
theorem q_skip_0 {t : Nat → Int32} {len : Nat} : ∀ (L : List Int32) (a : Nat), (q_skip t len L (0, a)).1 = 0 → (q_skip t len L (0, a)).2 = a + L.length
  | [], _, _ => rfl
  | x :: L, a, h => by
    have e : q_skip t len (x :: L) (0, a) = if r_beh t len a = x then q_skip t len L (0, a + 1) else (1, a) := if_neg (not_not_intro rfl)
    rw [e] at h ⊢
    by_cases g : r_beh t len a = x
    · rw [if_pos g] at h ⊢
      rw [q_skip_0 L (a + 1) h, List.length_cons]
      omega
    · rw [if_neg g] at h
      exact absurd h (by show ¬ (1 : Nat) = 0; decide)
theorem q_skip_h {t : Nat → Int32} {len : Nat} {x : Int32} {L : List Int32} {a : Nat} (h : (q_skip t len (x :: L) (0, a)).1 = 0) : r_beh t len a = x := by
  have e : q_skip t len (x :: L) (0, a) = if r_beh t len a = x then q_skip t len L (0, a + 1) else (1, a) := if_neg (not_not_intro rfl)
  rw [e] at h
  by_cases g : r_beh t len a = x
  · exact g
  · rw [if_neg g] at h
    exact absurd h (by show ¬ (1 : Nat) = 0; decide)
theorem q_skip_z {t : Nat → Int32} {len : Nat} {L : List Int32} {z : Nat × Nat} (h : (q_skip t len L z).1 = 0) : z.1 = 0 := Decidable.byContradiction fun g => by rw [q_skip_w g] at h; exact g h
theorem q_num_z {t : Nat → Int32} {len most w a : Nat} (h : (q_num t len most w a).1 = 0) : w = 0 := Decidable.byContradiction fun g => by rw [q_num, if_pos g] at h; exact absurd h (by show ¬ (1 : Nat) = 0; decide)
theorem r_word_len (k : Int32) : 1 ≤ (byt (r_word k)).length := by
  unfold r_word
  (repeat' split) <;> decide
theorem r_word_ok : ∀ k, ∀ x ∈ byt (r_word k), ¬ x = -1 := by
  intro k
  unfold r_word
  (repeat' split) <;> decide
theorem q_cmd_ok {t : Nat → Int32} {len a n : Nat} {c : Nat → Int32} (ha : a ≤ len) : (q_cmd t len (0, a, n, c)).1 < 2 ∧ a ≤ (q_cmd t len (0, a, n, c)).2.1 ∧ (q_cmd t len (0, a, n, c)).2.1 ≤ len ∧ (q_cmd t len (0, a, n, c)).2.2.1 = n + 1 ∧ ((q_cmd t len (0, a, n, c)).1 = 0 → a < (q_cmd t len (0, a, n, c)).2.1 ∧ okK ((q_cmd t len (0, a, n, c)).2.2.2 (3 * n))) ∧ ∀ j, j < 3 * n → (q_cmd t len (0, a, n, c)).2.2.2 j = c j := by
  unfold q_cmd
  rw [if_neg (not_not_intro rfl)]
  dsimp only
  obtain ⟨k, hk⟩ : ∃ z, r_beh t len a = z := ⟨_, rfl⟩
  rw [hk]
  have yl := q_skip_le (t := t) (len := len) (byt (r_word k)) (0, a) (r_word_ok k) (show 0 < 2 by decide) ha
  have y0 := q_skip_0 (t := t) (len := len) (byt (r_word k)) a
  have wl := r_word_len k
  have yh : k = 99 ∨ k = 119 ∨ k = 108 ∨ k = 105 ∨ k = 111 ∨ k = 102 ∨ ((q_skip t len (byt (r_word k)) (0, a)).1 = 0 → k = 122) := by
    by_cases h1 : k = 99
    · exact Or.inl h1
    · by_cases h2 : k = 119
      · exact Or.inr (Or.inl h2)
      · by_cases h3 : k = 108
        · exact Or.inr (Or.inr (Or.inl h3))
        · by_cases h4 : k = 105
          · exact Or.inr (Or.inr (Or.inr (Or.inl h4)))
          · by_cases h5 : k = 111
            · exact Or.inr (Or.inr (Or.inr (Or.inr (Or.inl h5))))
            · by_cases h6 : k = 102
              · exact Or.inr (Or.inr (Or.inr (Or.inr (Or.inr (Or.inl h6)))))
              · refine Or.inr (Or.inr (Or.inr (Or.inr (Or.inr (Or.inr fun h => ?_)))))
                have e : r_word k = "zone " := by unfold r_word; rw [if_neg h1, if_neg h2, if_neg h3, if_neg h4, if_neg h5, if_neg h6]
                rw [e] at h
                rw [← hk]
                exact q_skip_h (x := 122) (L := [111, 110, 101, 32]) h
  obtain ⟨⟨w1, a1⟩, hy⟩ : ∃ z, q_skip t len (byt (r_word k)) (0, a) = z := ⟨_, rfl⟩
  rw [hy] at yl y0 yh ⊢
  dsimp only at yl y0 yh ⊢
  have hok : w1 = 0 → okK k := fun h => by
    rcases yh with h1 | h1 | h1 | h1 | h1 | h1 | h1
    · exact Or.inl h1
    · exact Or.inr (Or.inl h1)
    · exact Or.inr (Or.inr (Or.inl h1))
    · exact Or.inr (Or.inr (Or.inr (Or.inl h1)))
    · exact Or.inr (Or.inr (Or.inr (Or.inr (Or.inl h1))))
    · exact Or.inr (Or.inr (Or.inr (Or.inr (Or.inr (Or.inl h1)))))
    · exact Or.inr (Or.inr (Or.inr (Or.inr (Or.inr (Or.inr (h1 h))))))
  by_cases k1 : k = 99
  · rw [if_pos k1]
    obtain ⟨w2, h2⟩ : ∃ z : Nat, (if ¬ w1 = 0 then 1 else if r_beh t len a1 = 114 then 0 else if r_beh t len a1 = 102 then 0 else 1) = z := ⟨_, rfl⟩
    have hw2 : w2 < 2 ∧ (w2 = 0 → w1 = 0 ∧ a1 < len) := by
      rw [← h2]
      by_cases g : w1 = 0
      · rw [if_neg (not_not_intro g)]
        by_cases g1 : r_beh t len a1 = 114
        · rw [if_pos g1]
          exact ⟨by decide, fun _ => ⟨g, r_beh_lt (by rw [g1]; decide)⟩⟩
        · rw [if_neg g1]
          by_cases g2 : r_beh t len a1 = 102
          · rw [if_pos g2]
            exact ⟨by decide, fun _ => ⟨g, r_beh_lt (by rw [g2]; decide)⟩⟩
          · rw [if_neg g2]
            exact ⟨by decide, fun q => absurd q (by decide)⟩
      · rw [if_pos g]
        exact ⟨by decide, fun q => absurd q (by decide)⟩
    rw [h2]
    refine ⟨hw2.1, ?_, ?_, rfl, fun h => ?_, fun j hj => ?_⟩
    · dsimp only
      split <;> omega
    · dsimp only
      split
      · rename_i g
        have := (hw2.2 g).2
        omega
      · omega
    · have h : w2 = 0 := h
      have hw := (hw2.2 h).1
      have := y0 hw
      refine ⟨by dsimp only; rw [if_pos h]; omega, ?_⟩
      dsimp only
      rw [pk_un (by omega), pk_us]
      exact hok hw
    · dsimp only
      rw [pk_un (by omega), pk_un (by omega)]
  · rw [if_neg k1]
    by_cases k2 : k = 119
    · rw [if_pos k2]
      have ml := q_num_le (t := t) (len := len) (most := 4) (w := w1) (a := a1) yl.2.2
      refine ⟨ml.1, by dsimp only; omega, ml.2.2, rfl, fun h => ?_, fun j hj => ?_⟩
      · have hw := q_num_z h
        have := y0 hw
        refine ⟨by dsimp only; omega, ?_⟩
        dsimp only
        rw [pk_un (by omega), pk_us]
        exact hok hw
      · dsimp only
        rw [pk_un (by omega), pk_un (by omega)]
    · rw [if_neg k2]
      obtain ⟨m4, hm4⟩ : ∃ z : Nat, z = if k = 122 then 4 else 1 := ⟨_, rfl⟩
      obtain ⟨m1, hm1⟩ : ∃ z : Nat, z = if k = 122 then 1 else 4 := ⟨_, rfl⟩
      rw [← hm4, ← hm1]
      have ml := q_num_le (t := t) (len := len) (most := m4) (w := w1) (a := a1) yl.2.2
      have xl := q_skip_le (t := t) (len := len) (byt " ") ((q_num t len m4 w1 a1).1, (q_num t len m4 w1 a1).2.1) (by decide) ml.1 ml.2.2
      have rl := q_num_le (t := t) (len := len) (most := m1) (w := (q_skip t len (byt " ") ((q_num t len m4 w1 a1).1, (q_num t len m4 w1 a1).2.1)).1) (a := (q_skip t len (byt " ") ((q_num t len m4 w1 a1).1, (q_num t len m4 w1 a1).2.1)).2) xl.2.2
      have x2 := xl.2.1
      dsimp only at x2
      refine ⟨rl.1, by dsimp only; omega, rl.2.2, rfl, fun h => ?_, fun j hj => ?_⟩
      · have hw := q_num_z (q_skip_z (q_num_z h))
        have := y0 hw
        refine ⟨by dsimp only; omega, ?_⟩
        dsimp only
        rw [pk_un (by omega), pk_un (by omega), pk_us]
        exact hok hw
      · dsimp only
        rw [pk_un (by omega), pk_un (by omega), pk_un (by omega)]
/-- what the reading of commands keeps -/
def okC (len : Nat) (z : RK) : Prop := z.1 < 2 ∧ z.2.1 ≤ len ∧ (z.1 = 0 → z.2.2.1 ≤ z.2.1 ∧ ∀ i, i < z.2.2.1 → okK (z.2.2.2 (3 * i)))
theorem okC.cmd {t : Nat → Int32} {len : Nat} {a n : Nat} {c : Nat → Int32} (ha : a ≤ len) (hn : n ≤ a) (hc : ∀ i, i < n → okK (c (3 * i))) : okC len (q_cmd t len (0, a, n, c)) := by
  obtain ⟨h1, h2, h3, h4, h5, h6⟩ := q_cmd_ok (t := t) (n := n) (c := c) ha
  refine ⟨h1, h3, fun h => ?_⟩
  obtain ⟨g1, g2⟩ := h5 h
  refine ⟨by rw [h4]; omega, fun i hi => ?_⟩
  rw [h4] at hi
  by_cases e : i = n
  · rw [e]; exact g2
  · rw [h6 (3 * i) (by omega)]
    exact hc i (by omega)
theorem okC.cmds {t : Nat → Int32} {len : Nat} : ∀ (m : Nat) (z : RK), okC len z → okC len (q_cmds t len m z)
  | 0, _, h => h
  | m + 1, z, h => by
    unfold q_cmds
    by_cases e : z.1 = 0 ∧ r_beh t len z.2.1 = 59
    · rw [if_pos e]
      have hlt : z.2.1 < len := r_beh_lt (by rw [e.2]; decide)
      have g := h.2.2 e.1
      exact okC.cmds m _ (okC.cmd hlt (Nat.le_succ_of_le g.1) g.2)
    · rw [if_neg e]
      exact h
