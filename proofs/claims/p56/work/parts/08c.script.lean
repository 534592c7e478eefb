/-! The reference's script reader; what its row stays. -/
def r_beh (t : Nat → Int32) (len a : Nat) : Int32 := if a < len then t a else -1
def r_rd (F : Nat → Int32) (w a n : Nat) : Nat → Int32 := fun j => if j = 12 then nI w else if j = 11 then nI a else if j = 16 then nI n else F j
theorem rd12 {F : Nat → Int32} {w a n w' : Nat} : upd (r_rd F w a n) 12 (nI w') = r_rd F w' a n := by
  funext j
  unfold upd r_rd
  by_cases h : j = 12 <;> simp [h]
theorem rd11 {F : Nat → Int32} {w a n a' : Nat} : upd (r_rd F w a n) 11 (nI a') = r_rd F w a' n := by
  funext j
  unfold upd r_rd
  by_cases h : j = 11
  · subst h; simp
  · simp [h]
theorem rd16 {F : Nat → Int32} {w a n n' : Nat} : upd (r_rd F w a n) 16 (nI n') = r_rd F w a n' := by
  funext j
  unfold upd r_rd
  by_cases h : j = 16
  · subst h; simp
  · simp [h]
def q_skip (t : Nat → Int32) (len : Nat) : List Int32 → Nat × Nat → Nat × Nat
  | [], z => z
  | x :: L, z => if ¬ z.1 = 0 then z else if r_beh t len z.2 = x then q_skip t len L (0, z.2 + 1) else (1, z.2)
def q_digs (t : Nat → Int32) (len : Nat) : Nat → Nat × Int32 → Nat × Int32
  | 0, z => z
  | m + 1, z => if r_in (r_beh t len z.1) 48 57 = 0 then z else q_digs t len m (z.1 + 1, 10 * z.2 + t z.1 - 48)
def q_num (t : Nat → Int32) (len most : Nat) (w a : Nat) : Nat × Nat × Int32 :=
  if ¬ w = 0 then (1, a, 0) else if r_in (r_beh t len a) 48 57 = 0 then (1, a, 0) else (0, q_digs t len most (a, 0))
abbrev RK : Type := Nat × Nat × Nat × (Nat → Int32)
/-- the word of a kind -/
def r_word (k : Int32) : String := if k = 99 then "card " else if k = 119 then "wait " else if k = 108 then "load " else if k = 105 then "in " else if k = 111 then "out " else if k = 102 then "fix " else "zone "
def q_cmd (t : Nat → Int32) (len : Nat) (z : RK) : RK :=
  if ¬ z.1 = 0 then z else
  let k := r_beh t len z.2.1
  let n := z.2.2.1
  let c := upd z.2.2.2 (3 * n) k
  let y := q_skip t len (byt (r_word k)) (0, z.2.1)
  if k = 99 then
    let b := r_beh t len y.2
    let w := if ¬ y.1 = 0 then 1 else if b = 114 then 0 else if b = 102 then 0 else 1
    (w, (if w = 0 then y.2 + 1 else y.2), n + 1, upd c (3 * n + 1) (if b = 114 then 1 else 0))
  else if k = 119 then
    let m := q_num t len 4 y.1 y.2
    (m.1, m.2.1, n + 1, upd c (3 * n + 1) m.2.2)
  else
    let m := q_num t len (if k = 122 then 4 else 1) y.1 y.2
    let x := q_skip t len (byt " ") (m.1, m.2.1)
    let r := q_num t len (if k = 122 then 1 else 4) x.1 x.2
    (r.1, r.2.1, n + 1, upd (upd c (3 * n + 1) m.2.2) (3 * n + 2) r.2.2)
def q_cmds (t : Nat → Int32) (len : Nat) : Nat → RK → RK
  | 0, z => z
  | m + 1, z => if z.1 = 0 ∧ r_beh t len z.2.1 = 59 then q_cmds t len m (q_cmd t len (0, z.2.1 + 1, z.2.2)) else z
theorem r_beh_lt {t : Nat → Int32} {len a : Nat} (h : ¬ r_beh t len a = -1) : a < len := Nat.not_le.mp fun q => h (if_neg (by omega))
theorem q_digs_le {t : Nat → Int32} {len : Nat} : ∀ (m : Nat) (z : Nat × Int32), z.1 ≤ len → z.1 ≤ (q_digs t len m z).1 ∧ (q_digs t len m z).1 ≤ len
  | 0, z, h => ⟨Nat.le_refl _, h⟩
  | m + 1, z, h => by
    unfold q_digs
    split
    · exact ⟨Nat.le_refl _, h⟩
    · rename_i g
      have hlt : z.1 < len := r_beh_lt fun q => g (by rw [q]; decide)
      have := q_digs_le (t := t) m (z.1 + 1, 10 * z.2 + t z.1 - 48) hlt
      exact ⟨by have := this.1; dsimp only at this; omega, this.2⟩
theorem q_num_le {t : Nat → Int32} {len most w a : Nat} (ha : a ≤ len) : (q_num t len most w a).1 < 2 ∧ a ≤ (q_num t len most w a).2.1 ∧ (q_num t len most w a).2.1 ≤ len := by
  unfold q_num
  split
  · exact ⟨(by show 1 < 2; decide), Nat.le_refl _, ha⟩
  · split
    · exact ⟨(by show 1 < 2; decide), Nat.le_refl _, ha⟩
    · exact ⟨(by show 0 < 2; decide), q_digs_le most (a, 0) ha⟩
theorem q_skip_le {t : Nat → Int32} {len : Nat} : ∀ (L : List Int32) (z : Nat × Nat), (∀ x ∈ L, ¬ x = -1) → z.1 < 2 → z.2 ≤ len → (q_skip t len L z).1 < 2 ∧ z.2 ≤ (q_skip t len L z).2 ∧ (q_skip t len L z).2 ≤ len
  | [], z, _, h1, h2 => ⟨h1, Nat.le_refl _, h2⟩
  | x :: L, z, hL, h1, h2 => by
    unfold q_skip
    split
    · exact ⟨h1, Nat.le_refl _, h2⟩
    · split
      · rename_i g
        have hlt : z.2 < len := r_beh_lt (by rw [g]; exact hL x List.mem_cons_self)
        have := q_skip_le (t := t) L (0, z.2 + 1) (fun y hy => hL y (List.mem_cons_of_mem _ hy)) (by show 0 < 2; decide) hlt
        exact ⟨this.1, by have := this.2.1; dsimp only at this; omega, this.2.2⟩
      · exact ⟨by show 1 < 2; decide, Nat.le_refl _, h2⟩
/-- the row stays what it must be -/
theorem RI.cell {s : Nat → Int32} {n t i w : Nat} {x : Int32} (h : RI s n t) (hw : w < 17) (h2 : w = 2 → x < 0 ∨ ∃ j, j < 12 ∧ x = nI j) (h4 : w = 4 → ∃ j, j < 12 ∧ x = nI j) (h8 : w = 8 → x < 0 ∨ ∃ j, j < 12 ∧ x = nI j) (h9 : w = 9 → ∃ e, e < 2 ^ 30 ∧ x = nI e) : RI (rw_ s i w x) n t := by
  obtain ⟨a, b, c, d, g⟩ := h
  refine ⟨by rw [rw_lo (by decide)]; exact a, b, by rw [rw_lo (by decide)]; exact c, d, fun j hj => ?_⟩
  obtain ⟨g1, g2, g3, g4⟩ := g j hj
  rw [ro_rw hw (by decide), ro_rw hw (by decide), ro_rw hw (by decide), ro_rw hw (by decide)]
  refine ⟨?_, ?_, ?_, ?_⟩
  · by_cases e : j = i ∧ 2 = w
    · rw [if_pos e]; exact h2 e.2.symm
    · rw [if_neg e]; exact g1
  · by_cases e : j = i ∧ 4 = w
    · rw [if_pos e]; exact h4 e.2.symm
    · rw [if_neg e]; exact g2
  · by_cases e : j = i ∧ 8 = w
    · rw [if_pos e]; exact h8 e.2.symm
    · rw [if_neg e]; exact g3
  · by_cases e : j = i ∧ 9 = w
    · rw [if_pos e]; exact h9 e.2.symm
    · rw [if_neg e]; exact g4
theorem RI.low {s : Nat → Int32} {n t k : Nat} {x : Int32} (h : RI s n t) (h0 : k ≠ 0) (h1 : k ≠ 1) (hk : k < 33) : RI (upd s k x) n t := by
  obtain ⟨a, b, c, d, g⟩ := h
  refine ⟨by rw [pk_un (Ne.symm h0)]; exact a, b, by rw [pk_un (Ne.symm h1)]; exact c, d, fun j hj => ?_⟩
  rw [ro_up hk, ro_up hk, ro_up hk, ro_up hk]
  exact g j hj
theorem RI.add {s : Nat → Int32} {n t i d : Nat} {x : Int32} (h : RI s n t) : RI (r_add s i d x) n t := by
  have hd : d % 3 < 3 := Nat.mod_lt _ (by decide)
  unfold r_add
  exact (h.cell (by omega) (by omega) (by omega) (by omega) (by omega)).cell (by omega) (by omega) (by omega) (by omega) (by omega)
theorem RI.pay {s : Nat → Int32} {n t i d : Nat} {c : Int32} (h : RI s n t) : RI (r_pay s i d c) n t := by
  unfold r_pay
  exact (h.add.cell (by decide) (fun q => absurd q (by decide)) (fun q => absurd q (by decide)) (fun q => absurd q (by decide)) (fun q => absurd q (by decide))).low (by decide) (by decide) (by decide)
theorem RI.clr {s : Nat → Int32} {n t i : Nat} (h : RI s n t) : ∀ w, w ≤ 17 → RI (r_clr s i w) n t
  | 0, _ => h
  | w + 1, hw => (RI.clr h w (by omega)).cell (by omega) (fun _ => Or.inr ⟨0, by decide, rfl⟩) (fun _ => ⟨0, by decide, rfl⟩) (fun _ => Or.inr ⟨0, by decide, rfl⟩) (fun _ => ⟨0, by decide, rfl⟩)
theorem RI.st {s : Nat → Int32} {n t w : Nat} (h : RI s n t) (hw : w < 12) : RI (q_st s w) n t := h.low (by omega) (by omega) (by omega)
theorem RI.issue {s : Nat → Int32} {n t : Nat} {r : Int32} (h : RI s n t) (hz : (q_issue s r).1 = 0) : n < 8 ∧ RI (q_issue s r).2.2 (n + 1) t := by
  unfold q_issue at hz ⊢
  by_cases e : s 0 = 8
  · rw [if_pos e] at hz; exact absurd hz (by show ¬ 1 = 0; decide)
  · rw [if_neg e]
    have hn : n < 8 := by
      have := h.2.1
      by_cases q : n = 8
      · exact absurd (by rw [h.1, q]; rfl) e
      · omega
    refine ⟨hn, ?_⟩
    dsimp only
    obtain ⟨a, b, c, d, g⟩ := ((((h.clr (i := (s 0).toNatClampNeg) 17 (Nat.le_refl _)).cell (i := (s 0).toNatClampNeg) (w := 0) (x := if r = 0 then 0 else 1) (by decide) (fun q => absurd q (by decide)) (fun q => absurd q (by decide)) (fun q => absurd q (by decide)) (fun q => absurd q (by decide))).cell (i := (s 0).toNatClampNeg) (w := 2) (x := -1) (by decide) (fun _ => Or.inl (by decide)) (fun q => absurd q (by decide)) (fun q => absurd q (by decide)) (fun q => absurd q (by decide))).cell (i := (s 0).toNatClampNeg) (w := 6) (x := -1) (by decide) (fun q => absurd q (by decide)) (fun q => absurd q (by decide)) (fun q => absurd q (by decide)) (fun q => absurd q (by decide))).cell (i := (s 0).toNatClampNeg) (w := 8) (x := -1) (by decide) (fun q => absurd q (by decide)) (fun q => absurd q (by decide)) (fun _ => Or.inl (by decide)) (fun q => absurd q (by decide))
    refine ⟨by rw [pk_us, a, nI_1], hn, by rw [pk_un (by decide)]; exact c, d, fun j hj => ?_⟩
    rw [ro_up (by decide), ro_up (by decide), ro_up (by decide), ro_up (by decide)]
    exact g j hj
theorem RI.load {s : Nat → Int32} {n t : Nat} {x y : Int32} (h : RI s n t) : RI (q_load s x y).2.2 n t := by
  unfold q_load
  dsimp only
  (repeat' split) <;> first | exact h | (show RI (upd (rw_ s _ 1 _) 4 _) n t; exact (h.cell (w := 1) (by decide) (fun q => absurd q (by decide)) (fun q => absurd q (by decide)) (fun q => absurd q (by decide)) (fun q => absurd q (by decide))).low (by decide) (by decide) (by decide))
theorem RI.zone {s : Nat → Int32} {n t : Nat} {x y : Int32} (h : RI s n t) : RI (q_zone s x y).2.2 n t := by
  unfold q_zone
  by_cases e : r_in x 0 11 = 0
  · rw [if_pos e]; exact h
  · rw [if_neg e]
    split
    · exact h
    · obtain ⟨w, hw, rfl⟩ := r_in_st e
      show RI (upd s (9 + (nI w).toNatClampNeg) y) n t
      rw [nI_clamp (by omega)]
      exact h.low (by omega) (by omega) (by omega)
theorem RI.tin {s : Nat → Int32} {n t : Nat} {x y : Int32} (h : RI s n t) : RI (q_in s (t / 1440) x y).2.2 n t := by
  unfold q_in
  by_cases e1 : r_in x 0 (s 0 - 1) = 0
  · rw [if_pos e1]; exact h
  · rw [if_neg e1]
    by_cases e2 : r_in y 0 11 = 0
    · rw [if_pos e2]; exact h
    · rw [if_neg e2]
      dsimp only
      by_cases e3 : -500 ≤ ro s x.toNatClampNeg 1
      · rw [if_neg (not_not_intro e3)]
        obtain ⟨i, hi, rfl⟩ := r_in_ca h.1 h.2.1 e1
        obtain ⟨w, hw, rfl⟩ := r_in_st e2
        have h8 := h.2.1
        rw [nI_clamp (n := i) (by omega), nI_clamp (n := w) (by omega)]
        have ha : RI (if ro s i 2 < 0 then s else r_loses s i (t / 1440)) n t := by
          split
          · exact h
          · exact h.loses (by omega)
        have hb : RI (if r_cont s i (nI w) = 0 then rw_ (rw_ (if ro s i 2 < 0 then s else r_loses s i (t / 1440)) i 4 (nI w)) i 5 0 else (if ro s i 2 < 0 then s else r_loses s i (t / 1440))) n t := by
          split
          · exact (ha.cell (by decide) (fun q => absurd q (by decide)) (fun _ => ⟨w, hw, rfl⟩) (fun q => absurd q (by decide)) (fun q => absurd q (by decide))).cell (by decide) (fun q => absurd q (by decide)) (fun q => absurd q (by decide)) (fun q => absurd q (by decide)) (fun q => absurd q (by decide))
          · exact ha
        exact ((hb.cell (by decide) (fun _ => Or.inr ⟨w, hw, rfl⟩) (fun q => absurd q (by decide)) (fun q => absurd q (by decide)) (fun q => absurd q (by decide))).cell (by decide) (fun q => absurd q (by decide)) (fun q => absurd q (by decide)) (fun q => absurd q (by decide)) (fun q => absurd q (by decide))).st hw
      · rw [if_pos e3]; exact h
theorem RI.tout {s : Nat → Int32} {n t : Nat} {x y : Int32} (h : RI s n t) : RI (q_out s (t / 1440) x y).2.2 n t := by
  unfold q_out
  by_cases e1 : r_in x 0 (s 0 - 1) = 0
  · rw [if_pos e1]; exact h
  · rw [if_neg e1]
    by_cases e2 : r_in y 0 11 = 0
    · rw [if_pos e2]; exact h
    · rw [if_neg e2]
      dsimp only
      split
      · exact h
      · obtain ⟨w, hw, rfl⟩ := r_in_st e2
        rw [nI_clamp (n := w) (by omega)]
        exact (((((h.pay.cell (by decide) (fun q => absurd q (by decide)) (fun q => absurd q (by decide)) (fun q => absurd q (by decide)) (fun q => absurd q (by decide))).cell (by decide) (fun _ => Or.inl (by decide)) (fun q => absurd q (by decide)) (fun q => absurd q (by decide)) (fun q => absurd q (by decide))).cell (by decide) (fun q => absurd q (by decide)) (fun q => absurd q (by decide)) (fun q => absurd q (by decide)) (fun q => absurd q (by decide))).cell (by decide) (fun q => absurd q (by decide)) (fun q => absurd q (by decide)) (fun q => absurd q (by decide)) (fun q => absurd q (by decide))).low (by decide) (by decide) (by decide)).st hw
theorem RI.fix {s : Nat → Int32} {n t : Nat} {x y : Int32} (h : RI s n t) : RI (q_fix s (t / 1440) x y).2.2 n t := by
  unfold q_fix
  dsimp only
  (repeat' split) <;> first | exact h | (show RI (upd (rw_ (rw_ (r_add s _ _ _) _ 1 _) _ 8 _) 6 _) n t; exact ((h.add.cell (w := 1) (by decide) (fun q => absurd q (by decide)) (fun q => absurd q (by decide)) (fun q => absurd q (by decide)) (fun q => absurd q (by decide))).cell (w := 8) (by decide) (fun q => absurd q (by decide)) (fun q => absurd q (by decide)) (fun _ => Or.inl (by decide)) (fun q => absurd q (by decide))).low (by decide) (by decide) (by decide))
theorem RI.wait {s : Nat → Int32} {n t : Nat} {x : Int32} (h : RI s n t) (ht : t + 2000 < 2 ^ 30) : ∃ t', t' ≤ t + 2000 ∧ RI (q_wait s n t x).2.2 n t' := by
  unfold q_wait
  by_cases e : r_in x 1 2000 = 0
  · rw [if_pos e]; exact ⟨t, by omega, h⟩
  · rw [if_neg e]
    obtain ⟨m, h1, h2, rfl⟩ := r_in_gen (a := 1) (n := 2000) (by decide) (by decide) e
    rw [nI_clamp (by omega)]
    exact ⟨t + m, by omega, h.adv m (by omega)⟩
def q_do (s : Nat → Int32) (n t : Nat) (k x y : Int32) : Q6 :=
  if k = 99 then q_issue s (if x = 1 then 1 else 0) else if k = 119 then q_wait s n t x else if k = 108 then q_load s x y else if k = 105 then q_in s (t / 1440) x y else if k = 111 then q_out s (t / 1440) x y else if k = 102 then q_fix s (t / 1440) x y else q_zone s x y
theorem RI.do {s : Nat → Int32} {n t : Nat} {k x y : Int32} (h : RI s n t) (ht : t + 2000 < 2 ^ 30) (hz : (q_do s n t k x y).1 = 0) : ∃ n' t', t' ≤ t + 2000 ∧ RI (q_do s n t k x y).2.2 n' t' := by
  unfold q_do at hz ⊢
  by_cases h1 : k = 99
  · rw [if_pos h1] at hz ⊢; exact ⟨n + 1, t, by omega, (h.issue hz).2⟩
  · rw [if_neg h1] at hz ⊢
    by_cases h2 : k = 119
    · rw [if_pos h2]; obtain ⟨t', a, b⟩ := h.wait (x := x) ht; exact ⟨n, t', a, b⟩
    · rw [if_neg h2]
      refine ⟨n, t, by omega, ?_⟩
      (repeat' split) <;> first | exact h.load | exact h.tin | exact h.tout | exact h.fix | exact h.zone
