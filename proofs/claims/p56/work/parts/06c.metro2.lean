/-! Metro, more words. -/
theorem gro_eq {ES : Nat → Prop} {H0 H1 H2 : Heap} (h : H1.size = H2.size) : gro ES H0 H1 = gro ES H0 H2 := by unfold gro; rw [h]
theorem gro_z {ES : Nat → Prop} {H0 H1 : Heap} (h : H1.size = H0.size) : gro ES H0 H1 = ES := by
  funext q
  unfold gro
  exact propext ⟨fun g => g.elim id (fun z => by omega), Or.inl⟩
theorem gro_tr {ES : Nat → Prop} {H0 H1 H2 : Heap} (h1 : H0.size ≤ H1.size) (h2 : H1.size ≤ H2.size) : gro (gro ES H0 H1) H1 H2 = gro ES H0 H2 := by
  funext q
  unfold gro
  exact propext ⟨fun g => g.elim (fun z => z.elim Or.inl (fun y => Or.inr ⟨y.1, by omega⟩)) (fun y => Or.inr ⟨by omega, y.2⟩), fun g => g.elim (fun z => Or.inl (Or.inl z)) (fun y => by
    by_cases h : q < H1.size
    · exact Or.inl (Or.inr ⟨y.1, h⟩)
    · exact Or.inr ⟨by omega, y.2⟩)⟩
def m_set (M : MS) (i : Nat) (κ : KS) (l : List (Int32 × Int32)) : MS := (M.1, M.2.1, M.2.2.1, va_up M.2.2.2.1 i κ, va_up M.2.2.2.2 i l)
theorem Mk.set {D : va_G} {kA : Nat → ClassId} {H H1 : Heap} {m i : Nat} {M : MS} {E : Nat → Option Nat} {ES : Nat → Prop} {κ : KS} {e : Option Nat} {l : List (Int32 × Int32)} (h : Mk D kA H m M E ES) (hi : i < 8) (o : off (blk (m_ca m i) 3) H H1) (hk : Cd D kA H1 (m_ca m i) κ e) (hc : Chn D H1 ES e l) : Mk D kA H1 m (m_set M i κ l) (va_up E i e) ES := by
  have hb : ∀ q, blk (m_ca m i) 3 q → blk m 29 q := fun q hq => ⟨by have := hq.1; unfold m_ca at this; omega, by have := hq.2; unfold m_ca at this; omega⟩
  refine ⟨⟨h.1.1.off o (fun e => by have := e.1; unfold m_ca at this; omega), h.1.2.1.off o (fun q hq e => by have := hq.2; have := e.1; unfold m_ca at *; omega), h.1.2.2.1.off o (fun e => by have := e.1; unfold m_ca at this; omega), fun j hj => ?_⟩, fun j hj => ?_, h.2.2⟩
  · by_cases z : j = i
    · subst z
      show Cd D kA H1 _ (va_up M.2.2.2.1 j κ j) (va_up E j e j)
      rw [show va_up M.2.2.2.1 j κ j = κ by simp [va_up], show va_up E j e j = e by simp [va_up]]
      exact hk
    · show Cd D kA H1 _ (va_up M.2.2.2.1 i κ j) (va_up E i e j)
      rw [show va_up M.2.2.2.1 i κ j = M.2.2.2.1 j by simp [va_up, z], show va_up E i e j = E j by simp [va_up, z]]
      exact (h.1.2.2.2 j hj).off o (fun q hq z => by have := hq.1; have := hq.2; have := z.1; have := z.2; unfold m_ca at *; omega)
  · by_cases z : j = i
    · subst z
      show Chn D H1 _ (va_up E j e j) (va_up M.2.2.2.2 j l j)
      rw [show va_up M.2.2.2.2 j l j = l by simp [va_up], show va_up E j e j = e by simp [va_up]]
      exact hc
    · show Chn D H1 _ (va_up E i e j) (va_up M.2.2.2.2 i l j)
      rw [show va_up M.2.2.2.2 i l j = M.2.2.2.2 j by simp [va_up, z], show va_up E i e j = E j by simp [va_up, z]]
      exact Chn.off o (fun q hq e => h.2.2 q hq (hb q e)) (h.2.1 j hj)
/-- a copy of M1 over M, the first n cards -/
def m_cp (M M1 : MS) : Nat → MS
  | 0 => M
  | n + 1 => m_set (m_cp M M1 n) n (M1.2.2.2.1 n) (M1.2.2.2.2 n)
def m_copy (M M1 : MS) (n : Nat) : MS := (M1.1, M1.2.1, M1.2.2.1, (m_cp M M1 n).2.2.2)
theorem m_cp_123 (M M1 : MS) : ∀ n, (m_cp M M1 n).1 = M.1 ∧ (m_cp M M1 n).2.1 = M.2.1 ∧ (m_cp M M1 n).2.2.1 = M.2.2.1
  | 0 => ⟨rfl, rfl, rfl⟩
  | n + 1 => m_cp_123 M M1 n
/-- the booleans are 0 or 1 -/
def k_ok (κ : KS) : Prop := ∀ j, (j = 0 ∨ j = 2 ∨ j = 7 ∨ j = 10) → (κ.1 j = 0 ∨ κ.1 j = 1)
def m_day (M : MS) (i : Nat) : Nat := ((M.2.2.2.1 i).1 4 + 180).toNatClampNeg / 1440
/-- the first n cards at the minute M.1 1: how many trips become incomplete, and what is then -/
def m_ps (M : MS) : Nat → Nat × MS
  | 0 => (0, M)
  | n + 1 => if ¬ ((m_ps M n).2.2.2.2.1 n).1 2 = 0 ∧ ¬ M.1 1 < ((m_ps M n).2.2.2.2.1 n).1 4 + 180 then ((m_ps M n).1 + 1, m_inc (m_ps M n).2 n (m_day M n)) else m_ps M n
theorem m_ps_keep (M : MS) : ∀ n, (m_ps M n).2.1 0 = M.1 0 ∧ (m_ps M n).2.1 1 = M.1 1 ∧ (m_ps M n).2.2.1 = M.2.1 ∧ (m_ps M n).2.1 7 = M.1 7 ∧ (m_ps M n).2.1 8 = M.1 8 ∧ (m_ps M n).1 ≤ n ∧ ∀ j, n ≤ j → (m_ps M n).2.2.2.2.1 j = M.2.2.2.1 j
  | 0 => ⟨rfl, rfl, rfl, rfl, rfl, Nat.le_refl _, fun _ _ => rfl⟩
  | n + 1 => by
    obtain ⟨h1, h2, h3, h4, h5, h6, h7⟩ := m_ps_keep M n
    unfold m_ps
    split
    · refine ⟨?_, ?_, ?_, ?_, ?_, ?_, fun j hj => ?_⟩
      · simpa [m_inc, m_g, m_book, m_card, upd] using h1
      · simpa [m_inc, m_g, m_book, m_card, upd] using h2
      · simpa [m_inc, m_g, m_book, m_card, upd] using h3
      · simpa [m_inc, m_g, m_book, m_card, upd] using h4
      · simpa [m_inc, m_g, m_book, m_card, upd] using h5
      · simp; omega
      · have := h7 j (by omega)
        simp [m_inc, m_g, m_book, m_card, va_up]
        rw [if_neg (by omega)]
        exact this
    · exact ⟨h1, h2, h3, h4, h5, by omega, fun j hj => h7 j (by omega)⟩
def m_pass (M : MS) (x : Int32) (n : Nat) : Nat × MS := m_ps (m_g M 1 (M.1 1 + x)) n
/-- card i is ahead of card j in the ranking by spending -/
def m_ah (M : MS) (d i j : Nat) : Int32 := if k_sumOf (M.2.2.2.1 i) d = k_sumOf (M.2.2.2.1 j) d then (if (M.2.2.2.1 i).1 1 = (M.2.2.2.1 j).1 1 then (if i < j then 1 else 0) else if (M.2.2.2.1 j).1 1 ≤ (M.2.2.2.1 i).1 1 then 0 else 1) else if k_sumOf (M.2.2.2.1 i) d ≤ k_sumOf (M.2.2.2.1 j) d then 0 else 1
def m_rk (M : MS) (d i : Nat) : Nat → Nat
  | 0 => 0
  | n + 1 => if m_ah M d n i = 0 then m_rk M d i n else m_rk M d i n + 1
theorem m_rk_le (M : MS) (d i : Nat) : ∀ n, m_rk M d i n ≤ n
  | 0 => Nat.le_refl 0
  | n + 1 => by
    have h := m_rk_le M d i n
    unfold m_rk
    split <;> omega
def m_bal (M : MS) : Nat → Int32
  | 0 => 0
  | n + 1 => m_bal M n + (M.2.2.2.1 n).1 1
