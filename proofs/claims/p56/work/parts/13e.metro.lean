/-! The class's Metro and the reference's row. -/
theorem SC.row {κ : KS} {L : List (Int32 × Int32)} {r r' : Nat → Int32} {t : Nat} (h : SC κ L r t) (e : ∀ w, w < 17 → r' w = r w) : SC κ L r' t := by
  obtain ⟨h1, h2, h3, h4, h5, h6, h7, h8, h9⟩ := h
  refine ⟨h1, by rw [e 0 (by decide)]; exact h2, by rw [e 1 (by decide)]; exact h3, ?_, ?_, ?_, ?_, ?_, h9⟩
  · rw [e 2 (by decide), e 3 (by decide)]; exact h4
  · rw [e 4 (by decide), e 5 (by decide)]; exact h5
  · rw [e 6 (by decide), e 7 (by decide)]; exact h6
  · rw [e 8 (by decide), e 9 (by decide), e 10 (by decide)]; exact h7
  · intro q hq
    rw [e (14 + q) (by omega), e (11 + q) (by omega)]
    exact h8 q hq
theorem RI.losesd {s : Nat → Int32} {n t i e : Nat} (h : RI s n t) (hi : i < 8) (he : e < 2 ^ 30) : RI (r_loses s i e) n t := by
  obtain ⟨a, b, c, d, g⟩ := h
  refine ⟨by rw [r_loses_lo (by decide) (by decide) (by decide)]; exact a, b, by rw [r_loses_lo (by decide) (by decide) (by decide)]; exact c, d, fun j hj => ?_⟩
  obtain ⟨g1, g2, g3, g4⟩ := g j hj
  by_cases ej : j = i
  · subst ej
    rw [ro_loses_i (by decide), ro_loses_i (by decide), ro_loses_i (by decide), ro_loses_i (by decide)]
    refine ⟨Or.inl (show (-1 : Int32) < 0 by decide), ?_, g1, ⟨e, he, rfl⟩⟩
    show ∃ k, k < 12 ∧ rp (ro s j) e (r_lossX s j e) 4 = nI k
    rw [rp_lo (by decide) (by decide)]
    exact g2
  · rw [ro_loses_n (by decide) ej, ro_loses_n (by decide) ej, ro_loses_n (by decide) ej, ro_loses_n (by decide) ej]
    exact ⟨g1, g2, g3, g4⟩
theorem i_alg1 (a b c : Int32) : a + b - b + c = a + c := by grind
theorem i_alg2 (a b c d : Int32) : a - b + c + d = a + d - b + c := by grind
theorem m_bal_c {M M' : MS} : ∀ n, (∀ j, j < n → (M'.2.2.2.1 j).1 1 = (M.2.2.2.1 j).1 1) → m_bal M' n = m_bal M n
  | 0, _ => rfl
  | n + 1, h => by
    show m_bal M' n + _ = m_bal M n + _
    rw [m_bal_c n (fun j hj => h j (by omega)), h n (by omega)]
theorem m_bal_up {M M' : MS} {i : Nat} : ∀ n, i < n → (∀ j, j ≠ i → (M'.2.2.2.1 j).1 1 = (M.2.2.2.1 j).1 1) → m_bal M' n = m_bal M n - (M.2.2.2.1 i).1 1 + (M'.2.2.2.1 i).1 1
  | 0, h, _ => absurd h (Nat.not_lt_zero i)
  | n + 1, h, g => by
    show m_bal M' n + (M'.2.2.2.1 n).1 1 = m_bal M n + (M.2.2.2.1 n).1 1 - _ + _
    rcases Nat.lt_succ_iff_lt_or_eq.mp h with e | e
    · rw [m_bal_up n e g, g n (by omega), i_alg2]
    · subst e
      rw [m_bal_c (M := M) i (fun j hj => g j (by omega)), i_alg1]
def Sg (M : MS) (s : Nat → Int32) : Prop := M.1 0 = s 0 ∧ M.1 1 = s 1 ∧ M.1 2 = s 4 ∧ M.1 3 = s 5 ∧ M.1 4 = s 6 ∧ M.1 5 = s 7 ∧ M.1 6 = s 8 ∧ M.1 7 = s 2 ∧ M.1 8 = s 3
def Sf (s : Nat → Int32) : Prop := ∃ b p : Nat, b ≤ 999 ∧ p ≤ 99 ∧ s 2 = nI b ∧ s 3 = nI p
def Sz (M : MS) (s : Nat → Int32) : Prop := ∀ w, w < 12 → M.2.1 w = s (9 + w) ∧ ∃ z : Nat, 1 ≤ z ∧ z ≤ 6 ∧ s (9 + w) = nI z
def St (M : MS) (s : Nat → Int32) (T : Nat) : Prop := ∀ w, w < 12 → M.2.2.1 w = s (21 + w) ∧ ∃ c : Nat, c ≤ T ∧ s (21 + w) = nI c
def Sb9 (s : Nat → Int32) (A B C : Nat) : Prop := ∃ a b c : Nat, a ≤ A ∧ s 5 = nI a ∧ b ≤ B ∧ s 7 = nI b ∧ c ≤ C ∧ s 8 = nI c
def Sc (M : MS) (s : Nat → Int32) (n t : Nat) : Prop := ∀ i, i < n → SC (M.2.2.2.1 i) (M.2.2.2.2 i) (ro s i) t ∧ SP (M.2.2.2.1 i) t ∧ SB (M.2.2.2.1 i)
/-- the Metro is as the row says (whether trips have ended is left open) -/
def Sw (M : MS) (s : Nat → Int32) (n t A B C T : Nat) : Prop := RI s n t ∧ Sg M s ∧ Sf s ∧ Sz M s ∧ St M s T ∧ Sb9 s A B C ∧ m_bal M n = M.1 2 - M.1 3 + M.1 4 ∧ Sc M s n t
def SS (M : MS) (s : Nat → Int32) (n t A B C T : Nat) : Prop := Sw M s n t A B C T ∧ ∀ i, i < n → SA (M.2.2.2.1 i) t
section MET
variable {M : MS} {s : Nat → Int32} {n t A B C T i d : Nat}
theorem Sw.zo (h : Sw M s n t A B C T) : ZO M.2.1 := fun w hw => by
  obtain ⟨a, z, z1, z2, e⟩ := h.2.2.2.1 w hw
  exact ⟨z, z1, z2, a.trans e⟩
theorem Sw.zn (h : Sw M s n t A B C T) {f g : Nat} (hf : f < 12) (hg : g < 12) : r_zones s f g = ln_cnt M.2.1 f g := r_zones_eq h.zo (fun w hw => (h.2.2.2.1 w hw).1) hf hg
theorem Sw.price (h : Sw M s n t A B C T) {f g : Nat} (hf : f < 12) (hg : g < 12) : r_price s f g = ln_fare M.2.1 (M.1 7) (M.1 8) f g := by
  obtain ⟨-, -, -, -, -, -, -, e7, e8⟩ := h.2.1
  unfold r_price ln_fare
  rw [h.zn hf hg, e7, e8]
theorem Sw.fare (h : Sw M s n t A B C T) {f g : Nat} (hf : f < 12) (hg : g < 12) : ∃ v : Nat, v ≤ 1494 ∧ ln_fare M.2.1 (M.1 7) (M.1 8) f g = nI v := by
  obtain ⟨-, -, -, -, -, -, -, e7, e8⟩ := h.2.1
  obtain ⟨b, p, hb, hp, e2, e3⟩ := h.2.2.1
  rw [e7, e8, e2, e3]
  exact fare_b h.zo hb hp hf hg
theorem Sw.dflt (h : Sw M s n t A B C T) : ∃ v : Nat, v ≤ 1494 ∧ M.1 7 + 5 * M.1 8 = nI v := by
  obtain ⟨-, -, -, -, -, -, -, e7, e8⟩ := h.2.1
  obtain ⟨b, p, hb, hp, e2, e3⟩ := h.2.2.1
  refine ⟨b + 5 * p, by omega, ?_⟩
  rw [e7, e8, e2, e3, show (5 : Int32) = nI 5 from rfl, pk_mul, nI_add]
theorem Sw.day (h : Sw M s n t A B C T) : M.1 1 / 1440 = nI (t / 1440) := by rw [h.2.1.2.1]; exact h.1.day
theorem Sw.t30 (h : Sw M s n t A B C T) : t < 2 ^ 30 := h.1.2.2.2.1
theorem r_paid_eq {κ : KS} {L : List (Int32 × Int32)} (h : SC κ L (ro s i) t) (x : Int32) : r_paid s i x = k_price κ x := by
  unfold r_paid k_price
  rw [h.e0]
  rcases h.z0 with e | e
  · rw [e, if_neg (by decide), if_pos rfl]
  · rw [e, if_pos rfl, if_neg (by decide)]
theorem r_sum_eq {κ : KS} {L : List (Int32 × Int32)} (h : SC κ L (ro s i) t) (hd : d < 2 ^ 31) : r_sum s i d = k_sumOf κ d := (h.sum hd).symm
theorem r_cap_eq {κ : KS} {L : List (Int32 × Int32)} (h : SC κ L (ro s i) t) : r_cap s i = k_cap κ := by
  unfold r_cap k_cap
  rw [h.e0]
  rcases h.z0 with e | e
  · rw [e, if_neg (by decide), if_pos rfl]
  · rw [e, if_pos rfl, if_neg (by decide)]
theorem r_left_eq {κ : KS} {L : List (Int32 × Int32)} (h : SC κ L (ro s i) t) (hd : d < 2 ^ 31) : r_left s i d = k_left κ d := by
  unfold r_left k_left
  rw [r_cap_eq h, r_sum_eq h hd]
theorem r_chg_eq {κ : KS} {L : List (Int32 × Int32)} (h : SC κ L (ro s i) t) (hd : d < 2 ^ 31) (P : Int32) : r_chg s i d P = k_min κ d P := by
  unfold r_chg k_min r_min
  rw [r_left_eq h hd]
theorem lossX_eq (h : Sw M s n t A B C T) (hi : i < n) (hd : d < 2 ^ 31) : r_lossX s i d = m_incX M i d ∧ ∃ u : Nat, u ≤ 2000 ∧ m_incX M i d = k_min (M.2.2.2.1 i) d (nI u) := by
  obtain ⟨hc, -, -⟩ := h.2.2.2.2.2.2.2 i hi
  obtain ⟨v, hv, ev⟩ := h.dflt
  obtain ⟨u, hu, eu⟩ := price_b (κ := M.2.2.2.1 i) (v := v) (by omega)
  obtain ⟨-, -, -, -, -, -, -, e7, e8⟩ := h.2.1
  have e : m_incX M i d = k_min (M.2.2.2.1 i) d (nI u) := by
    show k_min (M.2.2.2.1 i) d (k_price (M.2.2.2.1 i) (M.1 7 + 5 * M.1 8)) = _
    rw [ev, eu]
  refine ⟨?_, u, hu, e⟩
  unfold r_lossX
  rw [r_chg_eq hc hd, r_paid_eq hc, ← e7, ← e8]
  rfl
theorem i_alg3 (a b c d x : Int32) (h : a = b - c + d) : a + (-x) = b - (c + x) + d := by subst h; grind
theorem i_alg4 (a c x : Int32) : a - c + (c - x) = a + -x := by grind
/-- one card's trip becomes incomplete -/
theorem Sw.inc (h : Sw M s n t A B C T) (hi : i < n) (h2t : (M.2.2.2.1 i).1 2 = 1) (h1 : t / 1440 - 2 ≤ d) (h2 : d ≤ t / 1440) : Sw (m_inc M i d) (r_loses s i d) n t (A + 700) B (C + 1) T ∧ ((m_inc M i d).2.2.2.1 i).1 2 = 0 ∧ ∀ j, j ≠ i → (m_inc M i d).2.2.2.1 j = M.2.2.2.1 j := by
  have h30 := h.t30
  have hn8 : n ≤ 8 := h.1.2.1
  obtain ⟨eX, u, hu, eu⟩ := lossX_eq h hi (d := d) (by omega)
  obtain ⟨hc, hp, hb⟩ := h.2.2.2.2.2.2.2 i hi
  obtain ⟨x0, x7, y1, y2⟩ := k_min_b hc h1 h2 (P := nI u) (by rw [nI_toInt (by omega)]; omega)
  rw [← eu] at x0 x7 y1 y2
  obtain ⟨k1, k2, k3, k4⟩ := SK.brk hc hp hb h1 h2 h30 h2t x0 x7 y1 y2
  obtain ⟨g0, g1, g2, g3, g4, g5, g6, g7, g8⟩ := h.2.1
  obtain ⟨a, b, c, ha, e5, hb9, e7, hc9, e8⟩ := h.2.2.2.2.2.1
  have hcard : ∀ j, j ≠ i → (m_inc M i d).2.2.2.1 j = M.2.2.2.1 j := fun j hj => vu_ne hj
  have hcard2 : ∀ j, j ≠ i → (m_inc M i d).2.2.2.2 j = M.2.2.2.2 j := fun j hj => vu_ne hj
  have hci : (m_inc M i d).2.2.2.1 i = k_break (k_enter (M.2.2.2.1 i) d (m_incX M i d)) (nI d) (m_incX M i d) := vu_eq
  have hcl : (m_inc M i d).2.2.2.2 i = (nI d, m_incX M i d) :: M.2.2.2.2 i := vu_eq
  obtain ⟨xc, hxc, ex⟩ := nI_of (x := m_incX M i d) (by rw [Int32.lt_iff_toInt_lt, i_zero]; omega)
  rw [ex, nI_toInt hxc] at x7
  refine ⟨⟨h.1.losesd (by omega) (by omega), ⟨?_, ?_, ?_, ?_, ?_, ?_, ?_, ?_, ?_⟩, ?_, ?_, ?_, ?_, ?_, ?_⟩, by rw [hci]; rfl, hcard⟩
  · rw [r_loses_lo (by decide) (by decide) (by decide)]; exact g0
  · rw [r_loses_lo (by decide) (by decide) (by decide)]; exact g1
  · rw [r_loses_lo (by decide) (by decide) (by decide)]; exact g2
  · rw [r_loses_5, eX, ← g3]; rfl
  · rw [r_loses_lo (by decide) (by decide) (by decide)]; exact g4
  · rw [r_loses_lo (by decide) (by decide) (by decide)]; exact g5
  · rw [r_loses_8, ← g6]; rfl
  · rw [r_loses_lo (by decide) (by decide) (by decide)]; exact g7
  · rw [r_loses_lo (by decide) (by decide) (by decide)]; exact g8
  · obtain ⟨b', p', f1, f2, f3, f4⟩ := h.2.2.1
    exact ⟨b', p', f1, f2, by rw [r_loses_lo (by decide) (by decide) (by decide)]; exact f3, by rw [r_loses_lo (by decide) (by decide) (by decide)]; exact f4⟩
  · intro w hw
    rw [r_loses_lo (by omega) (by omega) (by omega)]
    exact h.2.2.2.1 w hw
  · intro w hw
    rw [r_loses_lo (by omega) (by omega) (by omega)]
    exact h.2.2.2.2.1 w hw
  · exact ⟨a + xc, b, c + 1, by omega, by rw [r_loses_5, eX, e5, ex, nI_add], hb9, by rw [r_loses_lo (by decide) (by decide) (by decide)]; exact e7, by omega, by rw [r_loses_8, e8, nI_1]⟩
  · rw [m_bal_up (M := M) (i := i) n hi (fun j hj => by rw [hcard j hj]), hci]
    show m_bal M n - (M.2.2.2.1 i).1 1 + ((M.2.2.2.1 i).1 1 - m_incX M i d) = M.1 2 - (M.1 3 + m_incX M i d) + M.1 4
    rw [i_alg4]
    exact i_alg3 _ _ _ _ _ h.2.2.2.2.2.2.1
  · intro j hj
    by_cases e : j = i
    · subst e
      rw [hci, hcl]
      exact ⟨k1.row (fun w hw => by rw [ro_loses_i hw, eX]), k2, k3⟩
    · rw [hcard j e, hcard2 j e]
      obtain ⟨q1, q2, q3⟩ := h.2.2.2.2.2.2.2 j hj
      exact ⟨q1.row (fun w hw => ro_loses_n hw e), q2, q3⟩
theorem Sw.more {A' B' C' T' : Nat} (h : Sw M s n t A B C T) (hA : A ≤ A') (hB : B ≤ B') (hC : C ≤ C') (hT : T ≤ T') : Sw M s n t A' B' C' T' := by
  obtain ⟨h1, h2, h3, h4, h5, ⟨a, b, c, ha, e5, hb9, e7, hc9, e8⟩, h7⟩ := h
  exact ⟨h1, h2, h3, h4, fun w hw => by obtain ⟨x, y, z, v⟩ := h5 w hw; exact ⟨x, y, by omega, v⟩, ⟨a, b, c, by omega, e5, by omega, e7, by omega, e8⟩, h7⟩
theorem r_in_z {x lo hi : Int32} : r_in x lo hi = 0 ↔ x < lo ∨ hi < x := by
  unfold r_in
  by_cases h1 : x < lo
  · rw [if_pos h1]; exact ⟨fun _ => Or.inl h1, fun _ => rfl⟩
  · rw [if_neg h1]
    by_cases h2 : hi < x
    · rw [if_pos h2]; exact ⟨fun _ => Or.inr h2, fun _ => rfl⟩
    · rw [if_neg h2]; exact ⟨fun q => absurd q (by decide), fun q => q.elim (fun z => absurd z h1) (fun z => absurd z h2)⟩
theorem bs_eq (x : Int32) : b_st x = 0 ↔ r_in x 0 11 = 0 := by
  rw [r_in_z]
  unfold b_st
  by_cases h1 : x < 0
  · rw [if_pos h1]; exact ⟨fun _ => Or.inl h1, fun _ => rfl⟩
  · rw [if_neg h1]
    obtain ⟨j, hj, rfl⟩ := nI_of h1
    rw [show (12 : Int32) = nI 12 from rfl, show (11 : Int32) = nI 11 from rfl, nI_ltI (by decide) hj]
    by_cases h2 : nI 12 ≤ nI j
    · rw [if_pos h2]
      rw [nI_leI (by decide) hj] at h2
      exact ⟨fun _ => Or.inr (by omega), fun _ => rfl⟩
    · rw [if_neg h2]
      rw [nI_leI (by decide) hj] at h2
      exact ⟨fun q => absurd q (by decide), fun q => q.elim (fun z => absurd z h1) (fun z => by omega)⟩
theorem bc_eq (x : Int32) (h0 : M.1 0 = nI n) (hs : s 0 = nI n) (hn : n ≤ 8) : b_card M x = 0 ↔ r_in x 0 (s 0 - 1) = 0 := by
  constructor
  · intro h
    apply Decidable.byContradiction
    intro g
    obtain ⟨i, hi, rfl⟩ := r_in_ca hs hn g
    unfold b_card at h
    rw [if_neg (nI_pos (by omega)), h0, if_neg (by rw [nI_leI (by omega) (by omega)]; omega), if_neg (by rw [show (8 : Int32) = nI 8 from rfl, nI_leI (by omega) (by omega)]; omega)] at h
    exact absurd h (by decide)
  · intro h
    apply Decidable.byContradiction
    intro g
    obtain ⟨i, hi, -, rfl⟩ := b_card_n h0 hn g
    rw [r_in_z, hs] at h
    rcases h with z | z
    · exact absurd z (nI_pos (by omega))
    · rw [show nI n - 1 = nI (n - 1) from pk_sub (b := 1) (by omega), nI_ltI (by omega) (by omega)] at z
      omega
end MET
