/-! Zones: the set of bits, its count, the pairs. -/
def pcn (m : Nat) : Nat := (if m.testBit 0 then 1 else 0) + (if m.testBit 1 then 1 else 0) + (if m.testBit 2 then 1 else 0) + (if m.testBit 3 then 1 else 0) + (if m.testBit 4 then 1 else 0) + (if m.testBit 5 then 1 else 0) + (if m.testBit 6 then 1 else 0)
theorem zb_or : ∀ a : Fin 128, ∀ z : Fin 7, (nI a.1 ||| ((1 : Int32) <<< (nI z.1 &&& 31)) = nI (a.1 ||| 1 <<< z.1)) ∧ (a.1 ||| 1 <<< z.1) < 128 := by decide +kernel
theorem zb_pc : ∀ a : Fin 128, j_bc (nI a.1) = nI (pcn a.1) ∧ (a.1.testBit 0 = false → r_bits (nI a.1) = nI (pcn a.1) ∧ pcn a.1 ≤ 6) := by decide +kernel
theorem zb_add : ∀ a : Fin 128, ∀ z : Fin 7, pcn (a.1 ||| 1 <<< z.1) = if a.1.testBit z.1 then pcn a.1 else pcn a.1 + 1 := by decide +kernel
theorem zb_bit : ∀ a : Fin 128, ∀ z y : Fin 7, (a.1 ||| 1 <<< z.1).testBit y.1 = (a.1.testBit y.1 || decide (y.1 = z.1)) := by decide +kernel
theorem ln_new_iff (z : Nat → Int32) (a i : Nat) : ∀ k, ln_new z a i k = true ↔ ∀ j, j < k → ¬ z (a + j) = z i
  | 0 => ⟨fun _ j hj => absurd hj (Nat.not_lt_zero j), fun _ => rfl⟩
  | k + 1 => by
    show (if z (a + k) = z i then false else ln_new z a i k) = true ↔ _
    by_cases e : z (a + k) = z i
    · rw [if_pos e]
      exact ⟨fun h => absurd h (by decide), fun h => absurd e (h k (by omega))⟩
    · rw [if_neg e, ln_new_iff z a i k]
      exact ⟨fun h j hj => (Nat.lt_succ_iff_lt_or_eq.mp hj).elim (h j) (fun q => q ▸ e), fun h j hj => h j (by omega)⟩
/-- zones lie between 1 and 6 -/
def ZO (z : Nat → Int32) : Prop := ∀ w, w < 12 → ∃ y, 1 ≤ y ∧ y ≤ 6 ∧ z w = nI y
theorem zs {z : Nat → Int32} (h : ZO z) (a : Nat) : ∀ k, a + k ≤ 12 → ∃ m, m < 128 ∧ m.testBit 0 = false ∧ ln_set z a k = nI m ∧ (∀ y, y < 7 → (m.testBit y = true ↔ ∃ j, j < k ∧ z (a + j) = nI y)) ∧ pcn m = ln_prs z a k ∧ (0 < k → 1 ≤ ln_prs z a k)
  | 0, _ => ⟨0, by decide, by decide, rfl, fun y _ => ⟨fun q => absurd q (by simp), fun ⟨j, hj, _⟩ => absurd hj (Nat.not_lt_zero j)⟩, rfl, fun q => absurd q (by decide)⟩
  | k + 1, hk => by
    obtain ⟨m, h1, h2, h3, h4, h5, h6⟩ := zs h a k (by omega)
    obtain ⟨y, y1, y6, hy⟩ := h (a + k) (by omega)
    have o := zb_or ⟨m, h1⟩ ⟨y, by omega⟩
    have ad := zb_add ⟨m, h1⟩ ⟨y, by omega⟩
    have bt := fun v hv => zb_bit ⟨m, h1⟩ ⟨y, by omega⟩ ⟨v, hv⟩
    dsimp only at o ad bt
    have en : ln_new z a (a + k) k = !m.testBit y := by
      cases e : m.testBit y
      · exact (ln_new_iff z a (a + k) k).mpr fun j hj q => by
          have : m.testBit y = true := (h4 y (by omega)).mpr ⟨j, hj, q.trans hy⟩
          rw [e] at this; exact absurd this (by decide)
      · cases e2 : ln_new z a (a + k) k
        · rfl
        · obtain ⟨j, hj, q⟩ := (h4 y (by omega)).mp e
          exact absurd (q.trans hy.symm) ((ln_new_iff z a (a + k) k).mp e2 j hj)
    have ep : ln_prs z a (k + 1) = if m.testBit y then ln_prs z a k else ln_prs z a k + 1 := by
      show (if ln_new z a (a + k) k then ln_prs z a k + 1 else ln_prs z a k) = _
      rw [en]
      cases m.testBit y <;> rfl
    refine ⟨m ||| 1 <<< y, o.2, ?_, ?_, ?_, ?_, fun _ => ?_⟩
    · have := bt 0 (by decide)
      rw [this, h2, decide_eq_false (by omega)]; rfl
    · show ln_set z a k ||| ((1 : Int32) <<< (z (a + k) &&& 31)) = _
      rw [h3, hy]; exact o.1
    · intro v hv
      rw [bt v hv, Bool.or_eq_true, h4 v hv, decide_eq_true_iff]
      constructor
      · rintro (⟨j, hj, q⟩ | rfl)
        · exact ⟨j, by omega, q⟩
        · exact ⟨k, by omega, hy⟩
      · rintro ⟨j, hj, q⟩
        rcases Nat.lt_succ_iff_lt_or_eq.mp hj with g | rfl
        · exact Or.inl ⟨j, g, q⟩
        · exact Or.inr ((nI_eq (by omega) (by omega)).mp (q.symm.trans hy))
    · rw [ad, ep, h5]
    · rw [ep]
      split
      · rename_i e
        obtain ⟨j, hj, -⟩ := (h4 y (by omega)).mp e
        exact h6 (by omega)
      · omega
theorem ln_set_c {z z' : Nat → Int32} (a : Nat) : ∀ k, (∀ j, j < k → z (a + j) = z' (a + j)) → ln_set z a k = ln_set z' a k
  | 0, _ => rfl
  | k + 1, h => by
    show ln_set z a k ||| _ = ln_set z' a k ||| _
    rw [ln_set_c a k (fun j hj => h j (by omega)), h k (by omega)]
/-- the zones of two stations: counted, compared, the reference's -/
theorem zc {z : Nat → Int32} (h : ZO z) {f g : Nat} (hf : f < 12) (hg : g < 12) : ln_cnt z f g = nI (ln_pairs z f g) ∧ r_bits (ln_set z (min f g) (max f g + 1 - min f g)) = nI (ln_pairs z f g) ∧ 1 ≤ ln_pairs z f g ∧ ln_pairs z f g ≤ 6 := by
  have a1 : min f g + (max f g + 1 - min f g) ≤ 12 := by omega
  obtain ⟨m, h1, h2, h3, h4, h5, h6⟩ := zs h (min f g) (max f g + 1 - min f g) a1
  have p := zb_pc ⟨m, h1⟩
  dsimp only at p
  refine ⟨?_, ?_, h6 (by omega), ?_⟩
  · show j_bc _ = _
    rw [h3, p.1, h5]; rfl
  · rw [h3, (p.2 h2).1, h5]; rfl
  · have := (p.2 h2).2
    show ln_prs _ _ _ ≤ 6
    rw [← h5]; exact this
theorem r_zones_eq {z s : Nat → Int32} (h : ZO z) (e : ∀ w, w < 12 → z w = s (9 + w)) {f g : Nat} (hf : f < 12) (hg : g < 12) : r_zones s f g = ln_cnt z f g := by
  have a : ln_set (r_zn s) (min f g) (max f g + 1 - min f g) = ln_set z (min f g) (max f g + 1 - min f g) := ln_set_c _ _ fun j hj => (e _ (by omega)).symm
  show r_bits _ = _
  rw [a, (zc h hf hg).2.1, (zc h hf hg).1]
/-- fares -/
theorem fare_b {z : Nat → Int32} (h : ZO z) {b p f g : Nat} (hb : b ≤ 999) (hp : p ≤ 99) (hf : f < 12) (hg : g < 12) : ∃ v, v ≤ 1494 ∧ ln_fare z (nI b) (nI p) f g = nI v := by
  obtain ⟨c1, -, c2, c3⟩ := zc h hf hg
  refine ⟨b + p * (ln_pairs z f g - 1), ?_, ?_⟩
  · have : p * (ln_pairs z f g - 1) ≤ 99 * 5 := Nat.mul_le_mul hp (by omega)
    omega
  · unfold ln_fare
    rw [c1, show nI (ln_pairs z f g) - 1 = nI (ln_pairs z f g - 1) from pk_sub (b := 1) c2, pk_mul, nI_add]
theorem price_b {κ : KS} {v : Nat} (hv : v ≤ 2000) : ∃ u, u ≤ 2000 ∧ k_price κ (nI v) = nI u := by
  unfold k_price
  split
  · exact ⟨v, hv, rfl⟩
  · exact ⟨v / 2, by omega, pk_div (d := 2) (by omega) (by decide) (by decide)⟩
