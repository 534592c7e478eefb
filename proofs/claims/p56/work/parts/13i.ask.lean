/-! Questions: the class's answers and the reference's. -/
theorem cf_mono {p q : Nat → Bool} : ∀ n, (∀ k, k < n → p k = true → q k = true) → c_fold p n ≤ c_fold q n
  | 0, _ => Nat.le_refl _
  | n + 1, h => by
    have ih := cf_mono n (fun k hk => h k (by omega))
    unfold c_fold
    cases hp : p n
    · cases q n
      · exact ih
      · exact Nat.le_succ_of_le ih
    · rw [h n (by omega) hp]
      exact Nat.succ_le_succ ih
theorem cf_lt {p q : Nat → Bool} {j : Nat} (hp : p j = false) (hq : q j = true) : ∀ n, j < n → (∀ k, k < n → p k = true → q k = true) → c_fold p n < c_fold q n
  | 0, h, _ => absurd h (Nat.not_lt_zero j)
  | n + 1, h, g => by
    rcases Nat.lt_succ_iff_lt_or_eq.mp h with e | e
    · have ih := cf_lt hp hq n e (fun k hk => g k (by omega))
      unfold c_fold
      cases hpn : p n
      · cases q n
        · exact ih
        · exact Nat.lt_succ_of_lt ih
      · rw [g n (by omega) hpn]
        exact Nat.succ_lt_succ ih
    · subst e
      have ih := cf_mono j (fun k hk => g k (by omega))
      unfold c_fold
      rw [hp, hq]
      exact Nat.lt_succ_of_le ih
theorem cf_all : ∀ n, c_fold (fun _ => true) n = n
  | 0 => rfl
  | n + 1 => by
    show c_fold (fun _ => true) n + 1 = n + 1
    rw [cf_all n]
/-- k is ahead of i -/
def aB (S C : Nat → Int) (k i : Nat) : Bool := decide (S i < S k ∨ (S k = S i ∧ (C k < C i ∨ (C k = C i ∧ k < i))))
def rkB (S C : Nat → Int) (n i : Nat) : Nat := c_fold (fun k => aB S C k i) n
theorem rkB_lt {S C : Nat → Int} {n i : Nat} (hi : i < n) : rkB S C n i < n := by
  have h := cf_lt (p := fun k => aB S C k i) (q := fun _ => true) (j := i) (decide_eq_false (by omega)) rfl n hi (fun _ _ _ => rfl)
  rw [cf_all] at h
  exact h
theorem rkB_mono {S C : Nat → Int} {n i j : Nat} (hi : i < n) (h : aB S C i j = true) : rkB S C n i < rkB S C n j := by
  have h9 := of_decide_eq_true h
  refine cf_lt (j := i) (decide_eq_false (by omega)) h n hi (fun k _ hk => ?_)
  have h8 := of_decide_eq_true hk
  exact decide_eq_true (by omega)
theorem rkB_inj {S C : Nat → Int} {n i j : Nat} (hi : i < n) (hj : j < n) (h : rkB S C n i = rkB S C n j) : i = j := by
  apply Decidable.byContradiction
  intro hn
  cases e : aB S C i j
  · have e1 := of_decide_eq_false e
    have e2 : aB S C j i = true := decide_eq_true (by omega)
    have := rkB_mono (n := n) hj e2
    omega
  · have := rkB_mono (n := n) hi e
    omega
theorem pigeon : ∀ (n : Nat) (f : Nat → Nat), (∀ i, i < n → f i < n) → (∀ i j, i < n → j < n → f i = f j → i = j) → ∀ x, x < n → ∃ i, i < n ∧ f i = x
  | 0, _, _, _, x, hx => absurd hx (Nat.not_lt_zero x)
  | n + 1, f, h1, h2, x, hx => by
    by_cases e : f n = x
    · exact ⟨n, by omega, e⟩
    · have g1 : ∀ i, i < n → (if f i < f n then f i else f i - 1) < n := fun i hi => by
        have a := h1 i (by omega)
        have b := h1 n (by omega)
        have c : f i ≠ f n := fun q => by have := h2 i n (by omega) (by omega) q; omega
        split <;> omega
      have g2 : ∀ i j, i < n → j < n → (if f i < f n then f i else f i - 1) = (if f j < f n then f j else f j - 1) → i = j := fun i j hi hj q => by
        have c : f i ≠ f n := fun q => by have := h2 i n (by omega) (by omega) q; omega
        have c' : f j ≠ f n := fun q => by have := h2 j n (by omega) (by omega) q; omega
        apply h2 i j (by omega) (by omega)
        split at q <;> split at q <;> omega
      have hb := h1 n (by omega)
      obtain ⟨i, hi, hx2⟩ := pigeon n _ g1 g2 (if x < f n then x else x - 1) (by split <;> omega)
      refine ⟨i, by omega, ?_⟩
      have c : f i ≠ f n := fun q => by have := h2 i n (by omega) (by omega) q; omega
      split at hx2 <;> split at hx2 <;> omega
theorem r_fnd_eq {f : Nat → Nat} {r i : Nat} : ∀ n, i < n → f i = r → (∀ j, j < n → f j = r → j = i) → r_fnd f r n = i
  | 0, h, _, _ => absurd h (Nat.not_lt_zero i)
  | n + 1, h, e, g => by
    unfold r_fnd
    by_cases q : f n = r
    · rw [if_pos q]; exact g n (by omega) q
    · rw [if_neg q]
      exact r_fnd_eq n (by rcases Nat.lt_succ_iff_lt_or_eq.mp h with z | z; exact z; subst z; exact absurd e q) e (fun j hj => g j (by omega))
section ASK
variable {M : MS} {s : Nat → Int32} {n t A B C T i d : Nat} {x y : Int32}
theorem ln_rk_B (z : Nat → Int32) (i : Nat) : ∀ n, ln_rk z i n = rkB (fun k => (z k).toInt) (fun _ => 0) n i
  | 0 => rfl
  | n + 1 => by
    show (if z n > z i ∨ (z n = z i ∧ n < i) then ln_rk z i n + 1 else ln_rk z i n) = (if aB (fun k => (z k).toInt) (fun _ => 0) n i then rkB (fun k => (z k).toInt) (fun _ => 0) n i + 1 else rkB (fun k => (z k).toInt) (fun _ => 0) n i)
    rw [ln_rk_B z i n]
    by_cases e : z n > z i ∨ (z n = z i ∧ n < i)
    · rw [if_pos e, if_pos]
      refine decide_eq_true ?_
      dsimp only
      rw [gt_iff_lt, Int32.lt_iff_toInt_lt, ← Int32.toInt_inj] at e
      omega
    · rw [if_neg e, if_neg]
      intro q
      have q := of_decide_eq_true q
      dsimp only at q
      apply e
      rw [gt_iff_lt, Int32.lt_iff_toInt_lt, ← Int32.toInt_inj]
      omega
theorem r_rkT_B (h : Sw M s n t A B C T) (hT : T < 2 ^ 30) (i : Nat) (hi : i < 12) : ∀ m, m ≤ 12 → r_rkT s i m = rkB (fun k => (M.2.2.1 k).toInt) (fun _ => 0) m i
  | 0, _ => rfl
  | m + 1, hm => by
    obtain ⟨a1, c1, d1, e1⟩ := h.2.2.2.2.1 m (by omega)
    obtain ⟨a2, c2, d2, e2⟩ := h.2.2.2.2.1 i hi
    have hd : (s (21 + m) - s (21 + i)).toInt = (M.2.2.1 m).toInt - (M.2.2.1 i).toInt := by
      rw [a1, a2, e1, e2]
      rw [i_sub] <;> rw [nI_toInt (by omega), nI_toInt (by omega)] <;> omega
    show (if 0 < s (21 + m) - s (21 + i) ∨ (s (21 + m) - s (21 + i) = 0 ∧ m < i) then r_rkT s i m + 1 else r_rkT s i m) = (if aB (fun k => (M.2.2.1 k).toInt) (fun _ => 0) m i then rkB (fun k => (M.2.2.1 k).toInt) (fun _ => 0) m i + 1 else rkB (fun k => (M.2.2.1 k).toInt) (fun _ => 0) m i)
    rw [r_rkT_B h hT i hi m (by omega)]
    by_cases e : 0 < s (21 + m) - s (21 + i) ∨ (s (21 + m) - s (21 + i) = 0 ∧ m < i)
    · rw [if_pos e, if_pos]
      refine decide_eq_true ?_
      dsimp only
      rw [Int32.lt_iff_toInt_lt, ← Int32.toInt_inj, hd, i_zero] at e
      omega
    · rw [if_neg e, if_neg]
      intro q
      have q := of_decide_eq_true q
      dsimp only at q
      apply e
      rw [Int32.lt_iff_toInt_lt, ← Int32.toInt_inj, hd, i_zero]
      omega
theorem qa_st_y (h : Sw M s n t A B C T) (hT : T < 2 ^ 30) (hi : i < 12) (hx : nI (ln_rk M.2.2.1 i 12) = x) : g_st s x = (0, nI i) := by
  have hr := rkB_lt (S := fun k => (M.2.2.1 k).toInt) (C := fun _ => 0) (n := 12) hi
  rw [ln_rk_B] at hx
  subst hx
  unfold g_st
  rw [if_neg (fun q => by
    rw [r_in_z, show (11 : Int32) = nI 11 from rfl, nI_ltI (by decide) (by omega)] at q
    exact q.elim (fun z => absurd z (nI_pos (by omega))) (fun z => by omega)), nI_clamp (by omega)]
  have e : (fun i => r_rkT s i 12) = fun i => r_rkT s i 12 := rfl
  rw [r_fnd_eq (i := i) 12 hi (r_rkT_B h hT i hi 12 (Nat.le_refl _)) (fun j hj q => rkB_inj hj hi ((r_rkT_B h hT j hj 12 (Nat.le_refl _)).symm.trans q))]
theorem qa_st_n (hx : ∀ j, j < 12 → ¬ nI (ln_rk M.2.2.1 j 12) = x) : (g_st s x).1 = 1 := by
  unfold g_st
  by_cases e : r_in x 0 11 = 0
  · rw [if_pos e]
  · exfalso
    obtain ⟨r, hr, rfl⟩ := r_in_st e
    obtain ⟨i, hi, q⟩ := pigeon 12 (fun i => rkB (fun k => (M.2.2.1 k).toInt) (fun _ => 0) 12 i) (fun i hi => rkB_lt hi) (fun i j hi hj q => rkB_inj hi hj q) r hr
    exact hx i hi (by rw [ln_rk_B]; exact congrArg nI q)
theorem m_rk_B (M : MS) (d i : Nat) : ∀ n, m_rk M d i n = rkB (fun k => (k_sumOf (M.2.2.2.1 k) d).toInt) (fun k => ((M.2.2.2.1 k).1 1).toInt) n i
  | 0 => rfl
  | n + 1 => by
    show (if m_ah M d n i = 0 then m_rk M d i n else m_rk M d i n + 1) = (if aB _ _ n i then rkB _ _ n i + 1 else rkB _ _ n i)
    rw [m_rk_B M d i n]
    by_cases e : m_ah M d n i = 0
    · rw [if_pos e, if_neg]
      intro q
      have q := of_decide_eq_true q
      dsimp only at q
      unfold m_ah at e
      by_cases e1 : k_sumOf (M.2.2.2.1 n) d = k_sumOf (M.2.2.2.1 i) d
      · rw [if_pos e1] at e
        rw [← Int32.toInt_inj] at e1
        by_cases e2 : (M.2.2.2.1 n).1 1 = (M.2.2.2.1 i).1 1
        · rw [if_pos e2] at e
          rw [← Int32.toInt_inj] at e2
          by_cases e3 : n < i
          · rw [if_pos e3] at e; exact absurd e (by decide)
          · omega
        · rw [if_neg e2] at e
          rw [← Int32.toInt_inj] at e2
          by_cases e3 : (M.2.2.2.1 i).1 1 ≤ (M.2.2.2.1 n).1 1
          · rw [Int32.le_iff_toInt_le] at e3; omega
          · rw [if_neg e3] at e; exact absurd e (by decide)
      · rw [if_neg e1] at e
        rw [← Int32.toInt_inj] at e1
        by_cases e3 : k_sumOf (M.2.2.2.1 n) d ≤ k_sumOf (M.2.2.2.1 i) d
        · rw [Int32.le_iff_toInt_le] at e3; omega
        · rw [if_neg e3] at e; exact absurd e (by decide)
    · rw [if_neg e, if_pos]
      refine decide_eq_true ?_
      dsimp only
      unfold m_ah at e
      by_cases e1 : k_sumOf (M.2.2.2.1 n) d = k_sumOf (M.2.2.2.1 i) d
      · rw [if_pos e1] at e
        rw [← Int32.toInt_inj] at e1
        by_cases e2 : (M.2.2.2.1 n).1 1 = (M.2.2.2.1 i).1 1
        · rw [if_pos e2] at e
          rw [← Int32.toInt_inj] at e2
          by_cases e3 : n < i
          · omega
          · rw [if_neg e3] at e; exact absurd rfl e
        · rw [if_neg e2] at e
          rw [← Int32.toInt_inj] at e2
          by_cases e3 : (M.2.2.2.1 i).1 1 ≤ (M.2.2.2.1 n).1 1
          · rw [if_pos e3] at e; exact absurd rfl e
          · rw [Int32.le_iff_toInt_le] at e3; omega
      · rw [if_neg e1] at e
        rw [← Int32.toInt_inj] at e1
        by_cases e3 : k_sumOf (M.2.2.2.1 n) d ≤ k_sumOf (M.2.2.2.1 i) d
        · rw [if_pos e3] at e; exact absurd rfl e
        · rw [Int32.le_iff_toInt_le] at e3; omega
theorem r_rkC_B (h : Sw M s n t A B C T) (hi : i < n) : ∀ m, m ≤ n → r_rkC s (t / 1440) i m = rkB (fun k => (k_sumOf (M.2.2.2.1 k) (t / 1440)).toInt) (fun k => ((M.2.2.2.1 k).1 1).toInt) m i
  | 0, _ => rfl
  | m + 1, hm => by
    have h30 := h.t30
    obtain ⟨a1, -, b1, -, b2, -⟩ := h.2.2.2.2.2.2.2 m (by omega)
    obtain ⟨a2, -, d1, -, d2, -⟩ := h.2.2.2.2.2.2.2 i hi
    have q1 := a1.cp (t / 1440) (by omega) (Nat.le_refl _)
    have q2 := a2.cp (t / 1440) (by omega) (Nat.le_refl _)
    have q3 := k_cap_le (M.2.2.2.1 m)
    have q4 := k_cap_le (M.2.2.2.1 i)
    have hs : (r_sum s m (t / 1440) - r_sum s i (t / 1440)).toInt = (k_sumOf (M.2.2.2.1 m) (t / 1440)).toInt - (k_sumOf (M.2.2.2.1 i) (t / 1440)).toInt := by
      rw [r_sum_eq a1 (by omega), r_sum_eq a2 (by omega)]
      exact i_sub (by omega) (by omega)
    have hc : (ro s i 1 - ro s m 1).toInt = ((M.2.2.2.1 i).1 1).toInt - ((M.2.2.2.1 m).1 1).toInt := by
      rw [a1.e1, a2.e1]
      exact i_sub (by omega) (by omega)
    show (if 0 < r_sum s m (t / 1440) - r_sum s i (t / 1440) ∨ (r_sum s m (t / 1440) - r_sum s i (t / 1440) = 0 ∧ (0 < ro s i 1 - ro s m 1 ∨ (ro s i 1 - ro s m 1 = 0 ∧ m < i))) then r_rkC s (t / 1440) i m + 1 else r_rkC s (t / 1440) i m) = (if aB _ _ m i then rkB _ _ m i + 1 else rkB _ _ m i)
    rw [r_rkC_B h hi m (by omega)]
    by_cases e : 0 < r_sum s m (t / 1440) - r_sum s i (t / 1440) ∨ (r_sum s m (t / 1440) - r_sum s i (t / 1440) = 0 ∧ (0 < ro s i 1 - ro s m 1 ∨ (ro s i 1 - ro s m 1 = 0 ∧ m < i)))
    · rw [if_pos e, if_pos]
      refine decide_eq_true ?_
      dsimp only
      rw [Int32.lt_iff_toInt_lt, ← Int32.toInt_inj, Int32.lt_iff_toInt_lt, ← Int32.toInt_inj, hs, hc, i_zero] at e
      omega
    · rw [if_neg e, if_neg]
      intro q
      have q := of_decide_eq_true q
      dsimp only at q
      apply e
      rw [Int32.lt_iff_toInt_lt, ← Int32.toInt_inj, Int32.lt_iff_toInt_lt, ← Int32.toInt_inj, hs, hc, i_zero]
      omega
theorem qa_ca_y (h : Sw M s n t A B C T) (hi : i < n) (hx : nI (m_rk M (t / 1440) i n) = x) : g_ca s n (t / 1440) x = (0, nI i) := by
  have hn8 := h.1.2.1
  have hr := rkB_lt (S := fun k => (k_sumOf (M.2.2.2.1 k) (t / 1440)).toInt) (C := fun k => ((M.2.2.2.1 k).1 1).toInt) (n := n) hi
  rw [m_rk_B] at hx
  subst hx
  unfold g_ca
  rw [if_neg (fun q => by
    rw [r_in_z, h.1.1, show nI n - 1 = nI (n - 1) from pk_sub (b := 1) (by omega), nI_ltI (by omega) (by omega)] at q
    exact q.elim (fun z => absurd z (nI_pos (by omega))) (fun z => by omega)), nI_clamp (by omega)]
  rw [r_fnd_eq (i := i) n hi (r_rkC_B h hi n (Nat.le_refl _)) (fun j hj q => rkB_inj hj hi ((r_rkC_B h hj n (Nat.le_refl _)).symm.trans q))]
theorem qa_ca_n (h : Sw M s n t A B C T) (hx : ∀ j, j < n → ¬ nI (m_rk M (t / 1440) j n) = x) : (g_ca s n (t / 1440) x).1 = 1 := by
  unfold g_ca
  by_cases e : r_in x 0 (s 0 - 1) = 0
  · rw [if_pos e]
  · exfalso
    obtain ⟨r, hr, rfl⟩ := r_in_ca h.1.1 h.1.2.1 e
    obtain ⟨i, hi, q⟩ := pigeon n (fun i => rkB (fun k => (k_sumOf (M.2.2.2.1 k) (t / 1440)).toInt) (fun k => ((M.2.2.2.1 k).1 1).toInt) n i) (fun i hi => rkB_lt hi) (fun i j hi hj q => rkB_inj hi hj q) r hr
    exact hx i hi (by rw [m_rk_B]; exact congrArg nI q)
-- stations
theorem qa_zone_y (h : Sw M s n t A B C T) (hx : ¬ b_st x = 0) : g_zone s x = (0, M.2.1 x.toNatClampNeg) := by
  unfold g_zone
  rw [if_neg (fun q => hx ((bs_eq x).mpr q))]
  obtain ⟨w, hw, rfl⟩ := b_st_in hx
  rw [nI_clamp (by omega), (h.2.2.2.1 w hw).1]
theorem qa_zone_n (hx : b_st x = 0) : (g_zone s x).1 = 1 := by
  unfold g_zone
  rw [if_pos ((bs_eq x).mp hx)]
theorem qa_taps_y (h : Sw M s n t A B C T) (hx : ¬ b_st x = 0) : g_taps s x = (0, M.2.2.1 x.toNatClampNeg) := by
  unfold g_taps
  rw [if_neg (fun q => hx ((bs_eq x).mpr q))]
  obtain ⟨w, hw, rfl⟩ := b_st_in hx
  rw [nI_clamp (by omega), (h.2.2.2.2.1 w hw).1]
theorem qa_taps_n (hx : b_st x = 0) : (g_taps s x).1 = 1 := by
  unfold g_taps
  rw [if_pos ((bs_eq x).mp hx)]
theorem qa_zc_y (h : Sw M s n t A B C T) (hx : ¬ b_st x = 0) (hy : ¬ b_st y = 0) : g_zc s x y = (0, ln_cnt M.2.1 x.toNatClampNeg y.toNatClampNeg) ∧ ln_cnt M.2.1 x.toNatClampNeg y.toNatClampNeg = nI (ln_pairs M.2.1 x.toNatClampNeg y.toNatClampNeg) := by
  unfold g_zc
  rw [if_neg (fun q => hx ((bs_eq x).mpr q)), if_neg (fun q => hy ((bs_eq y).mpr q))]
  obtain ⟨w, hw, rfl⟩ := b_st_in hx
  obtain ⟨v, hv, rfl⟩ := b_st_in hy
  rw [nI_clamp (n := w) (by omega), nI_clamp (n := v) (by omega), h.zn hw hv]
  exact ⟨rfl, (zc h.zo hw hv).1⟩
theorem qa_zc_n (hx : b_st x = 0 ∨ b_st y = 0) : (g_zc s x y).1 = 1 := by
  unfold g_zc
  by_cases e : r_in x 0 11 = 0
  · rw [if_pos e]
  · rw [if_neg e, if_pos ((bs_eq y).mp (hx.resolve_left (fun q => e ((bs_eq x).mp q))))]
theorem qa_fare_y (h : Sw M s n t A B C T) (hx : ¬ b_st x = 0) (hy : ¬ b_st y = 0) : g_fare s x y = (0, ln_fare M.2.1 (M.1 7) (M.1 8) x.toNatClampNeg y.toNatClampNeg) := by
  unfold g_fare
  rw [if_neg (fun q => hx ((bs_eq x).mpr q)), if_neg (fun q => hy ((bs_eq y).mpr q))]
  obtain ⟨w, hw, rfl⟩ := b_st_in hx
  obtain ⟨v, hv, rfl⟩ := b_st_in hy
  rw [nI_clamp (n := w) (by omega), nI_clamp (n := v) (by omega), h.price hw hv]
theorem qa_fare_n (hx : b_st x = 0 ∨ b_st y = 0) : (g_fare s x y).1 = 1 := by
  unfold g_fare
  by_cases e : r_in x 0 11 = 0
  · rw [if_pos e]
  · rw [if_neg e, if_pos ((bs_eq y).mp (hx.resolve_left (fun q => e ((bs_eq x).mp q))))]
-- cards
theorem Sw.bc (h : Sw M s n t A B C T) (x : Int32) : b_card M x = 0 ↔ r_in x 0 (s 0 - 1) = 0 := bc_eq x (h.2.1.1.trans h.1.1) h.1.1 h.1.2.1
theorem Sw.ci (h : Sw M s n t A B C T) (hx : ¬ b_card M x = 0) : ∃ i, i < n ∧ i < 8 ∧ x = nI i ∧ m_c M x = M.2.2.2.1 i ∧ SC (M.2.2.2.1 i) (M.2.2.2.2 i) (ro s i) t ∧ SB (M.2.2.2.1 i) ∧ x.toNatClampNeg = i := by
  obtain ⟨i, hi, hi8, rfl⟩ := b_card_n (h.2.1.1.trans h.1.1) h.1.2.1 hx
  obtain ⟨a, -, b⟩ := h.2.2.2.2.2.2.2 i hi
  exact ⟨i, hi, hi8, rfl, by rw [m_c, nI_clamp (by omega)], a, b, nI_clamp (by omega)⟩
theorem qa_card_n {f : Nat → Int32} (h : Sw M s n t A B C T) (hx : b_card M x = 0) : (g_card s x f).1 = 1 := by
  unfold g_card
  rw [if_pos ((h.bc x).mp hx)]
theorem qa_card_y {f : Nat → Int32} (h : Sw M s n t A B C T) (hx : ¬ b_card M x = 0) : g_card s x f = (0, f x.toNatClampNeg) := by
  unfold g_card
  rw [if_neg (fun q => hx ((h.bc x).mpr q))]
theorem qf_red (h : Sw M s n t A B C T) (hx : ¬ b_card M x = 0) : (fun i => if ro s i 0 = 1 then (1 : Int32) else 0) x.toNatClampNeg = (m_c M x).1 0 := by
  obtain ⟨i, -, -, -, e, hc, -, ei⟩ := h.ci hx
  rw [e, ei]
  show (if ro s i 0 = 1 then (1 : Int32) else 0) = _
  rw [hc.e0]
  rcases hc.z0 with z | z <;> rw [z] <;> rfl
theorem qf_bal (h : Sw M s n t A B C T) (hx : ¬ b_card M x = 0) : (fun i => ro s i 1) x.toNatClampNeg = (m_c M x).1 1 := by
  obtain ⟨i, -, -, -, e, hc, -, ei⟩ := h.ci hx
  rw [e, ei]
  exact hc.e1
theorem qf_on (h : Sw M s n t A B C T) (hx : ¬ b_card M x = 0) : (fun i => if ro s i 2 < 0 then (0 : Int32) else 1) x.toNatClampNeg = (m_c M x).1 2 := by
  obtain ⟨i, -, -, -, e, hc, -, ei⟩ := h.ci hx
  rw [e, ei]
  show (if ro s i 2 < 0 then (0 : Int32) else 1) = _
  rcases hc.tr with ⟨a, b⟩ | ⟨a, j, b, hj, -, c, -⟩
  · rw [a, b]; rfl
  · rw [a, c, if_neg (nI_pos (by omega))]
theorem qf_left (h : Sw M s n t A B C T) (hx : ¬ b_card M x = 0) : (fun i => r_left s i (t / 1440)) x.toNatClampNeg = k_left (m_c M x) (t / 1440) := by
  obtain ⟨i, -, -, -, e, hc, -, ei⟩ := h.ci hx
  rw [e, ei]
  exact r_left_eq hc (by have := h.t30; omega)
theorem qf_rep (h : Sw M s n t A B C T) (hx : ¬ b_card M x = 0) : r_rep s (t / 1440) x.toNatClampNeg = (if (m_c M x).1 10 = 0 then 0 else m_rep M x) := by
  obtain ⟨i, -, -, -, e, hc, -, ei⟩ := h.ci hx
  unfold m_rep r_rep
  rw [e, ei, h.day]
  rcases hc.nc with ⟨a, b⟩ | ⟨a, j, e9, c, hj, -, r8, he, t12, r9, -⟩
  · rw [a, b, if_pos (by decide), if_pos rfl]
  · rw [a, r8, r9, t12, if_neg (nI_pos (by omega)), if_neg (show ¬ (1 : Int32) = 0 by decide)]
-- trips
theorem qa_go (h : Sw M s n t A B C T) : (b_card M x = 0 → g_go s x = 1) ∧ (¬ b_card M x = 0 → (m_c M x).1 2 = 0 → g_go s x = 2) ∧ (¬ b_card M x = 0 → ¬ (m_c M x).1 2 = 0 → g_go s x = 0) := by
  refine ⟨fun hx => if_pos ((h.bc x).mp hx), fun hx h2 => ?_, fun hx h2 => ?_⟩
  · obtain ⟨i, -, -, -, e, hc, -, ei⟩ := h.ci hx
    unfold g_go
    rw [if_neg (fun q => hx ((h.bc x).mpr q)), ei]
    rw [e] at h2
    rcases hc.tr with ⟨a, b⟩ | ⟨a, -⟩
    · rw [b, if_pos (by decide)]
    · rw [a] at h2; exact absurd h2 (by decide)
  · obtain ⟨i, -, -, -, e, hc, -, ei⟩ := h.ci hx
    unfold g_go
    rw [if_neg (fun q => hx ((h.bc x).mpr q)), ei]
    rw [e] at h2
    rcases hc.tr with ⟨a, b⟩ | ⟨a, j, b, hj, -, c, -⟩
    · exact absurd a h2
    · rw [c, if_neg (not_not_intro (nI_pos' (by omega)))]
theorem qa_trip_y {f : Nat → Int32} (h : Sw M s n t A B C T) (hx : ¬ b_card M x = 0) (h2 : ¬ (m_c M x).1 2 = 0) : g_trip s x f = (0, f x.toNatClampNeg) := by
  unfold g_trip
  rw [(qa_go h).2.2 hx h2, if_pos rfl]
theorem Sw.tri (h : Sw M s n t A B C T) (hx : ¬ b_card M x = 0) (h2 : ¬ (m_c M x).1 2 = 0) : ro s x.toNatClampNeg 2 = (m_c M x).1 3 ∧ ro s x.toNatClampNeg 3 = (m_c M x).1 4 ∧ ro s x.toNatClampNeg 4 = (m_c M x).1 5 ∧ ∃ j, j < 12 ∧ (m_c M x).1 5 = nI j := by
  obtain ⟨i, -, -, -, e, hc, -, ei⟩ := h.ci hx
  rw [e] at h2 ⊢
  rw [ei]
  obtain ⟨a, j, b, hj, a3, c2, a4, c3, -⟩ := hc.tr.resolve_left (fun q => h2 q.1)
  obtain ⟨⟨j5, hj5, a5, c5⟩, -⟩ := hc.jo (Or.inl a)
  exact ⟨c2.trans a3.symm, c3.trans a4.symm, c5.trans a5.symm, j5, hj5, a5⟩
theorem qa_would_y (h : Sw M s n t A B C T) (hx : ¬ b_card M x = 0) (hy : ¬ b_st y = 0) : g_would s x y = (0, k_cont (m_c M x) y (M.1 1)) := by
  obtain ⟨i, -, -, -, e, hc, -, ei⟩ := h.ci hx
  obtain ⟨w, hw, rfl⟩ := b_st_in hy
  unfold g_would
  rw [if_neg (fun q => hx ((h.bc x).mpr q)), if_neg (fun q => hy ((bs_eq _).mpr q)), ei, e, cont_eq hc h.1.2.2.1 hw, h.2.1.2.1, h.1.2.2.1]
theorem qa_would_n (h : Sw M s n t A B C T) (hx : b_card M x = 0 ∨ b_st y = 0) : (g_would s x y).1 = 1 := by
  unfold g_would
  by_cases e : r_in x 0 (s 0 - 1) = 0
  · rw [if_pos e]
  · rw [if_neg e, if_pos ((bs_eq y).mp (hx.resolve_left (fun q => e ((h.bc x).mp q))))]
theorem qa_ifOut_y (h : Sw M s n t A B C T) (hy : ¬ b_st y = 0) (hx : ¬ b_card M x = 0) (h2 : ¬ (m_c M x).1 2 = 0) : g_ifOut s (t / 1440) x y = (0, k_trip (m_c M x) M.2.1 (M.1 7) (M.1 8) ((m_c M x).1 5).toNatClampNeg y.toNatClampNeg (t / 1440)) := by
  obtain ⟨-, -, q4, j, hj, q5⟩ := h.tri hx h2
  have hgo := qa_trip_y (f := fun i => r_chg s i (t / 1440) (r_to s i (ro s i 4).toNatClampNeg y.toNatClampNeg)) h hx h2
  obtain ⟨i, hi, -, -, e, hc, -, ei⟩ := h.ci hx
  obtain ⟨w, hw, rfl⟩ := b_st_in hy
  unfold g_ifOut
  rw [if_neg (fun q => hx ((h.bc x).mpr q)), if_neg (fun q => hy ((bs_eq _).mpr q)), hgo]
  rw [e] at q4 q5 h2 ⊢
  rw [ei] at q4 ⊢
  rw [q5, nI_clamp (n := j) (by omega), nI_clamp (n := w) (by omega)]
  show (0, r_chg s i (t / 1440) (r_to s i (ro s i 4).toNatClampNeg w)) = _
  obtain ⟨a, -⟩ := hc.tr.resolve_left (fun q => h2 q.1)
  obtain ⟨-, r5⟩ := hc.jo (Or.inl a)
  rw [q4, q5, nI_clamp (by omega), r_chg_eq hc (by have := h.t30; omega)]
  unfold r_to
  rw [mx0, r_paid_eq hc, h.price hj hw, r5]
  rfl
theorem qa_ifOut_n (h : Sw M s n t A B C T) (hx : b_st y = 0 ∨ b_card M x = 0) : (g_ifOut s (t / 1440) x y).1 = 1 := by
  unfold g_ifOut
  by_cases e : r_in x 0 (s 0 - 1) = 0
  · rw [if_pos e]
  · rw [if_neg e, if_pos ((bs_eq y).mp (hx.resolve_right (fun q => e ((h.bc x).mp q))))]
theorem qa_ifOut_2 (h : Sw M s n t A B C T) (hy : ¬ b_st y = 0) (hx : ¬ b_card M x = 0) (h2 : (m_c M x).1 2 = 0) : (g_ifOut s (t / 1440) x y).1 = 2 := by
  unfold g_ifOut
  rw [if_neg (fun q => hx ((h.bc x).mpr q)), if_neg (fun q => hy ((bs_eq _).mpr q))]
  exact (qa_go h).2.1 hx h2
theorem qa_day (h : Sw M s n t A B C T) : (y < 0 ∨ nI (t / 1440) < y ∨ ¬ nI (t / 1440) - 2 ≤ y) ↔ (y < 0 ∨ r_in (nI (t / 1440) - y) 0 2 = 0) := by
  have h30 := h.t30
  by_cases e : y < 0
  · exact ⟨fun _ => Or.inl e, fun _ => Or.inl e⟩
  · obtain ⟨q, hq, rfl⟩ := nI_of e
    have e1 : (nI (t / 1440) - nI q).toInt = ((t / 1440 : Nat) : Int) - q := by rw [i_sub] <;> rw [nI_toInt (by omega), nI_toInt hq] <;> omega
    have e2 : (nI (t / 1440) - 2).toInt = ((t / 1440 : Nat) : Int) - 2 := by rw [i_sub] <;> rw [nI_toInt (by omega), show (2 : Int32).toInt = 2 from by decide] <;> omega
    rw [r_in_z]
    simp only [Int32.lt_iff_toInt_lt, Int32.le_iff_toInt_le, e1, e2, nI_toInt hq, nI_toInt (show t / 1440 < 2 ^ 31 by omega), i_zero, show (2 : Int32).toInt = 2 from by decide]
    omega
theorem qa_on_y (h : Sw M s n t A B C T) (hx : ¬ b_card M x = 0) (hy : ¬ (y < 0 ∨ nI (t / 1440) < y ∨ ¬ nI (t / 1440) - 2 ≤ y)) : g_on s (t / 1440) x y = (0, k_sumOf (m_c M x) y.toNatClampNeg) ∧ k_recs y (M.2.2.2.2 x.toNatClampNeg) 0 = k_sumOf (m_c M x) y.toNatClampNeg := by
  have h30 := h.t30
  obtain ⟨i, -, -, -, e, hc, -, ei⟩ := h.ci hx
  have hy2 := fun q => hy ((qa_day h).mpr q)
  unfold g_on
  rw [if_neg (fun q => hx ((h.bc x).mpr q)), if_neg (fun q => hy2 (Or.inl q)), if_neg (fun q => hy2 (Or.inr q)), ei, e]
  obtain ⟨q, hq, rfl⟩ := nI_of (fun z => hy (Or.inl z))
  have a1 : ¬ nI (t / 1440) < nI q := fun z => hy (Or.inr (Or.inl z))
  have a2 : nI (t / 1440) - 2 ≤ nI q := Decidable.byContradiction fun z => hy (Or.inr (Or.inr z))
  have e2 : (nI (t / 1440) - 2).toInt = ((t / 1440 : Nat) : Int) - 2 := by rw [i_sub] <;> rw [nI_toInt (by omega), show (2 : Int32).toInt = 2 from by decide] <;> omega
  rw [nI_ltI (by omega) hq] at a1
  rw [Int32.le_iff_toInt_le, e2, nI_toInt hq] at a2
  rw [nI_clamp hq, r_sum_eq hc hq]
  exact ⟨rfl, hc.rc q (by omega) (by omega)⟩
theorem qa_on_1 (h : Sw M s n t A B C T) (hx : b_card M x = 0) : (g_on s (t / 1440) x y).1 = 1 := by
  unfold g_on
  rw [if_pos ((h.bc x).mp hx)]
theorem qa_on_2 (h : Sw M s n t A B C T) (hx : ¬ b_card M x = 0) (hy : y < 0 ∨ nI (t / 1440) < y ∨ ¬ nI (t / 1440) - 2 ≤ y) : (g_on s (t / 1440) x y).1 = 2 := by
  unfold g_on
  rw [if_neg (fun q => hx ((h.bc x).mpr q))]
  by_cases e : y < 0
  · rw [if_pos e]
  · rw [if_neg e, if_pos (((qa_day h).mp hy).resolve_left e)]
theorem card9_eq (h : Sw M s n t A B C T) (hi : i < n) : m_card9 M i = r_card s i := by
  obtain ⟨hc, -, -⟩ := h.2.2.2.2.2.2.2 i hi
  unfold m_card9 r_card
  rw [hc.e0, hc.e1]
  have e1 : (if (M.2.2.2.1 i).1 0 = 0 then (102 : Int32) else 114) = (if (M.2.2.2.1 i).1 0 = 1 then 114 else 102) := by rcases hc.z0 with z | z <;> rw [z] <;> rfl
  rw [e1]
  rcases hc.tr with ⟨a, b⟩ | ⟨a, j, b, hj, a3, c, -⟩
  · rw [a, b]; rfl
  · rw [a, c, a3, if_neg (show ¬ (1 : Int32) = 0 by decide), if_neg (nI_pos (by omega))]
theorem zl_eq (h : Sw M s n t A B C T) : ∀ k, k ≤ 12 → z_l M.2.1 k = r_zl s k
  | 0, _ => rfl
  | k + 1, hk => by
    show z_l M.2.1 k ++ sg (M.2.1 k) = r_zl s k ++ sg (s (9 + k))
    rw [zl_eq h k (by omega), (h.2.2.2.1 k (by omega)).1]
end ASK
