/-! What a Metro must be for the class's calls; the calls as functions; the roles behind a push. -/
def MIc (κ : KS) : Prop := k_ok κ ∧ (¬ κ.1 2 = 0 → (∃ j, j < 12 ∧ κ.1 3 = nI j) ∧ (∃ j, j < 12 ∧ κ.1 5 = nI j) ∧ ∃ b : Nat, κ.1 4 = nI b ∧ b < 2 ^ 30) ∧ (¬ κ.1 10 = 0 → (∃ j, j < 12 ∧ κ.1 11 = nI j) ∧ ∃ e, e < 2 ^ 30 ∧ κ.1 12 = nI e)
def MI (M : MS) (n d : Nat) : Prop := M.1 0 = nI n ∧ n ≤ 8 ∧ M.1 1 / 1440 = nI d ∧ d < 2 ^ 30 ∧ ∀ i, i < n → MIc (M.2.2.2.1 i)
def m_do (M : MS) (d n : Nat) : Nat → Int32 → Int32 → Int32 × MS
  | 0, x, _ => (M.1 0, m_addCard M n (if x = 1 then 1 else 0))
  | 1, x, y => ((M.2.2.2.1 x.toNatClampNeg).1 1 + y, m_load M x.toNatClampNeg y)
  | 2, x, y => m_enterAt M x.toNatClampNeg y.toNatClampNeg d
  | 3, x, y => (m_leaveX M x.toNatClampNeg ((M.2.2.2.1 x.toNatClampNeg).1 5).toNatClampNeg y.toNatClampNeg d, m_leave M x.toNatClampNeg y.toNatClampNeg d (m_leaveX M x.toNatClampNeg ((M.2.2.2.1 x.toNatClampNeg).1 5).toNatClampNeg y.toNatClampNeg d))
  | 4, x, y => (m_backX M x.toNatClampNeg ((M.2.2.2.1 x.toNatClampNeg).1 11).toNatClampNeg y.toNatClampNeg, m_back M x.toNatClampNeg ((M.2.2.2.1 x.toNatClampNeg).1 12).toNatClampNeg (m_backX M x.toNatClampNeg ((M.2.2.2.1 x.toNatClampNeg).1 11).toNatClampNeg y.toNatClampNeg))
  | 5, x, y => (M.2.1 x.toNatClampNeg, m_zone M x.toNatClampNeg y)
  | 6, x, y => (M.1 7, m_fares M x y)
  | _, x, _ => (nI (m_pass M x n).1, (m_pass M x n).2)
theorem m_do_1 {M : MS} {d n i : Nat} {y : Int32} (hi : i < 8) : m_do M d n 1 (nI i) y = ((M.2.2.2.1 i).1 1 + y, m_load M i y) := by
  show ((M.2.2.2.1 (nI i).toNatClampNeg).1 1 + y, m_load M (nI i).toNatClampNeg y) = _
  rw [nI_clamp (by omega)]
theorem m_do_2 {M : MS} {d n i w : Nat} (hi : i < 8) (hw : w < 12) : m_do M d n 2 (nI i) (nI w) = m_enterAt M i w d := by
  show m_enterAt M (nI i).toNatClampNeg (nI w).toNatClampNeg d = _
  rw [nI_clamp (by omega), nI_clamp (by omega)]
theorem m_do_3 {M : MS} {d n i j w : Nat} (hi : i < 8) (hw : w < 12) (hj2 : j < 12) (hj : (M.2.2.2.1 i).1 5 = nI j) : m_do M d n 3 (nI i) (nI w) = (m_leaveX M i j w d, m_leave M i w d (m_leaveX M i j w d)) := by
  show (m_leaveX M (nI i).toNatClampNeg ((M.2.2.2.1 (nI i).toNatClampNeg).1 5).toNatClampNeg (nI w).toNatClampNeg d, m_leave M (nI i).toNatClampNeg (nI w).toNatClampNeg d (m_leaveX M (nI i).toNatClampNeg ((M.2.2.2.1 (nI i).toNatClampNeg).1 5).toNatClampNeg (nI w).toNatClampNeg d)) = _
  rw [nI_clamp (n := i) (by omega), nI_clamp (n := w) (by omega), hj, nI_clamp (n := j) (by omega)]
theorem m_do_4 {M : MS} {d n i j w e : Nat} (hi : i < 8) (hw : w < 12) (hj2 : j < 12) (hj : (M.2.2.2.1 i).1 11 = nI j) (he2 : e < 2 ^ 30) (he : (M.2.2.2.1 i).1 12 = nI e) : m_do M d n 4 (nI i) (nI w) = (m_backX M i j w, m_back M i e (m_backX M i j w)) := by
  show (m_backX M (nI i).toNatClampNeg ((M.2.2.2.1 (nI i).toNatClampNeg).1 11).toNatClampNeg (nI w).toNatClampNeg, m_back M (nI i).toNatClampNeg ((M.2.2.2.1 (nI i).toNatClampNeg).1 12).toNatClampNeg (m_backX M (nI i).toNatClampNeg ((M.2.2.2.1 (nI i).toNatClampNeg).1 11).toNatClampNeg (nI w).toNatClampNeg)) = _
  rw [nI_clamp (n := i) (by omega), nI_clamp (n := w) (by omega), hj, nI_clamp (n := j) (by omega), he, nI_clamp (n := e) (by omega)]
theorem m_do_5 {M : MS} {d n w : Nat} {y : Int32} (hw : w < 12) : m_do M d n 5 (nI w) y = (M.2.1 w, m_zone M w y) := by
  show (M.2.1 (nI w).toNatClampNeg, m_zone M (nI w).toNatClampNeg y) = _
  rw [nI_clamp (by omega)]
-- a problem that is none
theorem b_card_n {M : MS} {n : Nat} {x : Int32} (h0 : M.1 0 = nI n) (h8 : n ≤ 8) (h : ¬ b_card M x = 0) : ∃ i, i < n ∧ i < 8 ∧ x = nI i := by
  obtain ⟨i, hi, rfl, hlt⟩ := b_card_i h
  rw [h0] at hlt
  exact ⟨i, Nat.not_le.mp fun q => absurd hlt (nI_nlt q (by omega)), hi, rfl⟩
theorem pr_0 {M : MS} {n : Nat} {x y : Int32} (h0 : M.1 0 = nI n) (h8 : n ≤ 8) (h : m_prob M 0 x y = 0) : n < 8 := by
  by_cases g : M.1 0 < 8
  · rw [h0] at g
    exact Nat.not_le.mp fun q => absurd g (nI_nlt (a := n) (b := 8) q (by omega))
  · have : m_prob M 0 x y = 3 := by show (if M.1 0 < 8 then (0 : Int32) else 3) = 3; rw [if_neg g]
    rw [this] at h
    exact absurd h (by decide)
theorem pr_1 {M : MS} {x y : Int32} (h : m_prob M 1 x y = 0) : ¬ b_card M x = 0 := fun q => by
  have : m_prob M 1 x y = 1 := if_pos q
  rw [this] at h
  exact absurd h (by decide)
theorem pr_2 {M : MS} {x y : Int32} (h : m_prob M 2 x y = 0) : ¬ b_card M x = 0 ∧ ¬ b_st y = 0 := by
  constructor <;> intro q
  · have : m_prob M 2 x y = 1 := if_pos (Or.inl q)
    rw [this] at h
    exact absurd h (by decide)
  · have : m_prob M 2 x y = 1 := if_pos (Or.inr q)
    rw [this] at h
    exact absurd h (by decide)
theorem pr_3 {M : MS} {x y : Int32} (h : m_prob M 3 x y = 0) : ¬ b_card M x = 0 ∧ ¬ b_st y = 0 ∧ ¬ (m_c M x).1 2 = 0 := by
  by_cases q : b_card M x = 0 ∨ b_st y = 0
  · have : m_prob M 3 x y = 1 := if_pos q
    rw [this] at h
    exact absurd h (by decide)
  · refine ⟨fun z => q (Or.inl z), fun z => q (Or.inr z), fun z => ?_⟩
    have : m_prob M 3 x y = 3 := (if_neg q).trans (if_pos z)
    rw [this] at h
    exact absurd h (by decide)
theorem pr_4 {M : MS} {x y : Int32} (h : m_prob M 4 x y = 0) : ¬ b_card M x = 0 ∧ ¬ b_st y = 0 ∧ ¬ (m_c M x).1 10 = 0 := by
  by_cases q : b_card M x = 0 ∨ b_st y = 0
  · have : m_prob M 4 x y = 1 := if_pos q
    rw [this] at h
    exact absurd h (by decide)
  · refine ⟨fun z => q (Or.inl z), fun z => q (Or.inr z), fun z => ?_⟩
    have : m_prob M 4 x y = 4 := (if_neg q).trans (if_pos z)
    rw [this] at h
    exact absurd h (by decide)
theorem pr_5 {M : MS} {x y : Int32} (h : m_prob M 5 x y = 0) : ¬ b_st x = 0 := fun q => by
  have : m_prob M 5 x y = 1 := if_pos q
  rw [this] at h
  exact absurd h (by decide)
theorem MI.hok {M : MS} {n d : Nat} (h : MI M n d) : ∀ i, i < n → k_ok (M.2.2.2.1 i) := fun i hi => (h.2.2.2.2 i hi).1
theorem m_prob_in (M : MS) (k : Nat) (x y : Int32) : m_prob M k x y = 0 ∨ m_prob M k x y = 1 ∨ m_prob M k x y = 2 ∨ m_prob M k x y = 3 ∨ m_prob M k x y = 4 ∨ m_prob M k x y = 5 := by
  unfold m_prob m_pLoad m_pIn m_pOut m_pRep m_pZone m_pFares
  (repeat' split) <;> first | exact Or.inl rfl | exact Or.inr (Or.inl rfl) | exact Or.inr (Or.inr (Or.inl rfl)) | exact Or.inr (Or.inr (Or.inr (Or.inl rfl))) | exact Or.inr (Or.inr (Or.inr (Or.inr (Or.inl rfl)))) | exact Or.inr (Or.inr (Or.inr (Or.inr (Or.inr rfl))))
/-- the exception of a problem -/
def xcl (z : Int32) : String := if z = 1 then "java/lang/IndexOutOfBoundsException" else if z = 2 then "java/lang/IllegalArgumentException" else if z = 3 then "java/lang/IllegalStateException" else if z = 4 then "java/util/NoSuchElementException" else "java/lang/UnsupportedOperationException"
def p_push (π : Nat → Nat) (u : Nat) : Nat → Nat := fun j => if u < 8 then (if j = 1 then π (3 + u) else if j = 3 + u then π 1 else π j) else if j = 1 then π 3 else if j = 10 then π 1 else if 3 ≤ j ∧ j < 10 then π (j + 1) else π j
theorem p_push_0 (π : Nat → Nat) (u : Nat) : p_push π u 0 = π 0 := by
  unfold p_push
  split
  · rw [if_neg (by omega), if_neg (by omega)]
  · rw [if_neg (by omega), if_neg (by omega), if_neg (by omega)]
theorem Pm.push {π : Nat → Nat} {u : Nat} (h : Pm π) (hu : u ≤ 8) : Pm (p_push π u) := by
  obtain ⟨h1, h2, h3⟩ := h
  by_cases e : u < 8
  · have g : ∀ j, p_push π u j = if j = 1 then π (3 + u) else if j = 3 + u then π 1 else π j := fun j => if_pos e
    refine ⟨fun j hj => ?_, fun i j hi hj hij => ?_, ?_⟩
    · rw [g]
      split
      · exact h1 _ (by omega)
      · split
        · exact h1 _ (by omega)
        · exact h1 _ hj
    · rw [g, g] at hij
      (repeat' split at hij) <;> (have q := h2 _ _ (by omega) (by omega) hij; omega)
    · rw [g, if_neg (by omega), if_neg (by omega)]
      exact h3
  · have g : ∀ j, p_push π u j = if j = 1 then π 3 else if j = 10 then π 1 else if 3 ≤ j ∧ j < 10 then π (j + 1) else π j := fun j => if_neg e
    refine ⟨fun j hj => ?_, fun i j hi hj hij => ?_, ?_⟩
    · rw [g]
      (repeat' split) <;> exact h1 _ (by omega)
    · rw [g, g] at hij
      (repeat' split at hij) <;> (have q := h2 _ _ (by omega) (by omega) hij; omega)
    · rw [g, if_neg (by omega), if_neg (by omega), if_neg (by omega)]
      exact h3
def p_swap (π : Nat → Nat) (i j : Nat) : Nat → Nat := fun k => if k = i then π j else if k = j then π i else π k
theorem Pm.swap {π : Nat → Nat} {i j : Nat} (h : Pm π) (hi : i < 11) (hj : j < 11) (hij : i ≠ j) (h2i : i ≠ 2) (h2j : j ≠ 2) : Pm (p_swap π i j) := by
  obtain ⟨h1, h2, h3⟩ := h
  refine ⟨fun k hk => ?_, fun k m hk hm hkm => ?_, ?_⟩
  · unfold p_swap
    (repeat' split) <;> exact h1 _ (by omega)
  · unfold p_swap at hkm
    (repeat' split at hkm) <;> (have q := h2 _ _ (by omega) (by omega) hkm; omega)
  · unfold p_swap
    rw [if_neg (by omega), if_neg (by omega)]
    exact h3
theorem Mc.ob {D : va_G} {kA : Nat → ClassId} {H : Heap} {m : Nat} {M : MS} {ES : Nat → Prop} (h : Mc D kA H m M ES) : ∃ vs, hp D H m (.inr (7, vs)) := by
  obtain ⟨E, h⟩ := h
  exact ⟨_, h.1.1⟩
section FSW
variable {D : va_G} {kA : Nat → ClassId} {H H1 : Heap} {a : Nat} {W : Nat → MS} {π π1 : Nat → Nat} {ES F : Nat → Prop} {u u1 : Nat} {hs ep fc : Int32} {no : Nat} {go : Nat → Int32} {vs cs ns : Nat} {gs : Nat → Int32}
theorem Lay.gro (h : Lay H a vs ES) (o : H.size ≤ H1.size) : Lay H1 a vs (gro ES H H1) :=
  ⟨fun q hq => hq.elim (fun z => ⟨(h.1 q z).1, Nat.lt_of_lt_of_le (h.1 q z).2.1 o, (h.1 q z).2.2⟩) (fun z => ⟨by have := h.2.2.2; omega, z.2, by have := h.2.2.1; omega⟩), h.2.1, Nat.lt_of_lt_of_le h.2.2.1 o, Nat.le_trans h.2.2.2 o⟩
/-- one Metro has changed -/
theorem Fs.setw {j : Nat} {M : MS} {ES' : Nat → Prop} (h : Fs D kA H a W π ES u hs ep fc no go vs cs ns gs) (hj : j < 11) (o : off (blk (sl a j) 29) H H1) (hm : Mc D kA H1 (sl a j) M ES') (g : ∀ q, ES q → ES' q) (hl : Lay H1 a vs ES') : Fs D kA H1 a (va_up W j M) π ES' u hs ep fc no go vs cs ns gs := by
  obtain ⟨a1, a2, a3, a4, a5, a6, a7, a8⟩ := h
  have s1 := sl_lo a j
  have s2 := sl_hi (a := a) hj
  have s3 := sl_88 (a := a) (k := j)
  have hv := a7.2.1
  exact ⟨a1.off o (fun z => by have := z.1; omega) (fun z => by have := z.1; have := z.2; omega), a2.upd hj o hm g (fun q hq => (a7.1 q hq).1) (fun q hq => (hl.1 q hq).1),
    a3.off o (fun z => by have := z.2; omega) (fun z => by have := z.2; omega), a4.off o (fun z => by have := z.2; omega) (fun z => by have := z.2; omega), a5.off o (fun q hq z => by have := z.2; have := hq.1; omega), a6, hl, a8⟩
theorem blk_sl {j : Nat} (hj : j < 11) : ∀ q, blk (sl a j) 29 q → blk a 329 q := fun q hq => ⟨by have := sl_lo a j; have := hq.1; omega, by have := sl_hi (a := a) hj; have := hq.2; omega⟩
end FSW
