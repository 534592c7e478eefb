/-! The reference's state: its fields, its arrays. -/
def rF (o : Nat) (F : Nat → Int32) : List Value := [.ref (o + 1), .ref (o + 2), .ref (o + 3), .int (F 3), .ref (o + 4), .int (F 5), .int (F 6), .ref (o + 5), .int (F 8), .ref (o + 6), .int (F 10), .int (F 11), .int (F 12), .int (F 13), .int (F 14), .ref (o + 7), .int (F 16)]
def Rs (D : va_G) (kA : Nat → ClassId) (H : Heap) (o : Nat) (F s b v p u t c : Nat → Int32) : Prop :=
  hp D H o (eO 10 (rF o F)) ∧ hp D H (o + 1) (eI kA 169 s) ∧ hp D H (o + 2) (eI kA 169 b) ∧ hp D H (o + 3) (eI kA 169 v) ∧ hp D H (o + 4) (eI kA 1352 p) ∧ hp D H (o + 5) (eC kA 30 u) ∧ hp D H (o + 6) (eC kA 60 t) ∧ hp D H (o + 7) (eI kA 180 c)
section RSV
variable {D : va_G} {kA : Nat → ClassId} {H H1 : Heap} {o : Nat} {F s b v p u t c : Nat → Int32} {x : Int32}
theorem Rs.keep {G : Nat → Prop} (h : Rs D kA H o F s b v p u t c) (g : off G H H1) (hn : ∀ q, blk o 8 q → ¬ G q) : Rs D kA H1 o F s b v p u t c :=
  ⟨h.1.off g (hn _ ⟨by omega, by omega⟩), h.2.1.off g (hn _ ⟨by omega, by omega⟩), h.2.2.1.off g (hn _ ⟨by omega, by omega⟩), h.2.2.2.1.off g (hn _ ⟨by omega, by omega⟩), h.2.2.2.2.1.off g (hn _ ⟨by omega, by omega⟩), h.2.2.2.2.2.1.off g (hn _ ⟨by omega, by omega⟩), h.2.2.2.2.2.2.1.off g (hn _ ⟨by omega, by omega⟩), h.2.2.2.2.2.2.2.off g (hn _ ⟨by omega, by omega⟩)⟩
theorem Rs.fld {F1 : Nat → Int32} (h : Rs D kA H o F s b v p u t c) (g : sto o H H1) (hn : hp D H1 o (eO 10 (rF o F1))) : Rs D kA H1 o F1 s b v p u t c :=
  ⟨hn, h.2.1.sto g (by omega), h.2.2.1.sto g (by omega), h.2.2.2.1.sto g (by omega), h.2.2.2.2.1.sto g (by omega), h.2.2.2.2.2.1.sto g (by omega), h.2.2.2.2.2.2.1.sto g (by omega), h.2.2.2.2.2.2.2.sto g (by omega)⟩
theorem Rs.f3 (h : Rs D kA H o F s b v p u t c) (g : sto o H H1) (hn : hp D H1 o (.inr (10, (rF o F).set 3 (.int x)))) : Rs D kA H1 o (upd F 3 x) s b v p u t c := h.fld g hn
theorem Rs.f5 (h : Rs D kA H o F s b v p u t c) (g : sto o H H1) (hn : hp D H1 o (.inr (10, (rF o F).set 5 (.int x)))) : Rs D kA H1 o (upd F 5 x) s b v p u t c := h.fld g hn
theorem Rs.f6 (h : Rs D kA H o F s b v p u t c) (g : sto o H H1) (hn : hp D H1 o (.inr (10, (rF o F).set 6 (.int x)))) : Rs D kA H1 o (upd F 6 x) s b v p u t c := h.fld g hn
theorem Rs.f8 (h : Rs D kA H o F s b v p u t c) (g : sto o H H1) (hn : hp D H1 o (.inr (10, (rF o F).set 8 (.int x)))) : Rs D kA H1 o (upd F 8 x) s b v p u t c := h.fld g hn
theorem Rs.f10 (h : Rs D kA H o F s b v p u t c) (g : sto o H H1) (hn : hp D H1 o (.inr (10, (rF o F).set 10 (.int x)))) : Rs D kA H1 o (upd F 10 x) s b v p u t c := h.fld g hn
theorem Rs.f11 (h : Rs D kA H o F s b v p u t c) (g : sto o H H1) (hn : hp D H1 o (.inr (10, (rF o F).set 11 (.int x)))) : Rs D kA H1 o (upd F 11 x) s b v p u t c := h.fld g hn
theorem Rs.f12 (h : Rs D kA H o F s b v p u t c) (g : sto o H H1) (hn : hp D H1 o (.inr (10, (rF o F).set 12 (.int x)))) : Rs D kA H1 o (upd F 12 x) s b v p u t c := h.fld g hn
theorem Rs.f13 (h : Rs D kA H o F s b v p u t c) (g : sto o H H1) (hn : hp D H1 o (.inr (10, (rF o F).set 13 (.int x)))) : Rs D kA H1 o (upd F 13 x) s b v p u t c := h.fld g hn
theorem Rs.f14 (h : Rs D kA H o F s b v p u t c) (g : sto o H H1) (hn : hp D H1 o (.inr (10, (rF o F).set 14 (.int x)))) : Rs D kA H1 o (upd F 14 x) s b v p u t c := h.fld g hn
theorem Rs.f16 (h : Rs D kA H o F s b v p u t c) (g : sto o H H1) (hn : hp D H1 o (.inr (10, (rF o F).set 16 (.int x)))) : Rs D kA H1 o (upd F 16 x) s b v p u t c := h.fld g hn
theorem Rs.a1 {f : Nat → Int32} (h : Rs D kA H o F s b v p u t c) (g : sto (o + 1) H H1) (hn : hp D H1 (o + 1) (eI kA 169 f)) : Rs D kA H1 o F f b v p u t c :=
  ⟨h.1.sto g (by omega), hn, h.2.2.1.sto g (by omega), h.2.2.2.1.sto g (by omega), h.2.2.2.2.1.sto g (by omega), h.2.2.2.2.2.1.sto g (by omega), h.2.2.2.2.2.2.1.sto g (by omega), h.2.2.2.2.2.2.2.sto g (by omega)⟩
theorem Rs.a2 {f : Nat → Int32} (h : Rs D kA H o F s b v p u t c) (g : sto (o + 2) H H1) (hn : hp D H1 (o + 2) (eI kA 169 f)) : Rs D kA H1 o F s f v p u t c :=
  ⟨h.1.sto g (by omega), h.2.1.sto g (by omega), hn, h.2.2.2.1.sto g (by omega), h.2.2.2.2.1.sto g (by omega), h.2.2.2.2.2.1.sto g (by omega), h.2.2.2.2.2.2.1.sto g (by omega), h.2.2.2.2.2.2.2.sto g (by omega)⟩
theorem Rs.a3 {f : Nat → Int32} (h : Rs D kA H o F s b v p u t c) (g : sto (o + 3) H H1) (hn : hp D H1 (o + 3) (eI kA 169 f)) : Rs D kA H1 o F s b f p u t c :=
  ⟨h.1.sto g (by omega), h.2.1.sto g (by omega), h.2.2.1.sto g (by omega), hn, h.2.2.2.2.1.sto g (by omega), h.2.2.2.2.2.1.sto g (by omega), h.2.2.2.2.2.2.1.sto g (by omega), h.2.2.2.2.2.2.2.sto g (by omega)⟩
theorem Rs.a4 {f : Nat → Int32} (h : Rs D kA H o F s b v p u t c) (g : sto (o + 4) H H1) (hn : hp D H1 (o + 4) (eI kA 1352 f)) : Rs D kA H1 o F s b v f u t c :=
  ⟨h.1.sto g (by omega), h.2.1.sto g (by omega), h.2.2.1.sto g (by omega), h.2.2.2.1.sto g (by omega), hn, h.2.2.2.2.2.1.sto g (by omega), h.2.2.2.2.2.2.1.sto g (by omega), h.2.2.2.2.2.2.2.sto g (by omega)⟩
theorem Rs.a5 {f : Nat → Int32} (h : Rs D kA H o F s b v p u t c) (g : sto (o + 5) H H1) (hn : hp D H1 (o + 5) (eC kA 30 f)) : Rs D kA H1 o F s b v p f t c :=
  ⟨h.1.sto g (by omega), h.2.1.sto g (by omega), h.2.2.1.sto g (by omega), h.2.2.2.1.sto g (by omega), h.2.2.2.2.1.sto g (by omega), hn, h.2.2.2.2.2.2.1.sto g (by omega), h.2.2.2.2.2.2.2.sto g (by omega)⟩
theorem Rs.a6 {f : Nat → Int32} (h : Rs D kA H o F s b v p u t c) (g : sto (o + 6) H H1) (hn : hp D H1 (o + 6) (eC kA 60 f)) : Rs D kA H1 o F s b v p u f c :=
  ⟨h.1.sto g (by omega), h.2.1.sto g (by omega), h.2.2.1.sto g (by omega), h.2.2.2.1.sto g (by omega), h.2.2.2.2.1.sto g (by omega), h.2.2.2.2.2.1.sto g (by omega), hn, h.2.2.2.2.2.2.2.sto g (by omega)⟩
theorem Rs.a7 {f : Nat → Int32} (h : Rs D kA H o F s b v p u t c) (g : sto (o + 7) H H1) (hn : hp D H1 (o + 7) (eI kA 180 f)) : Rs D kA H1 o F s b v p u t f :=
  ⟨h.1.sto g (by omega), h.2.1.sto g (by omega), h.2.2.1.sto g (by omega), h.2.2.2.1.sto g (by omega), h.2.2.2.2.1.sto g (by omega), h.2.2.2.2.2.1.sto g (by omega), h.2.2.2.2.2.2.1.sto g (by omega), hn⟩
end RSV
def r_in (x lo hi : Int32) : Int32 := if x < lo then 0 else if hi < x then 0 else 1
theorem r_in_01 (x lo hi : Int32) : r_in x lo hi = 0 ∨ r_in x lo hi = 1 := by
  unfold r_in
  by_cases h1 : x < lo
  · exact Or.inl (if_pos h1)
  · rw [if_neg h1]
    by_cases h2 : hi < x
    · exact Or.inl (if_pos h2)
    · exact Or.inr (if_neg h2)
theorem r_in_nat {x : Int32} {n : Nat} (hn : n < 2 ^ 31) (h : ¬ r_in x 0 (nI n - 1) = 0) : ∃ i, i < n ∧ x = nI i := by
  unfold r_in at h
  by_cases h1 : x < 0
  · rw [if_pos h1] at h; exact absurd rfl h
  · rw [if_neg h1] at h
    by_cases h2 : nI n - 1 < x
    · rw [if_pos h2] at h; exact absurd rfl h
    · have a1 : (0 : Int) ≤ x.toInt := by rw [Int32.lt_iff_toInt_lt] at h1; simpa using h1
      have a3 : x.toInt < n := by
        rw [Int32.lt_iff_toInt_lt] at h2
        by_cases hz : n = 0
        · subst hz
          have : (nI 0 - 1).toInt = -1 := by decide
          omega
        · have e : nI n - 1 = nI (n - 1) := by
            have := nI_1 (n - 1)
            rw [show n - 1 + 1 = n by omega] at this
            rw [← this]; simp
          rw [e, nI_toInt (by omega)] at h2
          omega
      refine ⟨x.toInt.toNat, by omega, ?_⟩
      apply Int32.toInt_inj.mp
      rw [nI_toInt (by omega)]
      omega
/-- a card's cell -/
def ro (s : Nat → Int32) (i w : Nat) : Int32 := s (33 + 17 * i + w)
def rw_ (s : Nat → Int32) (i w : Nat) (x : Int32) : Nat → Int32 := upd s (33 + 17 * i + w) x
def r_sum (s : Nat → Int32) (i d : Nat) : Int32 := if ro s i (14 + d % 3) = nI d then ro s i (11 + d % 3) else 0
def r_add (s : Nat → Int32) (i d : Nat) (x : Int32) : Nat → Int32 := rw_ (rw_ s i (11 + d % 3) (r_sum s i d + x)) i (14 + d % 3) (nI d)
def r_cap (s : Nat → Int32) (i : Nat) : Int32 := if ro s i 0 = 1 then 350 else 700
def r_paid (s : Nat → Int32) (i : Nat) (x : Int32) : Int32 := if ro s i 0 = 1 then x / 2 else x
def r_left (s : Nat → Int32) (i d : Nat) : Int32 := r_cap s i - r_sum s i d
def r_zn (s : Nat → Int32) : Nat → Int32 := fun j => s (9 + j)
def r_bits (x : Int32) : Int32 := 0 + (x >>> ((1 : Int32) &&& 31) &&& 1) + (x >>> ((2 : Int32) &&& 31) &&& 1) + (x >>> ((3 : Int32) &&& 31) &&& 1) + (x >>> ((4 : Int32) &&& 31) &&& 1) + (x >>> ((5 : Int32) &&& 31) &&& 1) + (x >>> ((6 : Int32) &&& 31) &&& 1)
def r_zones (s : Nat → Int32) (f t : Nat) : Int32 := r_bits (ln_set (r_zn s) (min f t) (max f t + 1 - min f t))
def r_price (s : Nat → Int32) (f t : Nat) : Int32 := s 2 + s 3 * (r_zones s f t - 1)
def r_min (a b : Int32) : Int32 := if b < a then b else a
def r_max (a b : Int32) : Int32 := if a < b then b else a
/-- what a charge of x takes -/
def r_chg (s : Nat → Int32) (i d : Nat) (x : Int32) : Int32 := r_min x (r_left s i d)
def r_pay (s : Nat → Int32) (i d : Nat) (c : Int32) : Nat → Int32 :=
  let a := r_add s i d c
  let b := rw_ a i 1 (ro a i 1 - c)
  upd b 5 (b 5 + c)
def r_lossX (s : Nat → Int32) (i d : Nat) : Int32 := r_chg s i d (r_paid s i (s 2 + 5 * s 3))
def r_loses (s : Nat → Int32) (i d : Nat) : Nat → Int32 :=
  let c := r_lossX s i d
  let a := r_pay s i d c
  let a := rw_ a i 8 (ro a i 2)
  let a := rw_ a i 9 (nI d)
  let a := rw_ a i 10 c
  let a := rw_ a i 2 (-1)
  let a := rw_ a i 6 (-1)
  upd a 8 (a 8 + 1)
def r_to (s : Nat → Int32) (i j w : Nat) : Int32 := r_max 0 (r_paid s i (r_price s j w) - ro s i 5)
def r_cont (s : Nat → Int32) (i : Nat) (w : Int32) : Int32 := if 0 ≤ ro s i 2 then 0 else if ¬ ro s i 6 = w then 0 else if 15 < s 1 - ro s i 7 then 0 else 1
