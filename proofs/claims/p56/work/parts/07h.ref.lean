/-! What the reference says: digits, signs. -/
theorem ch_nar {n : Nat} (h : n < 128) : narrow .char (.int (nI n)) = .int (nI n) := by
  have g : ∀ t : Fin 128, (nI t.1).toUInt32.toUInt16.toUInt32.toInt32 = nI t.1 := by decide +kernel
  simp only [narrow]
  exact congrArg _ (g ⟨n, h⟩)
theorem ch_i2c {n : Nat} (h : n < 128) : ((nI n).toUInt32 % 65536).toInt32 = nI n := by
  have g : ∀ t : Fin 128, ((nI t.1).toUInt32 % 65536).toInt32 = nI t.1 := by decide +kernel
  exact g ⟨n, h⟩
/-- the digits of v, at most k of them -/
def dg : Nat → Nat → List Int32
  | 0, _ => []
  | k + 1, v => (if v ≤ 9 then [] else dg k (v / 10)) ++ [nI (48 + v % 10)]
theorem dg_len : ∀ (k v : Nat), (dg k v).length ≤ k
  | 0, _ => Nat.le_refl 0
  | k + 1, v => by
    have h := dg_len k (v / 10)
    unfold dg
    rw [List.length_append]
    split
    · simp
    · simp; omega
theorem dg_9 {k v : Nat} (h : v ≤ 9) : dg (k + 1) v = [nI (48 + v % 10)] := by rw [dg, if_pos h]; rfl
theorem dg_10 {k v : Nat} (h : ¬ v ≤ 9) : dg (k + 1) v = dg k (v / 10) ++ [nI (48 + v % 10)] := by rw [dg, if_neg h]
def r_put (u : Nat → Int32) : Nat → List Int32 → Nat → Int32
  | _, [] => u
  | q, x :: L => r_put (upd u q x) (q + 1) L
theorem r_put_app (A B : List Int32) : ∀ (u : Nat → Int32) (q : Nat), r_put u q (A ++ B) = r_put (r_put u q A) (q + A.length) B := by
  induction A with
  | nil => intro u q; rfl
  | cons x A ih =>
    intro u q
    show r_put (upd u q x) (q + 1) (A ++ B) = _
    rw [ih]
    show _ = r_put (r_put (upd u q x) (q + 1) A) (q + (A.length + 1)) B
    rw [show q + 1 + A.length = q + (A.length + 1) by omega]
/-- a number as it is said -/
def sg (x : Int32) : List Int32 := if x < 0 then 45 :: dg 5 (-x.toInt).toNat else dg 5 x.toInt.toNat
theorem sg_pos {w : Nat} (h : w < 2 ^ 31) : sg (nI w) = dg 5 w := by
  unfold sg
  rw [if_neg (nI_pos h), nI_toInt h]
  rfl
theorem nI_neg {w : Nat} (h : w < 2 ^ 31) : (-(nI w)).toInt = -(w : Int) := by
  have e := nI_toInt h
  rw [Int32.toInt_neg, e]
  apply Int.bmod_eq_of_le <;> omega
theorem sg_neg {w : Nat} (h0 : 0 < w) (h : w < 2 ^ 31) : sg (-(nI w)) = 45 :: dg 5 w := by
  unfold sg
  rw [if_pos (by rw [Int32.lt_iff_toInt_lt, nI_neg h]; simp; omega), nI_neg h]
  simp
theorem sg_len (x : Int32) : (sg x).length ≤ 6 := by
  unfold sg
  split
  · have := dg_len 5 (-x.toInt).toNat; simp; omega
  · have := dg_len 5 x.toInt.toNat; omega
theorem nI_absN {w : Nat} (h0 : 0 < w) (h : w < 2 ^ 31) : (if 0 ≤ -(nI w) then -(nI w) else 0 - -(nI w)) = nI w := by
  rw [if_neg (by rw [Int32.le_iff_toInt_le, nI_neg h]; simp; omega)]
  simp
theorem nI_absP {w : Nat} (h : w < 2 ^ 31) : (if 0 ≤ nI w then nI w else 0 - nI w) = nI w := if_pos (nI_pos' h)
def g_out (F u : Nat → Int32) (x : Int32) : Nat × Int32 := if r_in x 0 (F 8 - 1) = 0 then (1, 32) else (0, u x.toNatClampNeg)
def r_card (s : Nat → Int32) (i : Nat) : List Int32 := sg (nI i) ++ ((if ro s i 0 = 1 then 114 else 102) :: 58 :: (sg (ro s i 1) ++ (if ro s i 2 < 0 then [] else 64 :: sg (ro s i 2))))
def r_zl (s : Nat → Int32) : Nat → List Int32
  | 0 => []
  | k + 1 => r_zl s k ++ sg (s (9 + k))
