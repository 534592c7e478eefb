/-! The states of the class's objects: Line, Card, Metro; footprints; numbers. -/
def blk (a n : Nat) : Nat → Prop := fun q => a ≤ q ∧ q < a + n
theorem blk_sub {a n b k : Nat} (h1 : b ≤ a) (h2 : a + n ≤ b + k) : ∀ q, blk a n q → blk b k q := fun q h => ⟨Nat.le_trans h1 h.1, Nat.lt_of_lt_of_le h.2 h2⟩
def nof : Nat → Prop := fun _ => False
theorem nof_sub {P : Nat → Prop} : ∀ q, nof q → P q := fun _ h => h.elim
/-- Math.max, min of small numbers -/
theorem mx_nI {a b : Nat} (ha : a < 2 ^ 31) (hb : b < 2 ^ 31) : (if nI a < nI b then nI b else nI a) = nI (max a b) := by
  by_cases h : a < b
  · rw [if_pos (nI_lt h hb), Nat.max_eq_right (by omega)]
  · rw [if_neg (nI_nlt (by omega) ha), Nat.max_eq_left (by omega)]
theorem mn_nI {a b : Nat} (ha : a < 2 ^ 31) (hb : b < 2 ^ 31) : (if nI b < nI a then nI b else nI a) = nI (min a b) := by
  by_cases h : b < a
  · rw [if_pos (nI_lt h ha), Nat.min_eq_right (by omega)]
  · rw [if_neg (nI_nlt (by omega) hb), Nat.min_eq_left (by omega)]
-- Line: zones, taps, base fare, zone fare
def Ln (D : va_G) (kA : Nat → ClassId) (H : Heap) (a : Nat) (z t : Nat → Int32) (b p : Int32) : Prop :=
  hp D H a (eO 6 [.ref (a + 1), .ref (a + 2), .int b, .int p]) ∧ hp D H (a + 1) (eI kA 12 z) ∧ hp D H (a + 2) (eI kA 12 t)
theorem Ln.off {D : va_G} {kA : Nat → ClassId} {H H1 : Heap} {a : Nat} {z t : Nat → Int32} {b p : Int32} {F : Nat → Prop} (h : Ln D kA H a z t b p) (o : off F H H1) (hn : ∀ q, blk a 3 q → ¬ F q) : Ln D kA H1 a z t b p :=
  ⟨h.1.off o (hn _ ⟨by omega, by omega⟩), h.2.1.off o (hn _ ⟨by omega, by omega⟩), h.2.2.off o (hn _ ⟨by omega, by omega⟩)⟩
/-- the zones of n stations from a on, as bits -/
def ln_set (z : Nat → Int32) (a : Nat) : Nat → Int32
  | 0 => 0
  | n + 1 => ln_set z a n ||| ((1 : Int32) <<< (z (a + n) &&& 31))
/-- Integer.bitCount -/
def j_bc (i : Int32) : Int32 :=
  let a := i - ((i.toUInt32 >>> ((1 : Int32).toUInt32 &&& Int32.toUInt32 31)).toInt32 &&& 1431655765)
  let b := (a &&& 858993459) + ((a.toUInt32 >>> ((2 : Int32).toUInt32 &&& Int32.toUInt32 31)).toInt32 &&& 858993459)
  let c := (b + (b.toUInt32 >>> ((4 : Int32).toUInt32 &&& Int32.toUInt32 31)).toInt32) &&& 252645135
  let d := c + (c.toUInt32 >>> ((8 : Int32).toUInt32 &&& Int32.toUInt32 31)).toInt32
  let e := d + (d.toUInt32 >>> ((16 : Int32).toUInt32 &&& Int32.toUInt32 31)).toInt32
  e &&& 63
def ln_cnt (z : Nat → Int32) (f t : Nat) : Int32 := j_bc (ln_set z (min f t) (max f t + 1 - min f t))
def ln_fare (z : Nat → Int32) (b p : Int32) (f t : Nat) : Int32 := b + p * (ln_cnt z f t - 1)
/-- is station a + n's zone new among the k stations from a on? -/
def ln_new (z : Nat → Int32) (a i : Nat) : Nat → Bool
  | 0 => true
  | k + 1 => if z (a + k) = z i then false else ln_new z a i k
/-- how many of n stations from a on have a zone that no station ahead of them has -/
def ln_prs (z : Nat → Int32) (a : Nat) : Nat → Nat
  | 0 => 0
  | n + 1 => if ln_new z a (a + n) n then ln_prs z a n + 1 else ln_prs z a n
def ln_pairs (z : Nat → Int32) (f t : Nat) : Nat := ln_prs z (min f t) (max f t + 1 - min f t)
/-- stations ahead in the ranking, of the first n -/
def ln_rk (t : Nat → Int32) (s : Nat) : Nat → Nat
  | 0 => 0
  | n + 1 => if t n > t s ∨ (t n = t s ∧ n < s) then ln_rk t s n + 1 else ln_rk t s n
theorem ln_rk_le (t : Nat → Int32) (s : Nat) : ∀ n, ln_rk t s n ≤ n
  | 0 => Nat.le_refl 0
  | n + 1 => by
    have h := ln_rk_le t s n
    unfold ln_rk
    split <;> omega
theorem ln_prs_le (z : Nat → Int32) (a : Nat) : ∀ n, ln_prs z a n ≤ n
  | 0 => Nat.le_refl 0
  | n + 1 => by
    have h := ln_prs_le z a n
    unfold ln_prs
    split <;> omega
section V9
variable {p : Program} {l : Launch} {e : Env} {R : Room} {s : State} {m : MethodId} {args : Array Value} {below : List Frame} {meth : Method} {c : Code} {nL : Nat} {A : Nat → Prop} {Q : State → Prop} {H : Heap} {k n pc : Nat} {ls : List (Nat × Value)} {st : List Value}
theorem V_top {x : Int32} (kk : ∀ v : Int32, v = x → V p l e R s m args below meth c nL A Q H k n pc ls (.int v :: st)) : V p l e R s m args below meth c nL A Q H k n pc ls (.int x :: st) := kk x rfl
end V9
-- Card: fields 0 to 13; the days of its sums; its sums; its latest entry
abbrev KS : Type := (Nat → Int32) × (Nat → Int32) × (Nat → Int32)
def cF (a : Nat) (κ : KS) (en : Option Nat) : List Value := [.int (κ.1 0), .int (κ.1 1), .int (κ.1 2), .int (κ.1 3), .int (κ.1 4), .int (κ.1 5), .int (κ.1 6), .int (κ.1 7), .int (κ.1 8), .int (κ.1 9), .int (κ.1 10), .int (κ.1 11), .int (κ.1 12), .int (κ.1 13), .ref (a + 1), .ref (a + 2), va_rf en]
def Cd (D : va_G) (kA : Nat → ClassId) (H : Heap) (a : Nat) (κ : KS) (en : Option Nat) : Prop :=
  hp D H a (eO 4 (cF a κ en)) ∧ hp D H (a + 1) (eI kA 3 κ.2.1) ∧ hp D H (a + 2) (eI kA 3 κ.2.2)
theorem Cd.off {D : va_G} {kA : Nat → ClassId} {H H1 : Heap} {a : Nat} {κ : KS} {en : Option Nat} {F : Nat → Prop} (h : Cd D kA H a κ en) (o : off F H H1) (hn : ∀ q, blk a 3 q → ¬ F q) : Cd D kA H1 a κ en :=
  ⟨h.1.off o (hn _ ⟨by omega, by omega⟩), h.2.1.off o (hn _ ⟨by omega, by omega⟩), h.2.2.off o (hn _ ⟨by omega, by omega⟩)⟩
/-- the chain of entries, in cells of ES -/
def Chn (D : va_G) (H : Heap) (ES : Nat → Prop) : Option Nat → List (Int32 × Int32) → Prop
  | en, [] => en = none
  | en, (d, c) :: t => ∃ (q : Nat) (r : Option Nat), en = some q ∧ ES q ∧ hp D H q (eO 5 [.int d, .int c, va_rf r]) ∧ Chn D H ES r t
theorem Chn.off {D : va_G} {H H1 : Heap} {ES F : Nat → Prop} (o : off F H H1) (hn : ∀ q, ES q → ¬ F q) : ∀ {L : List (Int32 × Int32)} {en : Option Nat}, Chn D H ES en L → Chn D H1 ES en L
  | [], _, h => h
  | (_, _) :: _, _, h => by
    obtain ⟨q, r, h1, h2, h3, h4⟩ := h
    exact ⟨q, r, h1, h2, h3.off o (hn q h2), Chn.off o hn h4⟩
theorem Chn.mono {D : va_G} {H : Heap} {ES ES' : Nat → Prop} (g : ∀ q, ES q → ES' q) : ∀ {L : List (Int32 × Int32)} {en : Option Nat}, Chn D H ES en L → Chn D H ES' en L
  | [], _, h => h
  | (_, _) :: _, _, h => by
    obtain ⟨q, r, h1, h2, h3, h4⟩ := h
    exact ⟨q, r, h1, g q h2, h3, Chn.mono g h4⟩
def k_cap (κ : KS) : Int32 := if κ.1 0 = 0 then 700 else 350
def k_price (κ : KS) (x : Int32) : Int32 := if κ.1 0 = 0 then x else x / 2
def k_sumOf (κ : KS) (d : Nat) : Int32 := if κ.2.1 (d % 3) = nI d then κ.2.2 (d % 3) else 0
def k_left (κ : KS) (d : Nat) : Int32 := k_cap κ - k_sumOf κ d
/-- the cents of the entries of a day, added from the latest on -/
def k_recs (d : Int32) : List (Int32 × Int32) → Int32 → Int32
  | [], acc => acc
  | (x, c) :: t, acc => k_recs d t (if x = d then acc + c else acc)
def k_cont (κ : KS) (st mn : Int32) : Int32 := if κ.1 2 = 0 ∧ ¬ κ.1 7 = 0 ∧ κ.1 8 = st ∧ ¬ 15 < mn - κ.1 9 then 1 else 0
def k_enterD (κ : KS) (d : Nat) : Nat → Int32 := if κ.2.1 (d % 3) = nI d then κ.2.1 else upd κ.2.1 (d % 3) (nI d)
def k_enterS (κ : KS) (d : Nat) (x : Int32) : Nat → Int32 := if κ.2.1 (d % 3) = nI d then upd κ.2.2 (d % 3) (κ.2.2 (d % 3) + x) else upd κ.2.2 (d % 3) (0 + x)
def k_enter (κ : KS) (d : Nat) (x : Int32) : KS := (upd κ.1 1 (κ.1 1 - x), k_enterD κ d, k_enterS κ d x)
def k_begin (κ : KS) (st mn : Int32) : KS := if k_cont κ st mn = 0 then (fun j => if j = 2 then 1 else if j = 3 then st else if j = 4 then mn else if j = 5 then st else if j = 6 then 0 else κ.1 j, κ.2.1, κ.2.2) else (fun j => if j = 2 then 1 else if j = 3 then st else if j = 4 then mn else κ.1 j, κ.2.1, κ.2.2)
def k_complete (κ : KS) (st mn x : Int32) : KS := (fun j => if j = 2 then 0 else if j = 6 then κ.1 6 + x else if j = 7 then 1 else if j = 8 then st else if j = 9 then mn else κ.1 j, κ.2.1, κ.2.2)
def k_break (κ : KS) (d x : Int32) : KS := (fun j => if j = 2 then 0 else if j = 7 then 0 else if j = 10 then 1 else if j = 11 then κ.1 3 else if j = 12 then d else if j = 13 then x else κ.1 j, κ.2.1, κ.2.2)
def k_anew (κ : KS) (r : Int32) : KS := (fun j => if j = 0 then r else if j = 1 then 0 else if j = 2 then 0 else if j = 7 then 0 else if j = 10 then 0 else κ.1 j, upd (upd (upd κ.2.1 0 (-1)) 1 (-1)) 2 (-1), κ.2.2)
/-- what completing a trip at station t on day d costs -/
def k_trip (κ : KS) (z : Nat → Int32) (b p : Int32) (j t d : Nat) : Int32 :=
  let o := k_price κ (ln_fare z b p j t) - κ.1 6
  let o := if o < 0 then 0 else o
  if k_left κ d < o then k_left κ d else o
section V8
variable {p : Program} {l : Launch} {e : Env} {R : Room} {s : State} {m : MethodId} {args : Array Value} {below : List Frame} {meth : Method} {c : Code} {nL : Nat} {A : Nat → Prop} {Q : State → Prop} {H : Heap} {k n pc : Nat} {ls ls' : List (Nat × Value)} {st : List Value}
/-- fewer locals, in another order -/
theorem V_forget (is : List Nat) (hl : lv_pick ls is = ls') (kk : V p l e R s m args below meth c nL A Q H k n pc ls' st) : V p l e R s m args below meth c nL A Q H k n pc ls st := fun lsA locs h hS => kk lsA locs (lv_sub h is hl) hS
end V8
