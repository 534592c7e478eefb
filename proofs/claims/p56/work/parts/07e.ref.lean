/-! The reference's questions, as functions. -/
theorem Rs.z {D : va_G} {kA : Nat → ClassId} {H : Heap} {o z : Nat} {F s b v p u t c : Nat → Int32} (h : Rs D kA H o (upd F 6 (nI z)) s b v p u t c) : Rs D kA H o (upd F 6 (nI z)) s b v p u t c := h
theorem g_e {D : va_G} {kA : Nat → ClassId} {H : Heap} {o : Nat} {F s b v p u t c : Nat → Int32} {g : Nat × Int32} {z : Nat} {a x : Int32} (h1 : x = a) (h2 : Rs D kA H o (upd F 6 (nI z)) s b v p u t c) (e : g = (z, a)) : x = g.2 ∧ Rs D kA H o (upd F 6 (nI g.1)) s b v p u t c := by
  subst e
  exact ⟨h1, h2⟩
theorem q_f {D : va_G} {kA : Nat → ClassId} {H : Heap} {o k : Nat} {F s s1 v p u t c : Nat → Int32} {q : Q6} {z : Nat} {a x : Int32} (h : x = (if z = 0 then a else 0) ∧ Rs D kA H o (r_fd F k z) (if z = 0 then s1 else s) s v (if z = 0 then r_push p s k else p) u t c) (e : q = (z, a, s1)) : x = (if q.1 = 0 then q.2.1 else 0) ∧ Rs D kA H o (r_fd F k q.1) (if q.1 = 0 then q.2.2 else s) s v (if q.1 = 0 then r_push p s k else p) u t c := by
  subst e
  exact h
theorem q_issue_lt (s : Nat → Int32) (r : Int32) : (q_issue s r).1 < 4 := by unfold q_issue; dsimp only; (repeat' split) <;> first | exact (show 0 < 4 by decide) | exact (show 1 < 4 by decide) | exact (show 2 < 4 by decide) | exact (show 3 < 4 by decide)
theorem q_load_lt (s : Nat → Int32) (x y : Int32) : (q_load s x y).1 < 4 := by unfold q_load; dsimp only; (repeat' split) <;> first | exact (show 0 < 4 by decide) | exact (show 1 < 4 by decide) | exact (show 2 < 4 by decide) | exact (show 3 < 4 by decide)
theorem q_in_lt (s : Nat → Int32) (d : Nat) (x y : Int32) : (q_in s d x y).1 < 4 := by unfold q_in; dsimp only; (repeat' split) <;> first | exact (show 0 < 4 by decide) | exact (show 1 < 4 by decide) | exact (show 2 < 4 by decide) | exact (show 3 < 4 by decide)
theorem q_out_lt (s : Nat → Int32) (d : Nat) (x y : Int32) : (q_out s d x y).1 < 4 := by unfold q_out; dsimp only; (repeat' split) <;> first | exact (show 0 < 4 by decide) | exact (show 1 < 4 by decide) | exact (show 2 < 4 by decide) | exact (show 3 < 4 by decide)
theorem q_fix_lt (s : Nat → Int32) (d : Nat) (x y : Int32) : (q_fix s d x y).1 < 4 := by unfold q_fix; dsimp only; (repeat' split) <;> first | exact (show 0 < 4 by decide) | exact (show 1 < 4 by decide) | exact (show 2 < 4 by decide) | exact (show 3 < 4 by decide)
theorem q_zone_lt (s : Nat → Int32) (x y : Int32) : (q_zone s x y).1 < 4 := by unfold q_zone; (repeat' split) <;> first | exact (show 0 < 4 by decide) | exact (show 1 < 4 by decide) | exact (show 2 < 4 by decide) | exact (show 3 < 4 by decide)
theorem q_wait_lt (s : Nat → Int32) (n t : Nat) (x : Int32) : (q_wait s n t x).1 < 4 := by unfold q_wait; dsimp only; (repeat' split) <;> first | exact (show 0 < 4 by decide) | exact (show 1 < 4 by decide) | exact (show 2 < 4 by decide) | exact (show 3 < 4 by decide)
def g_zone (s : Nat → Int32) (x : Int32) : Nat × Int32 := if r_in x 0 11 = 0 then (1, 0) else (0, s (9 + x.toNatClampNeg))
def g_taps (s : Nat → Int32) (x : Int32) : Nat × Int32 := if r_in x 0 11 = 0 then (1, 0) else (0, s (21 + x.toNatClampNeg))
def g_zc (s : Nat → Int32) (x y : Int32) : Nat × Int32 := if r_in x 0 11 = 0 then (1, 0) else if r_in y 0 11 = 0 then (1, 0) else (0, r_zones s x.toNatClampNeg y.toNatClampNeg)
def g_fare (s : Nat → Int32) (x y : Int32) : Nat × Int32 := if r_in x 0 11 = 0 then (1, 0) else if r_in y 0 11 = 0 then (1, 0) else (0, r_price s x.toNatClampNeg y.toNatClampNeg)
def g_card (s : Nat → Int32) (x : Int32) (f : Nat → Int32) : Nat × Int32 := if r_in x 0 (s 0 - 1) = 0 then (1, 0) else (0, f x.toNatClampNeg)
def g_go (s : Nat → Int32) (x : Int32) : Nat := if r_in x 0 (s 0 - 1) = 0 then 1 else if ¬ 0 ≤ ro s x.toNatClampNeg 2 then 2 else 0
theorem g_go_0 {s : Nat → Int32} {x : Int32} (h : g_go s x = 0) : ¬ r_in x 0 (s 0 - 1) = 0 := fun q => by rw [g_go, if_pos q] at h; exact absurd h (by decide)
theorem g_go_c {g : Nat} (h : ¬ (if g = 0 then (1 : Int32) else 0) = 0) : g = 0 := by
  by_cases e : g = 0
  · exact e
  · rw [if_neg e] at h; exact absurd rfl h
theorem g_go_d {g : Nat} (h : (if g = 0 then (1 : Int32) else 0) = 0) : ¬ g = 0 := fun e => by rw [if_pos e] at h; exact absurd h (by decide)
def g_trip (s : Nat → Int32) (x : Int32) (f : Nat → Int32) : Nat × Int32 := (g_go s x, if g_go s x = 0 then f x.toNatClampNeg else 0)
def g_would (s : Nat → Int32) (x y : Int32) : Nat × Int32 := if r_in x 0 (s 0 - 1) = 0 then (1, 0) else if r_in y 0 11 = 0 then (1, 0) else (0, r_cont s x.toNatClampNeg y)
def g_ifOut (s : Nat → Int32) (d : Nat) (x y : Int32) : Nat × Int32 := if r_in x 0 (s 0 - 1) = 0 then (1, 0) else if r_in y 0 11 = 0 then (1, 0) else g_trip s x fun i => r_chg s i d (r_to s i (ro s i 4).toNatClampNeg y.toNatClampNeg)
def g_on (s : Nat → Int32) (d : Nat) (x y : Int32) : Nat × Int32 := if r_in x 0 (s 0 - 1) = 0 then (1, 0) else if y < 0 then (2, 0) else if r_in (nI d - y) 0 2 = 0 then (2, 0) else (0, r_sum s x.toNatClampNeg y.toNatClampNeg)
def r_rep (s : Nat → Int32) (d i : Nat) : Int32 := if ro s i 8 < 0 then 0 else if 2 < nI d - ro s i 9 then 0 else 1
/-- stations ahead of one, of the first k -/
def r_rkT (s : Nat → Int32) (one : Nat) : Nat → Nat
  | 0 => 0
  | k + 1 => if 0 < s (21 + k) - s (21 + one) ∨ (s (21 + k) - s (21 + one) = 0 ∧ k < one) then r_rkT s one k + 1 else r_rkT s one k
def r_rkC (s : Nat → Int32) (d : Nat) (one : Nat) : Nat → Nat
  | 0 => 0
  | k + 1 => if 0 < r_sum s k d - r_sum s one d ∨ (r_sum s k d - r_sum s one d = 0 ∧ (0 < ro s one 1 - ro s k 1 ∨ (ro s one 1 - ro s k 1 = 0 ∧ k < one))) then r_rkC s d one k + 1 else r_rkC s d one k
theorem r_rkT_le (s : Nat → Int32) (i : Nat) : ∀ n, r_rkT s i n ≤ n
  | 0 => Nat.le_refl 0
  | n + 1 => by have h := r_rkT_le s i n; unfold r_rkT; split <;> omega
theorem r_rkC_le (s : Nat → Int32) (d i : Nat) : ∀ n, r_rkC s d i n ≤ n
  | 0 => Nat.le_refl 0
  | n + 1 => by have h := r_rkC_le s d i n; unfold r_rkC; split <;> omega
/-- the last one of the first k with that many ahead -/
def r_fnd (f : Nat → Nat) (r : Nat) : Nat → Nat
  | 0 => 0
  | k + 1 => if f k = r then k else r_fnd f r k
theorem r_fnd_le (f : Nat → Nat) (r : Nat) : ∀ k, r_fnd f r k ≤ k
  | 0 => Nat.le_refl 0
  | k + 1 => by have h := r_fnd_le f r k; unfold r_fnd; split <;> omega
def g_st (s : Nat → Int32) (x : Int32) : Nat × Int32 := if r_in x 0 11 = 0 then (1, 0) else (0, nI (r_fnd (fun i => r_rkT s i 12) x.toNatClampNeg 12))
def g_ca (s : Nat → Int32) (n d : Nat) (x : Int32) : Nat × Int32 := if r_in x 0 (s 0 - 1) = 0 then (1, 0) else (0, nI (r_fnd (fun i => r_rkC s d i n) x.toNatClampNeg n))
theorem hp.cpyS {D : va_G} {H : Heap} {a j n k : Nat} {kA : Nat → ClassId} {f g : Nat → Int32} (h : hp D H a (.inl (kA j, n, .inl (va_cpy f g k 0 n)))) : hp D H a (.inl (kA j, n, .inl (fun q => f (k + q)))) := h.cong (fun i hi => by rw [pk_cpy_in (by omega) (by omega), Nat.sub_zero])
