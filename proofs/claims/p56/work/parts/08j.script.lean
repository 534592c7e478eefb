/-- the commands from the i-th on, r of them: which one failed, the row behind -/
def q_one (s c : Nat → Int32) (i : Nat) : Q6 := q_do s (s 0).toNatClampNeg (s 1).toNatClampNeg (c (3 * i)) (c (3 * i + 1)) (c (3 * i + 2))
def q_run (c : Nat → Int32) : Nat → Nat → (Nat → Int32) → Option Nat × (Nat → Int32)
  | 0, _, s => (none, s)
  | r + 1, i, s => if (q_one s c i).1 = 0 then q_run c r (i + 1) (q_one s c i).2.2 else (some i, s)
theorem RI.one {s c : Nat → Int32} {n t i : Nat} (h : RI s n t) : q_one s c i = q_do s n t (c (3 * i)) (c (3 * i + 1)) (c (3 * i + 2)) := by
  have e0 : (s 0).toNatClampNeg = n := by rw [h.1]; exact nI_clamp (by have := h.2.1; omega)
  have e1 : (s 1).toNatClampNeg = t := by rw [h.2.2.1]; exact nI_clamp (by have := h.2.2.2.1; omega)
  unfold q_one
  rw [e0, e1]
