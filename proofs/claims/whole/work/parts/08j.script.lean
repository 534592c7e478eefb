/-- the commands from the i-th on, r of them: which one failed, the row behind -/
def q_one (s c : Nat → Int32) (i : Nat) : Q6 := q_do s (s 0).toNatClampNeg (s 1).toNatClampNeg (c (3 * i)) (c (3 * i + 1)) (c (3 * i + 2))
def q_run (c : Nat → Int32) : Nat → Nat → (Nat → Int32) → Option Nat × (Nat → Int32)
  | 0, _, s => (none, s)
  | r + 1, i, s => if (q_one s c i).1 = 0 then q_run c r (i + 1) (q_one s c i).2.2 else (some i, s)
theorem RI.one {s c : Nat → Int32} {n t i : Nat} (h : RI s n t) : q_one s c i = q_do s n t (c (3 * i)) (c (3 * i + 1)) (c (3 * i + 2)) := by
  have e0 : (s 0).toNatClampNeg = n := by rw [h.1]; exact nI_clamp (by have := h.2.1; omega)
  have e1 : (s 1).toNatClampNeg = t := by rw [h.2.2.1]; exact nI_clamp (by have := h.2.2.2.1; omega)
  unfold q_one
  rw [e0, e1]
set_option maxRecDepth 100000 in
set_option maxHeartbeats 4000000 in
theorem c_X6_does (l : Launch) (D : va_G) (kA : Nat → ClassId) (H0 : Heap) (o : Nat) (F s b v p u t c : Nat → Int32) (k n t0 : Nat) (hM : Rs D kA H0 o F s b v p u t c) (hI : RI s n t0) (ht2 : t0 + 2000 < 2 ^ 30) (h6 : F 6 = 0) (hk : k < 60) (e0 : okK (c (3 * k))) : Ct l D kA yX6_does cX6_does 5 none 6 138 0 0 H0 [.ref o, .int (nI k)] (blk o 8) (pV fun H => Rs D kA H o (upd F 6 (nI (q_do s n t0 (c (3 * k)) (c (3 * k + 1)) (c (3 * k + 2))).1)) ((q_do s n t0 (c (3 * k)) (c (3 * k + 1)) (c (3 * k + 2))).2.2) b v p u t c) := by
  rcases e0 with e0 | e0 | e0 | e0 | e0 | e0 | e0
  · exact c_X6_does_issue l D kA H0 o F s b v p u t c k n t0 hM hI ht2 h6 hk e0
  · exact c_X6_does_wait l D kA H0 o F s b v p u t c k n t0 hM hI ht2 h6 hk e0
  · exact c_X6_does_load l D kA H0 o F s b v p u t c k n t0 hM hI ht2 h6 hk e0
  · exact c_X6_does_in l D kA H0 o F s b v p u t c k n t0 hM hI ht2 h6 hk e0
  · exact c_X6_does_out l D kA H0 o F s b v p u t c k n t0 hM hI ht2 h6 hk e0
  · exact c_X6_does_fix l D kA H0 o F s b v p u t c k n t0 hM hI ht2 h6 hk e0
  · exact c_X6_does_zone l D kA H0 o F s b v p u t c k n t0 hM hI ht2 h6 hk e0

