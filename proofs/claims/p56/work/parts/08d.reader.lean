section RSD
variable {D : va_G} {kA : Nat → ClassId} {H : Heap} {o w a n w1 a1 n1 : Nat} {F s b v p u t c c1 : Nat → Int32}
theorem Rs.d12 (h : Rs D kA H o (upd (r_rd F w a n) 12 (nI w1)) s b v p u t c) : Rs D kA H o (r_rd F w1 a n) s b v p u t c := rd12 (F := F) ▸ h
theorem Rs.d11 (h : Rs D kA H o (upd (r_rd F w a n) 11 (nI a1)) s b v p u t c) : Rs D kA H o (r_rd F w a1 n) s b v p u t c := rd11 (F := F) ▸ h
theorem Rs.d16 (h : Rs D kA H o (upd (r_rd F w a n) 16 (nI n1)) s b v p u t c) : Rs D kA H o (r_rd F w a n1) s b v p u t c := rd16 (F := F) ▸ h
theorem Rs.cmd {q : RK} (h : Rs D kA H o (r_rd F w a n) s b v p u t c) (e : q = (w, a, n, c)) : Rs D kA H o (r_rd F q.1 q.2.1 q.2.2.1) s b v p u t q.2.2.2 := by subst e; exact h
end RSD
theorem q_skip_w {t : Nat → Int32} {len : Nat} {L : List Int32} {z : Nat × Nat} (h : ¬ z.1 = 0) : q_skip t len L z = z := by
  cases L with
  | nil => rfl
  | cons x L => exact if_pos h
