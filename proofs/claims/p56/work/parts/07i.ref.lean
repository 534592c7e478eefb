theorem Rs.to {D : va_G} {kA : Nat → ClassId} {H : Heap} {o : Nat} {F F1 s b v p u u1 t c : Nat → Int32} (h : Rs D kA H o F s b v p u t c) (e1 : F = F1) (e2 : u = u1) : Rs D kA H o F1 s b v p u1 t c := by subst e1; subst e2; exact h
theorem r_rem10 {d : Nat} (hd : d < 2 ^ 31) : nI d - nI d / 10 * 10 = nI (d % 10) := pk_rem (a := d) (d := 10) hd (by decide) (by decide)
