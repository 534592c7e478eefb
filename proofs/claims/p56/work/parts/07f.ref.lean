theorem g_g {D : va_G} {kA : Nat → ClassId} {H : Heap} {o : Nat} {F s b v p u t c : Nat → Int32} {g z : Nat} {x : Int32} (h1 : x = (if z = 0 then 1 else 0)) (h2 : Rs D kA H o (upd F 6 (nI z)) s b v p u t c) (e : g = z) : x = (if g = 0 then 1 else 0) ∧ Rs D kA H o (upd F 6 (nI g)) s b v p u t c := by
  subst e
  exact ⟨h1, h2⟩
theorem r_cont_01 (s : Nat → Int32) (i : Nat) (w : Int32) : r_cont s i w = 0 ∨ r_cont s i w = 1 := by
  unfold r_cont
  (repeat' split) <;> simp
