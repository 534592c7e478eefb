theorem rd_ini {F : Nat → Int32} : upd (upd (upd F 11 0) 12 0) 16 0 = r_rd F 0 0 0 := by
  funext j
  unfold upd r_rd
  by_cases h1 : j = 16
  · subst h1; rfl
  · by_cases h2 : j = 12
    · subst h2; rfl
    · by_cases h3 : j = 11
      · subst h3; rfl
      · simp [h1, h2, h3]
theorem Rs.to0 {D : va_G} {kA : Nat → ClassId} {H : Heap} {o : Nat} {F s b v p u t c : Nat → Int32} (h : Rs D kA H o (upd (upd (upd F 11 0) 12 0) 16 0) s b v p u t c) : Rs D kA H o (r_rd F 0 0 0) s b v p u t c := rd_ini (F := F) ▸ h
