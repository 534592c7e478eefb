/-! What nobody writes, at the start. -/
set_option maxRecDepth 100000 in
theorem start_ex {s : State} {args : Array Value} (hts : ∀ w ∈ lw_tbl, w.before args s = true) (hg : (Jvm.Cond.and given_1 narrow_1).before args s = true) : Ex s := by
  refine ⟨fun w hw => va_tabs (Ex.tab hw) rfl (hts w ((show ∀ w ∈ wX, w ∈ lw_tbl by decide +kernel) w hw)), fun x hx y hy hn => ?_⟩
  have hf := flat_of_before _ hg
  exact va_Nc.of (hf _ ((show ∀ x ∈ wE, ∀ y ∈ wE, x ≠ y → Cond.not (.castable x y) ∈ flatC (Jvm.Cond.and given_1 narrow_1) by decide +kernel) x hx y hy hn))
theorem start_nt {l : Launch} (h : l.flags = flags0) : l.stackTraces = false := by
  unfold Launch.stackTraces
  rw [h]
  decide
