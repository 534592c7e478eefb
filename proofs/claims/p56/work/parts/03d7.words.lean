set_option maxRecDepth 100000 in
theorem mi_L_carded : Mi yL_carded cL_carded 9 (some .boolean) 1 := ⟨(tm 804 rfl (by decide +kernel)), (tm 8 (by decide +kernel) (by decide +kernel)), (by decide +kernel), (by decide +kernel), (by decide +kernel)⟩
set_option maxRecDepth 100000 in
theorem mi_L_undone : Mi yL_undone cL_undone 8 (some .boolean) 2 := ⟨(tm 1380 rfl (by decide +kernel)), (tm 8 (by decide +kernel) (by decide +kernel)), (by decide +kernel), (by decide +kernel), (by decide +kernel)⟩
