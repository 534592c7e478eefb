/-! The law whole. -/
set_option maxRecDepth 100000 in
set_option maxHeartbeats 4000000 in
theorem law_full (l : Launch) (D : va_G) (kA : Nat → ClassId) (Hs : Heap) (σ : SG) (hnt : l.stackTraces = false) {Pp : Program} {Ee : Env} {Ss : State} {Mm : MethodId} {Ar : Array Value} {Bl : List Frame} {Me : Method} {Cc : Code} (Z : Ys Pp Ss Mm Ar Me Cc cL_law 9 (some .boolean) "MetroFaresLaw" D kA (AA Hs nof) Hs σ) (sa N : Nat) (f : Nat → Int32) (hsa : va_X sa N f Ss Ss.heap ∧ sa < Ss.heap.size ∧ ¬ AA Hs nof sa) (hN : N ≤ 1536) : V Pp l Ee (rmO 2048 94400 603072 7194730) Ss Mm Ar Bl Me Cc 9 (AA Hs nof) (QC Bl Ar Ss 603072 7194730 Hs nof (pI fun v9 H => v9 = 1)) Hs 0 0 0 [(0, .ref sa)] [] := by
  refine law_run l D kA Hs σ hnt Z sa N f hsa hN (fun a j H ha hj hI kk => ⟨lc_38 l D kA Hs σ hnt Z sa N f hsa hN a j hj H hI kk, lc_39 l D kA Hs σ hnt Z sa N f hsa hN a j hj H hI kk, lc_40 l D kA Hs σ hnt Z sa N f hsa hN a j hj H hI kk, lc_41 l D kA Hs σ hnt Z sa N f hsa hN a j hj H hI kk⟩) (fun a j H hj hg => ?_)
  have Y := Z.1
  refine V_iconst Y.1 (v := 1) dL_law_2787 (rfl : _ = 2788) (by decide) ?_
  exact V_ret Y.1 dL_law_2788 rfl (by omega) (by omega) rfl
