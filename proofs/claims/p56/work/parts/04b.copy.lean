/-! System.arraycopy between arrays of ints; small values of small types. -/
def Ac (own : String) (idx : Nat) : Prop := Cond.methodLink own idx arraycopyName ∈ T0 ∧ Cond.native arraycopyName ∈ T0 ∧ Cond.static arraycopyName ∈ T0 ∧ Cond.initialized "java/lang/System" ∈ T0
theorem nb_z {x : Int32} (h : x = 0 ∨ x = 1) : narrow .boolean (.int x) = .int x := by rcases h with rfl | rfl <;> rfl
theorem fb_z {x : Int32} (h : x = 0 ∨ x = 1) : fits .boolean (.int x) = true := by rcases h with rfl | rfl <;> rfl
theorem nq_z {C : String} (r : Option Nat) : narrow (.object C) (va_rf r) = va_rf r := by cases r <;> rfl
theorem fq_z {C : String} (r : Option Nat) : fits (.object C) (va_rf r) = true := by cases r <;> rfl
section VCP
variable {p : Program} {l : Launch} {e : Env} {R : Room} {s : State} {m : MethodId} {args : Array Value} {below : List Frame} {meth : Method} {c : Code} {nL : Nat} {A : Nat → Prop} {Q : State → Prop} {H : Heap} {k n pc pc' : Nat} {ls : List (Nat × Value)} {st : List Value}
variable {cc : ByteArray} {own : String} {D : va_G} {kA : Nat → ClassId} {ret : Option FieldType} {idx : Nat}
theorem V_copy (X : Kx p s m args meth c cc nL ret own D kA A) (hw : Ac own idx) {j : Nat} {ty : FieldType} {a0 a1 n0 n1 sp dp N : Nat} {f g : Nat → Int32} {isp idp iN : Int32} (h0 : hp D H a0 (.inl (kA j, n0, .inl f))) (h1 : hp D H a1 (.inl (kA j, n1, .inl g))) (htj : (tyA kA)[j]? = some (kA j, ty)) (hprim : refKind ty = false) (hA : A a1)
    (e1 : isp = nI sp) (e2 : idp = nI dp) (e3 : iN = nI N) (b1 : sp + N ≤ n0) (b2 : dp + N ≤ n1) (b3 : n0 < 2 ^ 31) (b4 : n1 < 2 ^ 31) (hfit : ∀ i, i < N → fits ty (.int (f (sp + i))) = true)
    (hframes : 1 ≤ R.frames) (hlocals : (st.map fun v => v.category).sum + (nativeFrameWords "java/lang/System" "arraycopy" 5 + 11) ≤ R.locals) (hd : decode cc pc = .ok (.invokestatic idx, 3)) (hpc : pc + 3 = pc')
    (kk : ∀ H1 : Heap, hp D H1 a1 (.inl (kA j, n1, .inl (va_cpy f g sp dp N))) → sto a1 H H1 → V p l e R s m args below meth c nL A Q H1 k n pc' ls st) : V p l e R s m args below meth c nL A Q H k n pc ls (.int iN :: .int idp :: .ref a1 :: .int isp :: .ref a0 :: st) := by
  subst hpc
  subst e1
  subst e2
  subst e3
  have q1 : (nI sp).toNatClampNeg = sp := nI_clamp (by omega)
  have q2 : (nI dp).toNatClampNeg = dp := nI_clamp (by omega)
  have q3 : (nI N).toNatClampNeg = N := nI_clamp (by omega)
  intro lsA locs hl hS T hT Y
  obtain ⟨-, k0, hk0, cm0, hkk0⟩ := (X.2.1.2 j _ htj).1 n0 (fun j => .int (f j))
  obtain ⟨-, k1, hk1, cm1, hkk1⟩ := (X.2.1.2 j _ htj).1 n1 (fun j => .int (g j))
  obtain ⟨vm', X', step⟩ := Y.arraycopy X.1.1 X.1.2.2.2.1 (X.1.2.2.2.2 _ hw.1) (X.1.2.2.2.2 _ hw.2.1) (X.1.2.2.2.2 _ hw.2.2.1) (X.1.2.2.2.2 _ hw.2.2.2) (src := a0) (dst := a1) (cs := vp_cell (kA j) (n0, .inl f)) (cd := vp_cell (kA j) (n1, .inl g)) (srcPos := nI sp) (destPos := nI dp) (n := nI N) (by rw [hT]; exact h0) (by rw [hT]; exact h1)
    (fun _ h => by cases h) (fun _ h => by cases h) (fun h => by cases h) (fun h => by cases h) hk0 hk1 hkk0 hkk1 (by simp [hprim]) (nI_pos (by omega)) (nI_pos (by omega)) (nI_pos (by omega))
    (by rw [nI_toInt (by omega), nI_toInt (by omega)]; show ¬ _ > ((arrV (kA j) n0 (fun j => .int (f j))).slots.size : Int); rw [arrV_size]; omega)
    (by rw [nI_toInt (by omega), nI_toInt (by omega)]; show ¬ _ > ((arrV (kA j) n1 (fun j => .int (g j))).slots.size : Int); rw [arrV_size]; omega)
    (fun vm₁ _ i hi => by
      rw [q3] at hi
      have e : (vp_cell (kA j) (n0, .inl f)).slots.getD ((nI sp).toNatClampNeg + i) .null = .int (f (sp + i)) := by
        show (arrV (kA j) n0 (fun j => .int (f j))).slots.getD _ _ = _
        rw [q1, Array.getD_eq_getD_getElem?, arrV_read _ _ (by omega)]
        rfl
      refine ⟨?_, ?_⟩
      · rw [e]
        exact hfit i hi
      · rw [e]
        exact trivial)
    (g := F0 m pc lsA (.int (nI N) :: .int (nI dp) :: .ref a1 :: .int (nI sp) :: .ref a0 :: st)) rfl (by rw [X.1.2.2.1]; exact hl.1) (rest := st) rfl (by rw [X.1.2.1]; exact hd) hframes (by show 2 * 0 + _ + _ ≤ _; omega)
  have e1 : copied (vp_cell (kA j) (n0, .inl f)) (vp_cell (kA j) (n1, .inl g)) (nI sp) (nI dp) (nI N) = vp_cell (kA j) (n1, .inl (va_cpy f g (nI sp).toNatClampNeg (nI dp).toNatClampNeg (nI N).toNatClampNeg)) := va_copied (fun z => Value.int z) (kA j) (kA j) f g (by rw [q1, q3]; exact b1)
  rw [q1, q2, q3] at e1
  rw [e1] at X' step
  have hlt : a1 < H.size := h1.lt
  have hheap : ((T.setVm vm').setCell a1 (vp_cell (kA j) (n1, .inl (va_cpy f g sp dp N)))).heap = H.setIfInBounds a1 (vp_cell (kA j) (n1, .inl (va_cpy f g sp dp N))) := by rw [← hT]; rfl
  have oq : ∀ q : Nat, q ≠ a1 → (H.setIfInBounds a1 (vp_cell (kA j) (n1, .inl (va_cpy f g sp dp N))))[q]? = H[q]? := fun q hq => by simp [Array.getElem?_setIfInBounds, Ne.symm hq]
  obtain ⟨t, a9, b9⟩ := kk _ (show (H.setIfInBounds a1 _)[a1]? = some _ by simp [Array.getElem?_setIfInBounds, hlt]) ⟨by simp, oq⟩ lsA _ hl ⟨by simp; exact hS.1, fun q g1 g2 => by
      rw [oq q (fun e => g2 (by rw [e]; exact hA))]
      exact hS.2.1 q g1 g2, fun q hq => by
      rcases List.mem_append.mp hq with h | h
      · exact hS.2.2 q h
      · obtain ⟨z, -, hz⟩ := List.mem_map.mp h
        rw [← hz]
        exact hA⟩ _ hheap X'
  exact ⟨t, step t a9, b9⟩
end VCP
theorem aw_X0_66 : Ac RX0 66 := ⟨(tm 501 (by decide +kernel) (by decide +kernel)), (tm 496 (by decide +kernel) (by decide +kernel)), (tm 495 (by decide +kernel) (by decide +kernel)), (tm 26 (by decide +kernel) (by decide +kernel))⟩
theorem aw_X2_25 : Ac RX2 25 := ⟨(tm 494 (by decide +kernel) (by decide +kernel)), (tm 496 (by decide +kernel) (by decide +kernel)), (tm 495 (by decide +kernel) (by decide +kernel)), (tm 26 (by decide +kernel) (by decide +kernel))⟩
theorem aw_J0_212 : Ac RJ0 212 := ⟨(tm 1116 (by decide +kernel) (by decide +kernel)), (tm 496 (by decide +kernel) (by decide +kernel)), (tm 495 (by decide +kernel) (by decide +kernel)), (tm 26 (by decide +kernel) (by decide +kernel))⟩
theorem aw_J7_150 : Ac RJ7 150 := ⟨(tm 1015 (by decide +kernel) (by decide +kernel)), (tm 496 (by decide +kernel) (by decide +kernel)), (tm 495 (by decide +kernel) (by decide +kernel)), (tm 26 (by decide +kernel) (by decide +kernel))⟩
theorem hp.cong {D : va_G} {H : Heap} {a j n : Nat} {kA : Nat → ClassId} {f g : Nat → Int32} (h : hp D H a (.inl (kA j, n, .inl f))) (e : ∀ i, i < n → f i = g i) : hp D H a (.inl (kA j, n, .inl g)) := by
  have h1 : vp_cell (kA j) (n, .inl f) = vp_cell (kA j) (n, .inl g) := by
    rw [vp_cell_i, vp_cell_i]
    unfold arrV
    congr 1
    apply Array.ext
    · simp
    · intro i h1 h2
      simp at h1
      simp [e i h1]
  show H[a]? = some (vp_cell (kA j) (n, .inl g))
  rw [← h1]
  exact h
theorem hp.cpy {D : va_G} {H : Heap} {a j n : Nat} {kA : Nat → ClassId} {f g : Nat → Int32} (h : hp D H a (.inl (kA j, n, .inl (va_cpy f g 0 0 n)))) : hp D H a (.inl (kA j, n, .inl f)) := h.cong (fun i hi => by rw [pk_cpy_in (by omega) (by omega), Nat.zero_add, Nat.sub_zero])
theorem upd2 (f : Nat → Int32) (i : Nat) (x y : Int32) : upd (upd f i x) i y = upd f i y := by
  funext j
  by_cases h : j = i <;> simp [upd, h]
theorem upd_at (f : Nat → Int32) (i : Nat) (x : Int32) : upd f i x i = x := by simp [upd]
section VQ
variable {p : Program} {l : Launch} {e : Env} {R : Room} {s : State} {m : MethodId} {args : Array Value} {below : List Frame} {meth : Method} {c : Code} {nL : Nat} {A : Nat → Prop} {Q : State → Prop} {H : Heap} {k n pc pc' : Nat} {ls ls' : List (Nat × Value)} {st : List Value}
variable {cc : ByteArray} {own : String} {D : va_G} {kA : Nat → ClassId} {ret : Option FieldType}
theorem V_astore_nQ (X : Kx p s m args meth c cc nL ret own D kA A) {i : Fin 4} {j : Nat} {r : Option Nat} (hd : decode cc pc = .ok (.astore_n i, 1)) (hpc : pc + 1 = pc') (hi : (i : Nat) = j) (hn : j < nL) (hl : (j, va_rf r) :: ls.filter (fun q => !(q.1 == j) && !(q.1 + 1 == j && q.2.category == 2)) = ls') (kk : V p l e R s m args below meth c nL A Q H k n pc' ls' st) : V p l e R s m args below meth c nL A Q H k n pc ls (va_rf r :: st) := by
  cases r with
  | none => exact V_astore_nN X hd hpc hi hn hl kk
  | some x => exact V_astore_n X hd hpc hi hn hl kk
end VQ
