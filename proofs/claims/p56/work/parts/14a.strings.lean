/-! Strings made at run time; the text of a StringBuilder as a list. -/
/-- an overriding method: what the reference names is another method's code, that isn't run -/
def Vo (own : String) (idx : Nat) (C owner : String) (x y : MethodName) (nn : Nat) : Prop := Cond.methodLink own idx x ∈ T0 ∧ Cond.sameMethod x.cls owner x.name x.desc ∈ T0 ∧ Cond.instanceMethod ⟨owner, x.name, x.desc⟩ ∈ T0 ∧ Cond.selects C x y ∈ T0 ∧ Cond.instanceMethod y ∈ T0 ∧ (owner ≠ "java/lang/invoke/MethodHandle" ∧ owner ≠ "java/lang/invoke/VarHandle") ∧ (parseMethodDescriptor x.desc).map (fun d => d.parameters.length) = some nn ∧ ∃ (b0 : ByteArray) (m0 : Nat) (r0 : Option FieldType), Cond.code ⟨owner, x.name, x.desc⟩ b0 m0 r0 ∈ T0
section VOO
variable {p : Program} {l : Launch} {e : Env} {R : Room} {s : State} {m : MethodId} {args : Array Value} {below : List Frame} {meth : Method} {c : Code} {nL : Nat} {A A1 : Nat → Prop} {Q : State → Prop} {H : Heap} {k n pc pc' : Nat} {ls ls' : List (Nat × Value)} {st rest : List Value}
variable {cc : ByteArray} {own owner : String} {D : va_G} {kA : Nat → ClassId} {ret : Option FieldType} {Hs : Heap} {σ : SG}
variable {x y : MethodName} {bytes : ByteArray} {mL : Nat} {rt : Option FieldType} {fr lc mc ms nn idx : Nat} {av : List Value} {Post : Option Value → Heap → Prop} {PX : String → Heap → Prop}
theorem sVO (Z : Ys p s m args meth c cc nL ret own D kA A Hs σ) {b ci : Nat} {fs bs : List Value} {C : String} {T : u_T} {N : Nat} (hC : CtS l D kA Hs σ y bytes mL rt fr lc mc ms H (.ref b :: bs) A1 Post) (hM : Mi y bytes mL rt nn) (hs : Vo own idx C owner x y nn) (hc : vwCl[ci]? = some (C, T, N)) (hb : hp D H b (.inr (ci, fs))) (hst : st = bs.reverse ++ .ref b :: rest) (hn : bs.length = nn) (hcat : (rest.map fun v => v.category).sum ≤ 8) (hR : fr + 1 ≤ R.frames ∧ 8 + (mL + 11) + lc ≤ R.locals) (hk : k + mc ≤ R.cells) (hn2 : n + ms ≤ R.slots) (hd : decode cc pc = .ok (.invokevirtual idx, 3)) :
    Rn p l e R s m args below meth c nL H k n pc ls st mc ms rest A1 Post := fun lsA locs hl => by
  obtain ⟨h1, h2, h3, h4, h5, h6, h7, b0, m0, r0, h8⟩ := hs
  refine ⟨_, va_runU (owner := owner) Z.1.1.1 hC ⟨⟨rfl, rfl, hR.1, hR.2, fun w hw a' U hW => ?_, List.mem_cons_self⟩, Z.1.1.1.2.2.2.2 _ hM.1, Z.1.1.1.2.2.2.2 _ hM.2.1, h6, fun sig h => ?_, Z.1.1.1.2.2.2.2 _ h1, Z.1.1.1.2.2.2.2 _ h2, va_Decl.of (Z.1.1.1.2.2.2.2 _ h3) (Z.1.1.1.2.2.2.2 _ h8), Z.1.1.1.2.2.2.2 _ h4, Z.1.1.1.2.2.2.2 _ h5⟩ ⟨qPreS.blind, rcv Z.1.1 hc hb, pre_s Z⟩ rfl hn hl.1 hst (lv_room hcat) hd ⟨hk, hn2⟩⟩
  · rcases List.mem_cons.mp hw with rfl | h
    · exact word_at hW (T0_good _ hM.1) (Z.1.1.1.2.2.2.2 _ hM.1)
    · exact word_at hW (T0_good _ h) (Z.1.1.1.2.2.2.2 _ h)
  · rw [h] at h7
    exact (Option.some.inj h7).symm
end VOO
section VCT
variable {p : Program} {l : Launch} {e : Env} {R : Room} {s : State} {m : MethodId} {args : Array Value} {below : List Frame} {meth : Method} {c : Code} {nL : Nat} {A : Nat → Prop} {Q : State → Prop} {H : Heap} {k n pc pc' : Nat} {ls ls' : List (Nat × Value)} {st : List Value}
variable {cc : ByteArray} {own : String} {D : va_G} {kA : Nat → ClassId} {ret : Option FieldType} {idx : Nat}
theorem V_copyT (X : Kx p s m args meth c cc nL ret own D kA A) (hw : Ac own idx) {a0 a1 n0 n1 sp dp N : Nat} {f g : Nat → Int32} {isp idp iN : Int32} (h0 : va_T .byte a0 n0 (fun j => .int (f j)) A s s.heap) (h1 : hp D H a1 (.inl (kA 4, n1, .inl g))) (htj : (tyA kA)[4]? = some (kA 4, .byte)) (hA : A a1)
    (e1 : isp = nI sp) (e2 : idp = nI dp) (e3 : iN = nI N) (b1 : sp + N ≤ n0) (b2 : dp + N ≤ n1) (hsp : sp < 2 ^ 30) (b4 : n1 < 2 ^ 30) (hfit : ∀ i, i < N → fits .byte (.int (f (sp + i))) = true)
    (hframes : 1 ≤ R.frames) (hlocals : (st.map fun v => v.category).sum + (nativeFrameWords "java/lang/System" "arraycopy" 5 + 11) ≤ R.locals) (hd : decode cc pc = .ok (.invokestatic idx, 3)) (hpc : pc + 3 = pc')
    (kk : ∀ H1 : Heap, hp D H1 a1 (.inl (kA 4, n1, .inl (va_cpy f g sp dp N))) → sto a1 H H1 → V p l e R s m args below meth c nL A Q H1 k n pc' ls st) : V p l e R s m args below meth c nL A Q H k n pc ls (.int iN :: .int idp :: .ref a1 :: .int isp :: .ref a0 :: st) := by
  subst hpc
  subst e1
  subst e2
  subst e3
  have q1 : (nI sp).toNatClampNeg = sp := nI_clamp (by omega)
  have q2 : (nI dp).toNatClampNeg = dp := nI_clamp (by omega)
  have q3 : (nI N).toNatClampNeg = N := nI_clamp (by omega)
  intro lsA locs hl hS T hT Y
  obtain ⟨scr, hs1, hs2, hs3, hs4, -, hs5, hs7⟩ := h0
  have hc0 : H[a0]? = some scr := by rw [hS.2.1 a0 (Array.getElem?_eq_some_iff.mp hs1).1 hs7]; exact hs1
  obtain ⟨hs6, k0, hk0, cm0, hkk0⟩ := hs2
  obtain ⟨-, k1, hk1, cm1, hkk1⟩ := (X.2.1.2 4 _ htj).1 n1 (fun j => .int (g j))
  obtain ⟨vm', X', step⟩ := Y.arraycopy X.1.1 X.1.2.2.2.1 (X.1.2.2.2.2 _ hw.1) (X.1.2.2.2.2 _ hw.2.1) (X.1.2.2.2.2 _ hw.2.2.1) (X.1.2.2.2.2 _ hw.2.2.2) (src := a0) (dst := a1) (cs := scr) (cd := vp_cell (kA 4) (n1, .inl g)) (srcPos := nI sp) (destPos := nI dp) (n := nI N) (by rw [hT]; exact hc0) (by rw [hT]; exact h1)
    hs6 (fun _ h => by cases h) hs3 (fun h => by cases h) hk0 hk1 hkk0 hkk1 (by simp [refKind]) (nI_pos (by omega)) (nI_pos (by omega)) (nI_pos (by omega))
    (by rw [nI_toInt (by omega), nI_toInt (by omega)]; omega)
    (by rw [nI_toInt (by omega), nI_toInt (by omega)]; show ¬ _ > ((arrV (kA 4) n1 (fun j => .int (g j))).slots.size : Int); rw [arrV_size]; omega)
    (fun vm₁ _ i hi => by
      rw [q3] at hi
      have e : scr.slots.getD ((nI sp).toNatClampNeg + i) .null = .int (f (sp + i)) := by
        rw [q1, Array.getD_eq_getD_getElem?, hs5 _ (by omega)]
        rfl
      refine ⟨?_, ?_⟩
      · rw [e]
        exact hfit i hi
      · rw [e]
        exact trivial)
    (g := F0 m pc lsA (.int (nI N) :: .int (nI dp) :: .ref a1 :: .int (nI sp) :: .ref a0 :: st)) rfl (by rw [X.1.2.2.1]; exact hl.1) (rest := st) rfl (by rw [X.1.2.1]; exact hd) hframes (by show 2 * 0 + _ + _ ≤ _; omega)
  have e1 : copied scr (vp_cell (kA 4) (n1, .inl g)) (nI sp) (nI dp) (nI N) = vp_cell (kA 4) (n1, .inl (va_cpy f g (nI sp).toNatClampNeg (nI dp).toNatClampNeg (nI N).toNatClampNeg)) := va_copiedX (fun z => Value.int z) scr (kA 4) f g hs5 (by rw [q1, q3]; exact b1)
  rw [q1, q2, q3] at e1
  rw [e1] at X' step
  have hlt : a1 < H.size := h1.lt
  have hheap : ((T.setVm vm').setCell a1 (vp_cell (kA 4) (n1, .inl (va_cpy f g sp dp N)))).heap = H.setIfInBounds a1 (vp_cell (kA 4) (n1, .inl (va_cpy f g sp dp N))) := by rw [← hT]; rfl
  have oq : ∀ q : Nat, q ≠ a1 → (H.setIfInBounds a1 (vp_cell (kA 4) (n1, .inl (va_cpy f g sp dp N))))[q]? = H[q]? := fun q hq => by simp [Array.getElem?_setIfInBounds, Ne.symm hq]
  obtain ⟨t, a9, b9⟩ := kk _ (show (H.setIfInBounds a1 _)[a1]? = some _ by simp [Array.getElem?_setIfInBounds, hlt]) ⟨by simp, oq⟩ lsA _ hl ⟨by simp; exact hS.1, fun q g1 g2 => by
      rw [oq q (fun e => g2 (by rw [e]; exact hA))]
      exact hS.2.1 q g1 g2, fun q hq => by
      rcases List.mem_append.mp hq with h | h
      · exact hS.2.2 q h
      · obtain ⟨z, -, hz⟩ := List.mem_map.mp h
        rw [← hz]
        exact hA⟩ _ hheap X'
  exact ⟨t, step t a9, b9⟩
end VCT
/-- a String of the chars L, in cells from lo on -/
def TS (D : va_G) (kA : Nat → ClassId) (H : Heap) (lo r : Nat) (L : List Int32) : Prop :=
  ∃ (v : Nat) (w1 w2 : Int32), lo ≤ r ∧ lo ≤ v ∧ hp D H r (eO 0 [.ref v, .int 0, .int w1, .int w2]) ∧ hp D H v (eB kA L.length (fun j => L.getD j 0)) ∧ r ≠ v ∧ L.length ≤ 100 ∧ ∀ y ∈ L, ∃ c, c < 128 ∧ y = nI c
theorem TS.off {D : va_G} {kA : Nat → ClassId} {H H1 : Heap} {lo r : Nat} {L : List Int32} {F : Nat → Prop} (h : TS D kA H lo r L) (o : off F H H1) (hn : ∀ q, lo ≤ q → ¬ F q) : TS D kA H1 lo r L := by
  obtain ⟨v, w1, w2, h1, h2, h3, h4, h5⟩ := h
  exact ⟨v, w1, w2, h1, h2, h3.off o (hn _ h1), h4.off o (hn _ h2), h5⟩
/-- a StringBuilder with the text L, in cells from lo on -/
def TB (D : va_G) (kA : Nat → ClassId) (H : Heap) (lo b cap : Nat) (L : List Int32) : Prop :=
  ∃ (v : Nat) (g : Nat → Int32), lo ≤ b ∧ lo ≤ v ∧ Sb D kA H b v cap L.length g ∧ (∀ j, j < L.length → g j = L.getD j 0) ∧ ∀ y ∈ L, ∃ c, c < 128 ∧ y = nI c
theorem TB.off {D : va_G} {kA : Nat → ClassId} {H H1 : Heap} {lo b cap : Nat} {L : List Int32} {F : Nat → Prop} (h : TB D kA H lo b cap L) (o : off F H H1) (hn : ∀ q, lo ≤ q → q < H.size → ¬ F q) : TB D kA H1 lo b cap L := by
  obtain ⟨v, g, h1, h2, h3, h4⟩ := h
  have hb := h3.1.choose_spec.lt
  have hv := h3.2.1.lt
  exact ⟨v, g, h1, h2, h3.off o (hn _ h1 hb) (hn _ h2 hv), h4⟩
theorem getD_ch {L : List Int32} (h : ∀ y ∈ L, ∃ c, c < 128 ∧ y = nI c) {i : Nat} (hi : i < L.length) : ∃ c, c < 128 ∧ L.getD i 0 = nI c := by
  obtain ⟨c, h1, h2⟩ := h _ (List.getElem_mem hi)
  exact ⟨c, h1, by rw [List.getD_eq_getElem?_getD, List.getElem?_eq_getElem hi]; exact h2⟩
theorem fb_L {L : List Int32} (h : ∀ y ∈ L, ∃ c, c < 128 ∧ y = nI c) (j : Nat) : fits .byte (.int (L.getD j 0)) = true := by
  by_cases hj : j < L.length
  · obtain ⟨c, h1, h2⟩ := getD_ch h hj
    rw [h2]
    exact ch_fb h1
  · rw [List.getD_eq_getElem?_getD, List.getElem?_eq_none (by omega)]
    rfl
theorem byt_ch : ∀ x ∈ wL, ∀ y ∈ byt x.2.2, ∃ c, c < 128 ∧ y = nI c := by
  have h : ∀ x ∈ wL, ∀ q ∈ x.2.2.toList, q.toNat < 128 := by decide +kernel
  intro x hx y hy
  obtain ⟨q, hq, e⟩ := List.mem_map.mp hy
  exact ⟨q.toNat, h x hx q hq, e.symm⟩
theorem wL_fb (x : String × Nat × String) (hx : x ∈ wL) (j : Nat) : fits .byte (.int ((byt x.2.2).getD j 0)) = true := fb_L (byt_ch x hx) j
theorem fb_cpy {f g : Nat → Int32} {sp dp N : Nat} (h1 : ∀ j, fits .byte (.int (f j)) = true) (h2 : ∀ j, fits .byte (.int (g j)) = true) : ∀ j, fits .byte (.int (va_cpy f g sp dp N j)) = true := fun j => by
  unfold va_cpy
  split
  · exact h1 _
  · exact h2 j
theorem vi_J0_552 : Vi RJ0 552 RJ4 yJ5_getValue_6d5f1 := ⟨(tm 1131 (by decide +kernel) (by decide +kernel)), (tm 1132 (by decide +kernel) (by decide +kernel)), (tm 1134 (by decide +kernel) (by decide +kernel))⟩
theorem vi_J0_1047 : Vi RJ0 1047 RJ4 yJ5_isLatin1_aae02 := ⟨(tm 1144 (by decide +kernel) (by decide +kernel)), (tm 1017 (by decide +kernel) (by decide +kernel)), (tm 1019 (by decide +kernel) (by decide +kernel))⟩
theorem vp_J5_208 : Vp RJ5 208 RJ4 yJ5_putStringAt_47b60 yJ5_isLatin1_aae02 := ⟨(tm 1084 (by decide +kernel) (by decide +kernel)), (tm 1086 (by decide +kernel) (by decide +kernel)), by decide +kernel, (tm 1019 (by decide +kernel) (by decide +kernel)), rfl, by decide +kernel⟩
theorem vp_J5_397 : Vp RJ5 397 RJ4 yJ5_inflateIfNeededFor_a7421 yJ5_isLatin1_aae02 := ⟨(tm 1088 (by decide +kernel) (by decide +kernel)), (tm 1090 (by decide +kernel) (by decide +kernel)), by decide +kernel, (tm 1019 (by decide +kernel) (by decide +kernel)), rfl, by decide +kernel⟩
theorem su_J4_29 : Su RJ4 29 yJ5_append_cf1ce := ⟨(tm 1065 (by decide +kernel) (by decide +kernel)), (tm 1500 (by decide +kernel) (by decide +kernel)), (tm 225 (by decide +kernel) (by decide +kernel)), (tm 1066 (by decide +kernel) (by decide +kernel)), by decide +kernel⟩
theorem vo_J0_549 : Vo RJ0 549 RJ4 RJ5 yJ5_length_8abf5 yJ4_length_8abf5 0 := ⟨(tm 1136 (by decide +kernel) (by decide +kernel)), (tm 1138 (by decide +kernel) (by decide +kernel)), (tm 1137 (by decide +kernel) (by decide +kernel)), (tm 1139 (by decide +kernel) (by decide +kernel)), (tm 1140 (by decide +kernel) (by decide +kernel)), by decide +kernel, by decide +kernel, cJ5_length_8abf5, 1, some .int, (tm 1143 (by decide +kernel) (by decide +kernel))⟩
set_option maxRecDepth 100000 in
set_option maxHeartbeats 4000000 in
theorem c_J0_coder_m (l : Launch) (D : va_G) (kA : Nat → ClassId) (Hs : Heap) (σ : SG) (H0 : Heap) (hg : Ag Hs H0) (lo r : Nat) (L : List Int32) (hR : TS D kA H0 lo r L) : CtS l D kA Hs σ yJ0_coder_7d493 cJ0_coder_7d493 1 (some .byte) 0 0 0 0 H0 [.ref r] (nof) (pI fun v9 H => v9 = 0 ∧ H = H0) := by
  refine CtS.of mi_J0_coder_7d493 (Nat.le_of_ble_eq_true rfl) (ls0 := [(0, _)]) rfl hg (fun _ z => z.elim) ?_
  intro Pp Ee Ss Mm Ar Bl Me Cc Z hsH hnm
  have Y := Z.1
  obtain ⟨v, w1, w2, hl1, hl2, hr, hv, hne, hlen, hch⟩ := id hR
  have sz : H0.size = H0.size := rfl
  refine V_gets Y Z.2.2.2.2.1 (tm 1083 (by decide +kernel) (by decide +kernel)) dJ0_coder_7d493_0 (rfl : _ = 3) ?_
  refine V_if_eq Y.1 (tgt := 13) dJ0_coder_7d493_3 (by decide) (rfl : _ = 6) (fun c_n => absurd c_n (by decide)) (fun _ => ?_)
  refine V_aload_n Y.1 0 dJ0_coder_7d493_6 (rfl : _ = 7) rfl rfl ?_
  refine V_get Y.1 fi_J0_15 hr rfl dJ0_coder_7d493_7 (rfl : _ = 10) ?_
  refine V_goto Y.1 (tgt := 14) dJ0_coder_7d493_10 (by decide) ?_
  exact V_ret Y.1 dJ0_coder_7d493_14 rfl (Nat.le_of_ble_eq_true rfl) (Nat.le_of_ble_eq_true rfl) ⟨rfl, rfl⟩

set_option maxRecDepth 100000 in
set_option maxHeartbeats 4000000 in
theorem c_J0_length_m (l : Launch) (D : va_G) (kA : Nat → ClassId) (Hs : Heap) (σ : SG) (H0 : Heap) (hg : Ag Hs H0) (lo r : Nat) (L : List Int32) (hR : TS D kA H0 lo r L) : CtS l D kA Hs σ yJ0_length_8abf5 cJ0_length_8abf5 1 (some .int) 1 20 0 0 H0 [.ref r] (nof) (pI fun v9 H => v9 = nI L.length ∧ H = H0) := by
  refine CtS.of mi_J0_length_8abf5 (Nat.le_of_ble_eq_true rfl) (ls0 := [(0, _)]) rfl hg (fun _ z => z.elim) ?_
  intro Pp Ee Ss Mm Ar Bl Me Cc Z hsH hnm
  have Y := Z.1
  obtain ⟨v, w1, w2, hl1, hl2, hr, hv, hne, hlen, hch⟩ := id hR
  have sz : H0.size = H0.size := rfl
  refine V_aload_n Y.1 0 dJ0_length_8abf5_0 (rfl : _ = 1) rfl rfl ?_
  refine V_get Y.1 fi_J0_9 hr rfl dJ0_length_8abf5_1 (rfl : _ = 4) ?_
  refine V_alen Y.1 (v := nI L.length) (t0 := 4) hv rfl rfl dJ0_length_8abf5_4 (rfl : _ = 5) ?_
  refine V_aload_n Y.1 0 dJ0_length_8abf5_5 (rfl : _ = 6) rfl rfl ?_
  refine V_cP Y (sV Z (c_J0_coder_m l D kA Hs σ _ hg lo r L hR) mi_J0_coder_7d493 vi_J0_335 rfl hr rfl rfl (Nat.le_of_ble_eq_true rfl) ⟨Nat.le_of_ble_eq_true rfl, Nat.le_of_ble_eq_true rfl⟩ (Nat.le_of_ble_eq_true rfl) (Nat.le_of_ble_eq_true rfl) dJ0_length_8abf5_6) (rfl : _ = 9) ?_
  refine V_ishr Y.1 dJ0_length_8abf5_9 (rfl : _ = 10) ?_
  refine V_nm (v := nI L.length) (shr_0 _) ?_
  exact V_ret Y.1 dJ0_length_8abf5_10 rfl (Nat.le_of_ble_eq_true rfl) (Nat.le_of_ble_eq_true rfl) ⟨rfl, rfl⟩

set_option maxRecDepth 100000 in
set_option maxHeartbeats 4000000 in
theorem c_J0_isLatin1_m (l : Launch) (D : va_G) (kA : Nat → ClassId) (Hs : Heap) (σ : SG) (H0 : Heap) (hg : Ag Hs H0) (lo r : Nat) (L : List Int32) (hR : TS D kA H0 lo r L) : CtS l D kA Hs σ yJ0_isLatin1_aae02 cJ0_isLatin1_aae02 1 (some .boolean) 0 0 0 0 H0 [.ref r] (nof) (pI fun v9 H => v9 = 1 ∧ H = H0) := by
  refine CtS.of mi_J0_isLatin1_aae02 (Nat.le_of_ble_eq_true rfl) (ls0 := [(0, _)]) rfl hg (fun _ z => z.elim) ?_
  intro Pp Ee Ss Mm Ar Bl Me Cc Z hsH hnm
  have Y := Z.1
  obtain ⟨v, w1, w2, hl1, hl2, hr, hv, hne, hlen, hch⟩ := id hR
  have sz : H0.size = H0.size := rfl
  refine V_gets Y Z.2.2.2.2.1 (tm 1083 (by decide +kernel) (by decide +kernel)) dJ0_isLatin1_aae02_0 (rfl : _ = 3) ?_
  refine V_if_eq Y.1 (tgt := 17) dJ0_isLatin1_aae02_3 (by decide) (rfl : _ = 6) (fun c_n => absurd c_n (by decide)) (fun _ => ?_)
  refine V_aload_n Y.1 0 dJ0_isLatin1_aae02_6 (rfl : _ = 7) rfl rfl ?_
  refine V_get Y.1 fi_J0_15 hr rfl dJ0_isLatin1_aae02_7 (rfl : _ = 10) ?_
  refine V_if_ne Y.1 (tgt := 17) dJ0_isLatin1_aae02_10 (by decide) (rfl : _ = 13) (fun c_n => absurd rfl c_n) (fun _ => ?_)
  refine V_iconst Y.1 (v := 1) dJ0_isLatin1_aae02_13 (rfl : _ = 14) (by decide) ?_
  refine V_goto Y.1 (tgt := 18) dJ0_isLatin1_aae02_14 (by decide) ?_
  exact V_ret Y.1 dJ0_isLatin1_aae02_18 rfl (Nat.le_of_ble_eq_true rfl) (Nat.le_of_ble_eq_true rfl) ⟨rfl, rfl⟩

set_option maxRecDepth 100000 in
set_option maxHeartbeats 4000000 in
theorem c_J1_charAt_m (l : Launch) (D : va_G) (kA : Nat → ClassId) (Hs : Heap) (σ : SG) (H0 : Heap) (hg : Ag Hs H0) (v : Nat) (L : List Int32) (i : Nat) (hi : i < L.length) (hv : hp D H0 v (eB kA L.length (fun j => L.getD j 0))) (hlen : L.length ≤ 100) (hch : ∀ y ∈ L, ∃ c, c < 128 ∧ y = nI c) : CtS l D kA Hs σ yJ1_charAt_3b067 cJ1_charAt_3b067 2 (some .char) 2 43 0 0 H0 [.ref v, .int (nI i)] (nof) (pI fun v9 H => v9 = L.getD i 0 ∧ H = H0) := by
  refine CtS.of mi_J1_charAt_3b067 (Nat.le_of_ble_eq_true rfl) (ls0 := [(0, _), (1, _)]) rfl hg (fun _ z => z.elim) ?_
  intro Pp Ee Ss Mm Ar Bl Me Cc Z hsH hnm
  have Y := Z.1
  obtain ⟨c, hc1, hc⟩ := getD_ch hch hi
  have sz : H0.size = H0.size := rfl
  refine V_iload_n Y.1 1 dJ1_charAt_3b067_0 (rfl : _ = 1) rfl rfl ?_
  refine V_aload_n Y.1 0 dJ1_charAt_3b067_1 (rfl : _ = 2) rfl rfl ?_
  refine V_alen Y.1 (v := nI L.length) (t0 := 4) hv rfl rfl dJ1_charAt_3b067_2 (rfl : _ = 3) ?_
  refine V_cV Y (sS Z (c_J0_checkIndex_df160 l D kA Hs σ _ hg i _ hi (by omega)) mi_J0_checkIndex_df160 si_J1_9 rfl rfl (Nat.le_of_ble_eq_true rfl) ⟨Nat.le_of_ble_eq_true rfl, Nat.le_of_ble_eq_true rfl⟩ (Nat.le_of_ble_eq_true rfl) (Nat.le_of_ble_eq_true rfl) dJ1_charAt_3b067_3) (fun _ z => z.elim) (rfl : _ = 6) (fun H3_3 hq_3 o_3 => ?_)
  obtain rfl := hq_3
  refine V_aload_n Y.1 0 dJ1_charAt_3b067_6 (rfl : _ = 7) rfl rfl ?_
  refine V_iload_n Y.1 1 dJ1_charAt_3b067_7 (rfl : _ = 8) rfl rfl ?_
  refine V_bald Y.1 (v := (nI c)) hv (vp_in_nI hi (by omega)) (by rw [nI_clamp (by omega)]; exact hc) dJ1_charAt_3b067_8 (rfl : _ = 9) ?_
  refine V_sipush Y.1 (v := 255) dJ1_charAt_3b067_9 (rfl : _ = 12) (by decide) ?_
  refine V_iand Y.1 dJ1_charAt_3b067_12 (rfl : _ = 13) ?_
  refine V_nm (v := nI c) (ch_255 hc1) ?_
  refine V_i2c Y.1 (v := nI c) dJ1_charAt_3b067_13 (rfl : _ = 14) (ch_i2c hc1) ?_
  exact V_ret Y.1 dJ1_charAt_3b067_14 (ch_nar hc1) (Nat.le_of_ble_eq_true rfl) (Nat.le_of_ble_eq_true rfl) ⟨hc.symm, rfl⟩

set_option maxRecDepth 100000 in
set_option maxHeartbeats 4000000 in
theorem c_J0_charAt_m (l : Launch) (D : va_G) (kA : Nat → ClassId) (Hs : Heap) (σ : SG) (H0 : Heap) (hg : Ag Hs H0) (lo r : Nat) (L : List Int32) (i : Nat) (hi : i < L.length) (hR : TS D kA H0 lo r L) : CtS l D kA Hs σ yJ0_charAt_5068e cJ0_charAt_5068e 2 (some .char) 3 64 0 0 H0 [.ref r, .int (nI i)] (nof) (pI fun v9 H => v9 = L.getD i 0 ∧ H = H0) := by
  refine CtS.of mi_J0_charAt_5068e (Nat.le_of_ble_eq_true rfl) (ls0 := [(0, _), (1, _)]) rfl hg (fun _ z => z.elim) ?_
  intro Pp Ee Ss Mm Ar Bl Me Cc Z hsH hnm
  have Y := Z.1
  obtain ⟨v, w1, w2, hl1, hl2, hr, hv, hne, hlen, hch⟩ := id hR
  obtain ⟨c, hc1, hc⟩ := getD_ch hch hi
  have sz : H0.size = H0.size := rfl
  refine V_aload_n Y.1 0 dJ0_charAt_5068e_0 (rfl : _ = 1) rfl rfl ?_
  refine V_cP Y (sV Z (c_J0_isLatin1_m l D kA Hs σ _ hg lo r L hR) mi_J0_isLatin1_aae02 vi_J0_492 rfl hr rfl rfl (Nat.le_of_ble_eq_true rfl) ⟨Nat.le_of_ble_eq_true rfl, Nat.le_of_ble_eq_true rfl⟩ (Nat.le_of_ble_eq_true rfl) (Nat.le_of_ble_eq_true rfl) dJ0_charAt_5068e_1) (rfl : _ = 4) ?_
  refine V_if_eq Y.1 (tgt := 16) dJ0_charAt_5068e_4 (by decide) (rfl : _ = 7) (fun c_n => absurd c_n (by decide)) (fun _ => ?_)
  refine V_aload_n Y.1 0 dJ0_charAt_5068e_7 (rfl : _ = 8) rfl rfl ?_
  refine V_get Y.1 fi_J0_9 hr rfl dJ0_charAt_5068e_8 (rfl : _ = 11) ?_
  refine V_iload_n Y.1 1 dJ0_charAt_5068e_11 (rfl : _ = 12) rfl rfl ?_
  refine V_cP Y (sS Z (c_J1_charAt_m l D kA Hs σ _ hg v L i hi hv hlen hch) mi_J1_charAt_3b067 si_J0_495 rfl rfl (Nat.le_of_ble_eq_true rfl) ⟨Nat.le_of_ble_eq_true rfl, Nat.le_of_ble_eq_true rfl⟩ (Nat.le_of_ble_eq_true rfl) (Nat.le_of_ble_eq_true rfl) dJ0_charAt_5068e_12) (rfl : _ = 15) ?_
  exact V_ret Y.1 dJ0_charAt_5068e_15 (by rw [hc]; exact ch_nar hc1) (Nat.le_of_ble_eq_true rfl) (Nat.le_of_ble_eq_true rfl) ⟨rfl, rfl⟩

set_option maxRecDepth 100000 in
set_option maxHeartbeats 4000000 in
theorem c_J8_newLength_h (l : Launch) (D : va_G) (kA : Nat → ClassId) (H0 : Heap) (c m : Nat) (hc : c < 2 ^ 20) (hm : m ≤ c + 2)  : Ct l D kA yJ8_newLength_cabcc cJ8_newLength_cabcc 4 (some .int) 1 24 0 0 H0 [.int (nI c), .int (nI m), .int (nI (c + 2))] (nof) (pI fun v9 H => v9 = nI (c + (c + 2)) ∧ H = H0) := by
  refine Ct.of mi_J8_newLength_cabcc (Nat.le_of_ble_eq_true rfl) (ls0 := [(0, _), (1, _), (2, _)]) rfl ?_
  intro Pp Ee Ss Mm Ar Bl Me Cc Y hsH hnm
  have sz : H0.size = H0.size := rfl
  refine V_iload_n Y.1 0 dJ8_newLength_cabcc_0 (rfl : _ = 1) rfl rfl ?_
  refine V_iload_n Y.1 1 dJ8_newLength_cabcc_1 (rfl : _ = 2) rfl rfl ?_
  refine V_iload_n Y.1 2 dJ8_newLength_cabcc_2 (rfl : _ = 3) rfl rfl ?_
  refine V_mmax Y.1 mw_J8_194 (Nat.le_of_ble_eq_true rfl) (Nat.le_of_ble_eq_true rfl) (Nat.le_of_ble_eq_true rfl) (Nat.le_of_ble_eq_true rfl) dJ8_newLength_cabcc_3 (rfl : _ = 6) ?_
  refine V_nm (v := nI (c + 2)) (by rw [mx_nI (by omega) (by omega), Nat.max_eq_right (by omega)]) ?_
  refine V_iadd Y.1 dJ8_newLength_cabcc_6 (rfl : _ = 7) ?_
  refine V_nm (v := nI (c + (c + 2))) (nI_add _ _) ?_
  refine V_istore_n Y.1 (ls' := [(3, _), (0, _), (1, _), (2, _)]) dJ8_newLength_cabcc_7 (rfl : _ = 8) rfl (by decide) rfl ?_
  refine V_iconst Y.1 (v := 0) dJ8_newLength_cabcc_8 (rfl : _ = 9) (by decide) ?_
  refine V_iload_n Y.1 0 dJ8_newLength_cabcc_9 (rfl : _ = 10) rfl rfl ?_
  refine V_icmp_ge Y.1 (tgt := 21) dJ8_newLength_cabcc_10 (by decide) (rfl : _ = 13) (fun c_n => absurd c_n (fun q => absurd ((nI_leI (b := 0) (by omega) (by omega)).mp q) (by omega))) (fun _ => ?_)
  refine V_iload_n Y.1 0 dJ8_newLength_cabcc_13 (rfl : _ = 14) rfl rfl ?_
  refine V_ldc Y.1 cn_J8_200 dJ8_newLength_cabcc_14 (rfl : _ = 16) ?_
  refine V_icmp_gt Y.1 (tgt := 21) dJ8_newLength_cabcc_16 (by decide) (rfl : _ = 19) (fun c_n => absurd c_n (by show ¬ nI 2147483639 < nI (c + (c + 2)); exact nI_nlt (by omega) (by decide))) (fun _ => ?_)
  refine V_iload_n Y.1 0 dJ8_newLength_cabcc_19 (rfl : _ = 20) rfl rfl ?_
  exact V_ret Y.1 dJ8_newLength_cabcc_20 rfl (Nat.le_of_ble_eq_true rfl) (Nat.le_of_ble_eq_true rfl) ⟨rfl, rfl⟩

set_option maxRecDepth 100000 in
set_option maxHeartbeats 4000000 in
theorem c_J5_newCapacity_h (l : Launch) (D : va_G) (kA : Nat → ClassId) (Hs : Heap) (σ : SG) (H0 : Heap) (hg : Ag Hs H0) (b v cap n : Nat) (g : Nat → Int32) (k : Nat) (hk1 : cap < k) (hk2 : k ≤ cap + (cap + 2)) (hc2 : cap + (cap + 2) ≤ 120) (hS : Sb D kA H0 b v cap n g) : CtS l D kA Hs σ yJ5_newCapacity_0f7a4 cJ5_newCapacity_0f7a4 6 (some .int) 2 47 0 0 H0 [.ref b, .int (nI k)] (nof) (pI fun v9 H => v9 = nI (cap + (cap + 2)) ∧ H = H0) := by
  refine CtS.of mi_J5_newCapacity_0f7a4 (Nat.le_of_ble_eq_true rfl) (ls0 := [(0, _), (1, _)]) rfl hg (fun _ z => z.elim) ?_
  intro Pp Ee Ss Mm Ar Bl Me Cc Z hsH hnm
  have Y := Z.1
  obtain ⟨⟨ml, hb⟩, hv, hne, hn, hcap, hfb⟩ := id hS
  have sz : H0.size = H0.size := rfl
  refine V_aload_n Y.1 0 dJ5_newCapacity_0f7a4_0 (rfl : _ = 1) rfl rfl ?_
  refine V_get Y.1 fi_J5_15 hb rfl dJ5_newCapacity_0f7a4_1 (rfl : _ = 4) ?_
  refine V_alen Y.1 (v := nI cap) (t0 := 4) hv rfl rfl dJ5_newCapacity_0f7a4_4 (rfl : _ = 5) ?_
  refine V_istore_n Y.1 (ls' := [(2, _), (0, _), (1, _)]) dJ5_newCapacity_0f7a4_5 (rfl : _ = 6) rfl (by decide) rfl ?_
  refine V_iload_n Y.1 2 dJ5_newCapacity_0f7a4_6 (rfl : _ = 7) rfl rfl ?_
  refine V_aload_n Y.1 1 dJ5_newCapacity_0f7a4_7 (rfl : _ = 8) rfl rfl ?_
  refine V_get Y.1 fi_J5_22 hb rfl dJ5_newCapacity_0f7a4_8 (rfl : _ = 11) ?_
  refine V_ishl Y.1 dJ5_newCapacity_0f7a4_11 (rfl : _ = 12) ?_
  refine V_nm (v := nI k) (shl_0 _) ?_
  refine V_istore_n Y.1 (ls' := [(3, _), (2, _), (0, _), (1, _)]) dJ5_newCapacity_0f7a4_12 (rfl : _ = 13) rfl (by decide) rfl ?_
  refine V_iload_n Y.1 0 dJ5_newCapacity_0f7a4_13 (rfl : _ = 14) rfl rfl ?_
  refine V_iload_n Y.1 1 dJ5_newCapacity_0f7a4_14 (rfl : _ = 15) rfl rfl ?_
  refine V_isub Y.1 dJ5_newCapacity_0f7a4_15 (rfl : _ = 16) ?_
  refine V_nm (v := nI (k - cap)) (by rw [pk_sub (by omega)]) ?_
  refine V_istore Y.1 (ls' := [(4, _), (3, _), (2, _), (0, _), (1, _)]) dJ5_newCapacity_0f7a4_16 (rfl : _ = 18) (by decide) rfl ?_
  refine V_iload_n Y.1 2 dJ5_newCapacity_0f7a4_18 (rfl : _ = 19) rfl rfl ?_
  refine V_iload Y.1 0 dJ5_newCapacity_0f7a4_19 (rfl : _ = 21) rfl ?_
  refine V_iload_n Y.1 2 dJ5_newCapacity_0f7a4_21 (rfl : _ = 22) rfl rfl ?_
  refine V_iconst Y.1 (v := 2) dJ5_newCapacity_0f7a4_22 (rfl : _ = 23) (by decide) ?_
  refine V_aload_n Y.1 3 dJ5_newCapacity_0f7a4_23 (rfl : _ = 24) rfl rfl ?_
  refine V_get Y.1 fi_J5_22 hb rfl dJ5_newCapacity_0f7a4_24 (rfl : _ = 27) ?_
  refine V_ishl Y.1 dJ5_newCapacity_0f7a4_27 (rfl : _ = 28) ?_
  refine V_nm (v := nI 2) (shl_0 _) ?_
  refine V_iadd Y.1 dJ5_newCapacity_0f7a4_28 (rfl : _ = 29) ?_
  refine V_nm (v := nI (cap + 2)) (nI_add _ _) ?_
  refine V_cP Y (rS Y (c_J8_newLength_h l D kA _ cap (k - cap) (by omega) (by omega)) mi_J8_newLength_cabcc si_J5_114 rfl rfl (Nat.le_of_ble_eq_true rfl) ⟨Nat.le_of_ble_eq_true rfl, Nat.le_of_ble_eq_true rfl⟩ (Nat.le_of_ble_eq_true rfl) (Nat.le_of_ble_eq_true rfl) dJ5_newCapacity_0f7a4_29) (rfl : _ = 32) ?_
  refine V_istore Y.1 (ls' := [(5, _), (4, _), (3, _), (2, _), (0, _), (1, _)]) dJ5_newCapacity_0f7a4_32 (rfl : _ = 34) (by decide) rfl ?_
  refine V_iload Y.1 0 dJ5_newCapacity_0f7a4_34 (rfl : _ = 36) rfl ?_
  refine V_ldc Y.1 cn_J5_39 dJ5_newCapacity_0f7a4_36 (rfl : _ = 38) ?_
  refine V_icmp_ne Y.1 (tgt := 51) dJ5_newCapacity_0f7a4_38 (by decide) (rfl : _ = 41) (fun _ => ?_) (fun c_n => absurd c_n (by show ¬ nI (cap + (cap + 2)) = nI 2147483647; exact nI_ne (by omega) (by decide) (by omega)))
  refine V_iload Y.1 0 dJ5_newCapacity_0f7a4_51 (rfl : _ = 53) rfl ?_
  refine V_aload_n Y.1 4 dJ5_newCapacity_0f7a4_53 (rfl : _ = 54) rfl rfl ?_
  refine V_get Y.1 fi_J5_22 hb rfl dJ5_newCapacity_0f7a4_54 (rfl : _ = 57) ?_
  refine V_ishr Y.1 dJ5_newCapacity_0f7a4_57 (rfl : _ = 58) ?_
  refine V_nm (v := nI (cap + (cap + 2))) (shr_0 _) ?_
  exact V_ret Y.1 dJ5_newCapacity_0f7a4_58 rfl (Nat.le_of_ble_eq_true rfl) (Nat.le_of_ble_eq_true rfl) ⟨rfl, rfl⟩

set_option maxRecDepth 100000 in
set_option maxHeartbeats 4000000 in
theorem c_J5_ensure_h (l : Launch) (D : va_G) (kA : Nat → ClassId) (Hs : Heap) (σ : SG) (H0 : Heap) (hg : Ag Hs H0) (b v cap n : Nat) (g : Nat → Int32) (k : Nat) (hk1 : cap < k) (hk2 : k ≤ cap + (cap + 2)) (hc2 : cap + (cap + 2) ≤ 120) (hS : Sb D kA H0 b v cap n g) (hbs : Hs.size ≤ b) : CtS l D kA Hs σ yJ5_ensureCapacityInternal_d00df cJ5_ensureCapacityInternal_d00df 3 none 3 72 1 200 H0 [.ref b, .int (nI k)] (fun q => q = b) (pV fun H => Sb D kA H b H0.size (cap + (cap + 2)) n (va_cpy g (fun _ => 0) 0 0 cap) ∧ H.size = H0.size + 1) := by
  refine CtS.of mi_J5_ensureCapacityInternal_d00df (Nat.le_of_ble_eq_true rfl) (ls0 := [(0, _), (1, _)]) rfl hg (fun q z => z ▸ hbs) ?_
  intro Pp Ee Ss Mm Ar Bl Me Cc Z hsH hnm
  have Y := Z.1
  obtain ⟨⟨ml, hb⟩, hv, hne, hn, hcap, hfb⟩ := id hS
  have sz : H0.size = H0.size := rfl
  refine V_aload_n Y.1 0 dJ5_ensureCapacityInternal_d00df_0 (rfl : _ = 1) rfl rfl ?_
  refine V_get Y.1 fi_J5_15 hb rfl dJ5_ensureCapacityInternal_d00df_1 (rfl : _ = 4) ?_
  refine V_alen Y.1 (v := nI cap) (t0 := 4) hv rfl rfl dJ5_ensureCapacityInternal_d00df_4 (rfl : _ = 5) ?_
  refine V_aload_n Y.1 0 dJ5_ensureCapacityInternal_d00df_5 (rfl : _ = 6) rfl rfl ?_
  refine V_get Y.1 fi_J5_22 hb rfl dJ5_ensureCapacityInternal_d00df_6 (rfl : _ = 9) ?_
  refine V_ishr Y.1 dJ5_ensureCapacityInternal_d00df_9 (rfl : _ = 10) ?_
  refine V_nm (v := nI cap) (shr_0 _) ?_
  refine V_istore_n Y.1 (ls' := [(2, _), (0, _), (1, _)]) dJ5_ensureCapacityInternal_d00df_10 (rfl : _ = 11) rfl (by decide) rfl ?_
  refine V_iload_n Y.1 2 dJ5_ensureCapacityInternal_d00df_11 (rfl : _ = 12) rfl rfl ?_
  refine V_iload_n Y.1 0 dJ5_ensureCapacityInternal_d00df_12 (rfl : _ = 13) rfl rfl ?_
  refine V_isub Y.1 dJ5_ensureCapacityInternal_d00df_13 (rfl : _ = 14) ?_
  refine V_if_le Y.1 (tgt := 38) dJ5_ensureCapacityInternal_d00df_14 (by decide) (rfl : _ = 17) (fun c_n => absurd c_n (fun q => absurd ((nI_sub_le (by omega) (by omega)).mp q) (by omega))) (fun _ => ?_)
  refine V_aload_n Y.1 1 dJ5_ensureCapacityInternal_d00df_17 (rfl : _ = 18) rfl rfl ?_
  refine V_aload_n Y.1 1 dJ5_ensureCapacityInternal_d00df_18 (rfl : _ = 19) rfl rfl ?_
  refine V_get Y.1 fi_J5_15 hb rfl dJ5_ensureCapacityInternal_d00df_19 (rfl : _ = 22) ?_
  refine V_aload_n Y.1 1 dJ5_ensureCapacityInternal_d00df_22 (rfl : _ = 23) rfl rfl ?_
  refine V_iload_n Y.1 2 dJ5_ensureCapacityInternal_d00df_23 (rfl : _ = 24) rfl rfl ?_
  refine V_cP Y (sVp Z (c_J5_newCapacity_h l D kA Hs σ _ hg b v cap n g k hk1 hk2 hc2 ⟨⟨ml, hb⟩, hv, hne, hn, hcap, hfb⟩) mi_J5_newCapacity_0f7a4 vp_J5_104 rfl hb rfl rfl (Nat.le_of_ble_eq_true rfl) ⟨Nat.le_of_ble_eq_true rfl, Nat.le_of_ble_eq_true rfl⟩ (Nat.le_of_ble_eq_true rfl) (Nat.le_of_ble_eq_true rfl) dJ5_ensureCapacityInternal_d00df_24) (rfl : _ = 27) ?_
  refine V_aload_n Y.1 1 dJ5_ensureCapacityInternal_d00df_27 (rfl : _ = 28) rfl rfl ?_
  refine V_get Y.1 fi_J5_22 hb rfl dJ5_ensureCapacityInternal_d00df_28 (rfl : _ = 31) ?_
  refine V_ishl Y.1 dJ5_ensureCapacityInternal_d00df_31 (rfl : _ = 32) ?_
  refine V_nm (v := nI (cap + (cap + 2))) (shl_0 _) ?_
  refine V_cR Y (rS Y (c_J7_copyOf_9075b l D kA _ v cap (cap + (cap + 2)) g hv hfb (by omega) (by omega)) mi_J7_copyOf_9075b si_J5_108 rfl rfl (Nat.le_of_ble_eq_true rfl) ⟨Nat.le_of_ble_eq_true rfl, Nat.le_of_ble_eq_true rfl⟩ (Nat.le_of_ble_eq_true rfl) (Nat.le_of_ble_eq_true rfl) dJ5_ensureCapacityInternal_d00df_32) (fun _ z => z.elim) (rfl : _ = 35) (fun v_32 H32_22 hq_32 o_32 => ?_)
  obtain ⟨e32, hw, sz32⟩ := hq_32
  have hlt := hv.lt
  have hbl := hb.lt
  have hb := hb.off o_32 id
  have hv := hv.off o_32 id
  have sz : Array.size H32_22 = H0.size + 1 := sz32
  refine V_put Y.1 fi_J5_15 fw_J4 rfl rfl hb (Or.inl rfl) rfl rfl (Nat.le_of_ble_eq_true rfl) dJ5_ensureCapacityInternal_d00df_35 (rfl : _ = 38) (fun H35_29 h_new o_35 => ?_)
  have hb : hp D _ _ (.inr (1, [_, _, _, _])) := h_new
  have hv := hv.sto o_35 (by omega)
  have sz : Array.size H35_29 = H0.size + 1 := o_35.1.trans sz
  clear h_new
  exact V_retV Y.1 dJ5_ensureCapacityInternal_d00df_38 (Nat.le_of_ble_eq_true rfl) (Nat.le_of_ble_eq_true rfl) ⟨⟨⟨ml, by rw [e32] at hb; exact hb⟩, by rw [← e32]; exact hw.sto o_35 (by omega), by omega, by omega, by omega, fun j => by unfold va_cpy; split <;> first | exact hfb _ | rfl⟩, by rw [o_35.1]; exact sz32⟩

set_option maxRecDepth 100000 in
set_option maxHeartbeats 4000000 in
theorem c_J5_inflateIf_s (l : Launch) (D : va_G) (kA : Nat → ClassId) (Hs : Heap) (σ : SG) (H0 : Heap) (hg : Ag Hs H0) (b v cap n : Nat) (g : Nat → Int32) (x : String × Nat × String) (hx : x ∈ wL) (hS : Sb D kA H0 b v cap n g)  : CtS l D kA Hs σ yJ5_inflateIfNeededFor_a7421 cJ5_inflateIfNeededFor_a7421 2 none 1 20 0 0 H0 [.ref b, .ref (σ x.1 x.2.1).1] (nof) (pV fun H => H = H0) := by
  refine CtS.of mi_J5_inflateIfNeededFor_a7421 (Nat.le_of_ble_eq_true rfl) (ls0 := [(0, _), (1, _)]) rfl hg (fun _ z => z.elim) ?_
  intro Pp Ee Ss Mm Ar Bl Me Cc Z hsH hnm
  have Y := Z.1
  obtain ⟨⟨ml, hb⟩, hv, hne, hn, hcap, hfb⟩ := id hS
  have sz : H0.size = H0.size := rfl
  refine V_gets Y Z.2.2.2.2.1 (tm 203 (by decide +kernel) (by decide +kernel)) dJ5_inflateIfNeededFor_a7421_0 (rfl : _ = 3) ?_
  refine V_if_eq Y.1 (tgt := 21) dJ5_inflateIfNeededFor_a7421_3 (by decide) (rfl : _ = 6) (fun c_n => absurd c_n (by decide)) (fun _ => ?_)
  refine V_aload_n Y.1 0 dJ5_inflateIfNeededFor_a7421_6 (rfl : _ = 7) rfl rfl ?_
  refine V_get Y.1 fi_J5_22 hb rfl dJ5_inflateIfNeededFor_a7421_7 (rfl : _ = 10) ?_
  refine V_aload_n Y.1 1 dJ5_inflateIfNeededFor_a7421_10 (rfl : _ = 11) rfl rfl ?_
  refine V_cP Y (sVL Z (c_J0_coder_7d493 l D kA Hs σ _ hg x hx) mi_J0_coder_7d493 vi_J5_40 (rcvL Z hx hg) rfl rfl (Nat.le_of_ble_eq_true rfl) ⟨Nat.le_of_ble_eq_true rfl, Nat.le_of_ble_eq_true rfl⟩ (Nat.le_of_ble_eq_true rfl) (Nat.le_of_ble_eq_true rfl) dJ5_inflateIfNeededFor_a7421_11) (rfl : _ = 14) ?_
  refine V_icmp_eq Y.1 (tgt := 21) dJ5_inflateIfNeededFor_a7421_14 (by decide) (rfl : _ = 17) (fun _ => ?_) (fun c_n => absurd rfl c_n)
  exact V_retV Y.1 dJ5_inflateIfNeededFor_a7421_21 (Nat.le_of_ble_eq_true rfl) (Nat.le_of_ble_eq_true rfl) rfl

set_option maxRecDepth 100000 in
set_option maxHeartbeats 4000000 in
theorem c_J0_getBytes_s (l : Launch) (D : va_G) (kA : Nat → ClassId) (Hs : Heap) (σ : SG) (H0 : Heap) (hg : Ag Hs H0) (v cap n : Nat) (g : Nat → Int32) (x : String × Nat × String) (hx : x ∈ wL) (hd : hp D H0 v (eB kA cap g)) (hcap : cap ≤ 120) (hvs : Hs.size ≤ v) (hk : n + (byt x.2.2).length ≤ cap)  : CtS l D kA Hs σ yJ0_getBytes_840e7 cJ0_getBytes_840e7 4 none 1 48 0 0 H0 [.ref (σ x.1 x.2.1).1, .ref v, .int (nI n), .int 0] (fun q => q = v) (pV fun H => hp D H v (eB kA cap (va_cpy (fun j => (byt x.2.2).getD j 0) g 0 n (byt x.2.2).length)) ∧ H.size = H0.size) := by
  refine CtS.of mi_J0_getBytes_840e7 (Nat.le_of_ble_eq_true rfl) (ls0 := [(0, _), (1, _), (2, _), (3, _)]) rfl hg (fun q z => z ▸ hvs) ?_
  intro Pp Ee Ss Mm Ar Bl Me Cc Z hsH hnm
  have Y := Z.1
  have sz : H0.size = H0.size := rfl
  refine V_aload_n Y.1 0 dJ0_getBytes_840e7_0 (rfl : _ = 1) rfl rfl ?_
  refine V_cP Y (sVL Z (c_J0_coder_7d493 l D kA Hs σ _ hg x hx) mi_J0_coder_7d493 vi_J0_335 (rcvL Z hx hg) rfl rfl (Nat.le_of_ble_eq_true rfl) ⟨Nat.le_of_ble_eq_true rfl, Nat.le_of_ble_eq_true rfl⟩ (Nat.le_of_ble_eq_true rfl) (Nat.le_of_ble_eq_true rfl) dJ0_getBytes_840e7_1) (rfl : _ = 4) ?_
  refine V_iload_n Y.1 3 dJ0_getBytes_840e7_4 (rfl : _ = 5) rfl rfl ?_
  refine V_icmp_ne Y.1 (tgt := 28) dJ0_getBytes_840e7_5 (by decide) (rfl : _ = 8) (fun c_n => absurd rfl c_n) (fun _ => ?_)
  refine V_aload_n Y.1 0 dJ0_getBytes_840e7_8 (rfl : _ = 9) rfl rfl ?_
  refine V_getO Y (Z.2.2.2.1 x hx).2.2.1 (tm 1175 (by decide +kernel) (by decide +kernel)) dJ0_getBytes_840e7_9 (rfl : _ = 12) ?_
  refine V_iconst Y.1 (v := 0) dJ0_getBytes_840e7_12 (rfl : _ = 13) (by decide) ?_
  refine V_aload_n Y.1 1 dJ0_getBytes_840e7_13 (rfl : _ = 14) rfl rfl ?_
  refine V_iload_n Y.1 2 dJ0_getBytes_840e7_14 (rfl : _ = 15) rfl rfl ?_
  refine V_iload_n Y.1 3 dJ0_getBytes_840e7_15 (rfl : _ = 16) rfl rfl ?_
  refine V_ishl Y.1 dJ0_getBytes_840e7_16 (rfl : _ = 17) ?_
  refine V_nm (v := nI n) (shl_0 _) ?_
  refine V_aload_n Y.1 0 dJ0_getBytes_840e7_17 (rfl : _ = 18) rfl rfl ?_
  refine V_getO Y (Z.2.2.2.1 x hx).2.2.1 (tm 1175 (by decide +kernel) (by decide +kernel)) dJ0_getBytes_840e7_18 (rfl : _ = 21) ?_
  refine V_alenT Y (Z.2.2.2.1 x hx).2.2.2 dJ0_getBytes_840e7_21 (rfl : _ = 22) ?_
  refine V_copyT Y.1 aw_J0_212 (sp := 0) (dp := n) (N := (byt x.2.2).length) (Z.2.2.2.1 x hx).2.2.2 hd rfl (Or.inl rfl) rfl rfl rfl (by omega) (by omega) (by omega) (by omega) (fun i hi => by rw [Nat.zero_add]; exact wL_fb x hx i) (Nat.le_of_ble_eq_true rfl) (Nat.le_of_ble_eq_true rfl) dJ0_getBytes_840e7_22 rfl (fun H22 h_new o_22 => ?_)
  have hd := h_new
  have sz : Array.size H22 = H0.size := o_22.1
  refine V_goto Y.1 (tgt := 43) dJ0_getBytes_840e7_25 (by decide) ?_
  exact V_retV Y.1 dJ0_getBytes_840e7_43 (Nat.le_of_ble_eq_true rfl) (Nat.le_of_ble_eq_true rfl) ⟨hd, sz⟩

set_option maxRecDepth 100000 in
set_option maxHeartbeats 4000000 in
theorem c_J5_putString_s (l : Launch) (D : va_G) (kA : Nat → ClassId) (Hs : Heap) (σ : SG) (H0 : Heap) (hg : Ag Hs H0) (b v cap n : Nat) (g : Nat → Int32) (x : String × Nat × String) (hx : x ∈ wL) (hS : Sb D kA H0 b v cap n g) (hvs : Hs.size ≤ v) (hk : n + (byt x.2.2).length ≤ cap)  : CtS l D kA Hs σ yJ5_putStringAt_47b60 cJ5_putStringAt_47b60 3 none 2 71 0 0 H0 [.ref b, .int (nI n), .ref (σ x.1 x.2.1).1] (fun q => q = v) (pV fun H => Sb D kA H b v cap n (va_cpy (fun j => (byt x.2.2).getD j 0) g 0 n (byt x.2.2).length) ∧ H.size = H0.size) := by
  refine CtS.of mi_J5_putStringAt_47b60 (Nat.le_of_ble_eq_true rfl) (ls0 := [(0, _), (1, _), (2, _)]) rfl hg (fun q z => z ▸ hvs) ?_
  intro Pp Ee Ss Mm Ar Bl Me Cc Z hsH hnm
  have Y := Z.1
  obtain ⟨⟨ml, hb⟩, hv, hne, hn, hcap, hfb⟩ := id hS
  have sz : H0.size = H0.size := rfl
  refine V_aload_n Y.1 0 dJ5_putStringAt_47b60_0 (rfl : _ = 1) rfl rfl ?_
  refine V_aload_n Y.1 2 dJ5_putStringAt_47b60_1 (rfl : _ = 2) rfl rfl ?_
  refine V_cV Y (sVp Z (c_J5_inflateIf_s l D kA Hs σ _ hg b v cap n g x hx hS) mi_J5_inflateIfNeededFor_a7421 vp_J5_397 rfl hb rfl rfl (Nat.le_of_ble_eq_true rfl) ⟨Nat.le_of_ble_eq_true rfl, Nat.le_of_ble_eq_true rfl⟩ (Nat.le_of_ble_eq_true rfl) (Nat.le_of_ble_eq_true rfl) dJ5_putStringAt_47b60_2) (fun _ z => z.elim) (rfl : _ = 5) (fun H2_2 hq_2 o_2 => ?_)
  have hq9 := hq_2.symm
  subst hq9
  refine V_aload_n Y.1 2 dJ5_putStringAt_47b60_5 (rfl : _ = 6) rfl rfl ?_
  refine V_aload_n Y.1 0 dJ5_putStringAt_47b60_6 (rfl : _ = 7) rfl rfl ?_
  refine V_get Y.1 fi_J5_15 hb rfl dJ5_putStringAt_47b60_7 (rfl : _ = 10) ?_
  refine V_iload_n Y.1 1 dJ5_putStringAt_47b60_10 (rfl : _ = 11) rfl rfl ?_
  refine V_aload_n Y.1 0 dJ5_putStringAt_47b60_11 (rfl : _ = 12) rfl rfl ?_
  refine V_get Y.1 fi_J5_22 hb rfl dJ5_putStringAt_47b60_12 (rfl : _ = 15) ?_
  refine V_cV Y (sVL Z (c_J0_getBytes_s l D kA Hs σ _ hg v cap n g x hx hv hcap hvs hk) mi_J0_getBytes_840e7 vi_J5_399 (rcvL Z hx hg) rfl rfl (Nat.le_of_ble_eq_true rfl) ⟨Nat.le_of_ble_eq_true rfl, Nat.le_of_ble_eq_true rfl⟩ (Nat.le_of_ble_eq_true rfl) (Nat.le_of_ble_eq_true rfl) dJ5_putStringAt_47b60_15) (fun q z => Or.inl z) (rfl : _ = 18) (fun H15_11 hq_15 o_15 => ?_)
  obtain ⟨hv, sz⟩ := hq_15
  have hb := hb.off o_15 hne
  exact V_retV Y.1 dJ5_putStringAt_47b60_18 (Nat.le_of_ble_eq_true rfl) (Nat.le_of_ble_eq_true rfl) ⟨⟨⟨_, hb⟩, hv, hne, hn, hcap, fb_cpy (wL_fb x hx) hfb⟩, sz⟩

set_option maxRecDepth 100000 in
set_option maxHeartbeats 4000000 in
theorem c_J5_appSs_k (l : Launch) (D : va_G) (kA : Nat → ClassId) (Hs : Heap) (σ : SG) (H0 : Heap) (hg : Ag Hs H0) (b v cap n : Nat) (g : Nat → Int32) (x : String × Nat × String) (hx : x ∈ wL) (hk : n + (byt x.2.2).length ≤ cap) (hS : Sb D kA H0 b v cap n g) (hbs : Hs.size ≤ b) (hvs : Hs.size ≤ v)  : CtS l D kA Hs σ yJ5_append_cf1ce cJ5_append_cf1ce 3 (some (.object "java/lang/AbstractStringBuilder")) 4 94 0 0 H0 [.ref b, .ref (σ x.1 x.2.1).1] (fun q => q = b ∨ q = v) (pR fun r8 H => r8 = b ∧ Sb D kA H b v cap (n + (byt x.2.2).length) (va_cpy (fun j => (byt x.2.2).getD j 0) g 0 n (byt x.2.2).length) ∧ H.size = H0.size) := by
  refine CtS.of mi_J5_append_cf1ce (Nat.le_of_ble_eq_true rfl) (ls0 := [(0, _), (1, _)]) rfl hg (fun q z => z.elim (fun e => e ▸ hbs) (fun e => e ▸ hvs)) ?_
  intro Pp Ee Ss Mm Ar Bl Me Cc Z hsH hnm
  have Y := Z.1
  obtain ⟨⟨ml, hb⟩, hv, hne, hn, hcap, hfb⟩ := id hS
  have sz : H0.size = H0.size := rfl
  refine V_aload_n Y.1 1 dJ5_append_cf1ce_0 (rfl : _ = 1) rfl rfl ?_
  refine V_ifnonnullR Y.1 (tgt := 9) dJ5_append_cf1ce_1 (by decide) ?_
  refine V_aload_n Y.1 1 dJ5_append_cf1ce_9 (rfl : _ = 10) rfl rfl ?_
  refine V_cP Y (sVL Z (c_J0_length_8abf5 l D kA Hs σ _ hg x hx) mi_J0_length_8abf5 vi_J5_32 (rcvL Z hx hg) rfl rfl (Nat.le_of_ble_eq_true rfl) ⟨Nat.le_of_ble_eq_true rfl, Nat.le_of_ble_eq_true rfl⟩ (Nat.le_of_ble_eq_true rfl) (Nat.le_of_ble_eq_true rfl) dJ5_append_cf1ce_10) (rfl : _ = 13) ?_
  refine V_istore_n Y.1 (ls' := [(2, _), (0, _), (1, _)]) dJ5_append_cf1ce_13 (rfl : _ = 14) rfl (by decide) rfl ?_
  refine V_aload_n Y.1 1 dJ5_append_cf1ce_14 (rfl : _ = 15) rfl rfl ?_
  refine V_aload_n Y.1 1 dJ5_append_cf1ce_15 (rfl : _ = 16) rfl rfl ?_
  refine V_get Y.1 fi_J5_79 hb rfl dJ5_append_cf1ce_16 (rfl : _ = 19) ?_
  refine V_iload_n Y.1 0 dJ5_append_cf1ce_19 (rfl : _ = 20) rfl rfl ?_
  refine V_iadd Y.1 dJ5_append_cf1ce_20 (rfl : _ = 21) ?_
  refine V_nm (v := nI (n + (byt x.2.2).length)) (nI_add _ _) ?_
  refine V_cV Y (sVp Z (c_J5_ensure_k l D kA Hs σ _ hg b v cap n g (n + (byt x.2.2).length) hk hS) mi_J5_ensureCapacityInternal_d00df vp_J5_100 rfl hb rfl rfl (Nat.le_of_ble_eq_true rfl) ⟨Nat.le_of_ble_eq_true rfl, Nat.le_of_ble_eq_true rfl⟩ (Nat.le_of_ble_eq_true rfl) (Nat.le_of_ble_eq_true rfl) dJ5_append_cf1ce_21) (fun _ z => z.elim) (rfl : _ = 24) (fun H21_11 hq_21 o_21 => ?_)
  have hq9 := hq_21.symm
  subst hq9
  refine V_aload_n Y.1 1 dJ5_append_cf1ce_24 (rfl : _ = 25) rfl rfl ?_
  refine V_aload_n Y.1 1 dJ5_append_cf1ce_25 (rfl : _ = 26) rfl rfl ?_
  refine V_get Y.1 fi_J5_79 hb rfl dJ5_append_cf1ce_26 (rfl : _ = 29) ?_
  refine V_aload_n Y.1 2 dJ5_append_cf1ce_29 (rfl : _ = 30) rfl rfl ?_
  refine V_cV Y (sVp Z (c_J5_putString_s l D kA Hs σ _ hg b _ _ n _ x hx hS hvs hk) mi_J5_putStringAt_47b60 vp_J5_208 rfl hb rfl rfl (Nat.le_of_ble_eq_true rfl) ⟨Nat.le_of_ble_eq_true rfl, Nat.le_of_ble_eq_true rfl⟩ (Nat.le_of_ble_eq_true rfl) (Nat.le_of_ble_eq_true rfl) dJ5_append_cf1ce_30) (fun q z => Or.inl (Or.inr z)) (rfl : _ = 33) (fun H30_18 hq_30 o_30 => ?_)
  clear hfb hcap hn hne hv hb
  obtain ⟨⟨⟨ml9, hb⟩, hv, hne, hn, hcap, hfb⟩, sz9⟩ := hq_30
  have sz : Array.size H30_18 = H0.size := by rw [sz9, sz]
  refine V_aload_n Y.1 1 dJ5_append_cf1ce_33 (rfl : _ = 34) rfl rfl ?_
  refine V_dup Y.1 dJ5_append_cf1ce_34 (rfl : _ = 35) rfl ?_
  refine V_get Y.1 fi_J5_79 hb rfl dJ5_append_cf1ce_35 (rfl : _ = 38) ?_
  refine V_iload_n Y.1 0 dJ5_append_cf1ce_38 (rfl : _ = 39) rfl rfl ?_
  refine V_iadd Y.1 dJ5_append_cf1ce_39 (rfl : _ = 40) ?_
  refine V_nm (v := nI (n + (byt x.2.2).length)) (nI_add _ _) ?_
  refine V_put Y.1 fi_J5_79 fw_J4 rfl rfl hb (Or.inl (Or.inl rfl)) rfl rfl (Nat.le_of_ble_eq_true rfl) dJ5_append_cf1ce_40 (rfl : _ = 43) (fun H40_28 h_new o_40 => ?_)
  have hb : hp D _ _ (.inr (1, [_, _, _, _])) := h_new
  have hv := hv.sto o_40 (by omega)
  have sz : Array.size H40_28 = H0.size := o_40.1.trans sz
  clear h_new
  refine V_aload_n Y.1 1 dJ5_append_cf1ce_43 (rfl : _ = 44) rfl rfl ?_
  exact V_retR Y.1 dJ5_append_cf1ce_44 (Or.inl ⟨_, rfl⟩) (Nat.le_of_ble_eq_true rfl) (Nat.le_of_ble_eq_true rfl) ⟨rfl, ⟨⟨_, hb⟩, hv, hne, hk, hcap, hfb⟩, sz⟩

set_option maxRecDepth 100000 in
set_option maxHeartbeats 4000000 in
theorem c_J4_appSs_k (l : Launch) (D : va_G) (kA : Nat → ClassId) (Hs : Heap) (σ : SG) (H0 : Heap) (hg : Ag Hs H0) (b v cap n : Nat) (g : Nat → Int32) (x : String × Nat × String) (hx : x ∈ wL) (hk : n + (byt x.2.2).length ≤ cap) (hS : Sb D kA H0 b v cap n g) (hbs : Hs.size ≤ b) (hvs : Hs.size ≤ v)  : CtS l D kA Hs σ yJ4_append_15ec4 cJ4_append_15ec4 2 (some (.object "java/lang/StringBuilder")) 5 116 0 0 H0 [.ref b, .ref (σ x.1 x.2.1).1] (fun q => q = b ∨ q = v) (pR fun r8 H => r8 = b ∧ Sb D kA H b v cap (n + (byt x.2.2).length) (va_cpy (fun j => (byt x.2.2).getD j 0) g 0 n (byt x.2.2).length) ∧ H.size = H0.size) := by
  refine CtS.of mi_J4_append_15ec4 (Nat.le_of_ble_eq_true rfl) (ls0 := [(0, _), (1, _)]) rfl hg (fun q z => z.elim (fun e => e ▸ hbs) (fun e => e ▸ hvs)) ?_
  intro Pp Ee Ss Mm Ar Bl Me Cc Z hsH hnm
  have Y := Z.1
  obtain ⟨⟨ml, hb⟩, hv, hne, hn, hcap, hfb⟩ := id hS
  have sz : H0.size = H0.size := rfl
  refine V_aload_n Y.1 0 dJ4_append_15ec4_0 (rfl : _ = 1) rfl rfl ?_
  refine V_aload_n Y.1 1 dJ4_append_15ec4_1 (rfl : _ = 2) rfl rfl ?_
  refine V_cR Y (sSU Z (c_J5_appSs_k l D kA Hs σ _ hg b v cap n g x hx hk hS hbs hvs) mi_J5_append_cf1ce su_J4_29 rfl hb rfl rfl (Nat.le_of_ble_eq_true rfl) ⟨Nat.le_of_ble_eq_true rfl, Nat.le_of_ble_eq_true rfl⟩ (Nat.le_of_ble_eq_true rfl) (Nat.le_of_ble_eq_true rfl) dJ4_append_15ec4_2) (fun q z => Or.inl z) (rfl : _ = 5) (fun v_2 H2_2 hq_2 o_2 => ?_)
  obtain ⟨-, hS9, sz9⟩ := hq_2
  refine V_pop Y.1 dJ4_append_15ec4_5 (rfl : _ = 6) rfl ?_
  refine V_aload_n Y.1 0 dJ4_append_15ec4_6 (rfl : _ = 7) rfl rfl ?_
  exact V_retR Y.1 dJ4_append_15ec4_7 (Or.inl ⟨_, rfl⟩) (Nat.le_of_ble_eq_true rfl) (Nat.le_of_ble_eq_true rfl) ⟨rfl, hS9, sz9⟩

set_option maxRecDepth 100000 in
set_option maxHeartbeats 4000000 in
theorem c_J5_appSs_h (l : Launch) (D : va_G) (kA : Nat → ClassId) (Hs : Heap) (σ : SG) (H0 : Heap) (hg : Ag Hs H0) (b v cap n : Nat) (g : Nat → Int32) (x : String × Nat × String) (hx : x ∈ wL) (hk : cap < n + (byt x.2.2).length) (hk2 : n + (byt x.2.2).length ≤ cap + (cap + 2)) (hc2 : cap + (cap + 2) ≤ 120) (hS : Sb D kA H0 b v cap n g) (hbs : Hs.size ≤ b)  : CtS l D kA Hs σ yJ5_append_cf1ce cJ5_append_cf1ce 3 (some (.object "java/lang/AbstractStringBuilder")) 4 94 1 200 H0 [.ref b, .ref (σ x.1 x.2.1).1] (fun q => q = b) (pR fun r8 H => r8 = b ∧ Sb D kA H b H0.size (cap + (cap + 2)) (n + (byt x.2.2).length) (va_cpy (fun j => (byt x.2.2).getD j 0) (va_cpy g (fun _ => 0) 0 0 cap) 0 n (byt x.2.2).length) ∧ H.size = H0.size + 1) := by
  refine CtS.of mi_J5_append_cf1ce (Nat.le_of_ble_eq_true rfl) (ls0 := [(0, _), (1, _)]) rfl hg (fun q z => z ▸ hbs) ?_
  intro Pp Ee Ss Mm Ar Bl Me Cc Z hsH hnm
  have Y := Z.1
  obtain ⟨⟨ml, hb⟩, hv, hne, hn, hcap, hfb⟩ := id hS
  have sz : H0.size = H0.size := rfl
  refine V_aload_n Y.1 1 dJ5_append_cf1ce_0 (rfl : _ = 1) rfl rfl ?_
  refine V_ifnonnullR Y.1 (tgt := 9) dJ5_append_cf1ce_1 (by decide) ?_
  refine V_aload_n Y.1 1 dJ5_append_cf1ce_9 (rfl : _ = 10) rfl rfl ?_
  refine V_cP Y (sVL Z (c_J0_length_8abf5 l D kA Hs σ _ hg x hx) mi_J0_length_8abf5 vi_J5_32 (rcvL Z hx hg) rfl rfl (Nat.le_of_ble_eq_true rfl) ⟨Nat.le_of_ble_eq_true rfl, Nat.le_of_ble_eq_true rfl⟩ (Nat.le_of_ble_eq_true rfl) (Nat.le_of_ble_eq_true rfl) dJ5_append_cf1ce_10) (rfl : _ = 13) ?_
  refine V_istore_n Y.1 (ls' := [(2, _), (0, _), (1, _)]) dJ5_append_cf1ce_13 (rfl : _ = 14) rfl (by decide) rfl ?_
  refine V_aload_n Y.1 1 dJ5_append_cf1ce_14 (rfl : _ = 15) rfl rfl ?_
  refine V_aload_n Y.1 1 dJ5_append_cf1ce_15 (rfl : _ = 16) rfl rfl ?_
  refine V_get Y.1 fi_J5_79 hb rfl dJ5_append_cf1ce_16 (rfl : _ = 19) ?_
  refine V_iload_n Y.1 0 dJ5_append_cf1ce_19 (rfl : _ = 20) rfl rfl ?_
  refine V_iadd Y.1 dJ5_append_cf1ce_20 (rfl : _ = 21) ?_
  refine V_nm (v := nI (n + (byt x.2.2).length)) (nI_add _ _) ?_
  refine V_cV Y (sVp Z (c_J5_ensure_h l D kA Hs σ _ hg b v cap n g (n + (byt x.2.2).length) hk hk2 hc2 hS hbs) mi_J5_ensureCapacityInternal_d00df vp_J5_100 rfl hb rfl rfl (Nat.le_of_ble_eq_true rfl) ⟨Nat.le_of_ble_eq_true rfl, Nat.le_of_ble_eq_true rfl⟩ (Nat.le_of_ble_eq_true rfl) (Nat.le_of_ble_eq_true rfl) dJ5_append_cf1ce_21) (fun q z => Or.inl z) (rfl : _ = 24) (fun H21_11 hq_21 o_21 => ?_)
  have hg0 := hg
  clear hfb hcap hn hne hv hb
  obtain ⟨hS, sz⟩ := hq_21
  have hg := hg.keep o_21 (fun q z => z ▸ hbs)
  obtain ⟨⟨ml, hb⟩, hv, hne, hn, hcap, hfb⟩ := id hS
  have sz : Array.size H21_11 = H0.size + 1 := sz
  refine V_aload_n Y.1 1 dJ5_append_cf1ce_24 (rfl : _ = 25) rfl rfl ?_
  refine V_aload_n Y.1 1 dJ5_append_cf1ce_25 (rfl : _ = 26) rfl rfl ?_
  refine V_get Y.1 fi_J5_79 hb rfl dJ5_append_cf1ce_26 (rfl : _ = 29) ?_
  refine V_aload_n Y.1 2 dJ5_append_cf1ce_29 (rfl : _ = 30) rfl rfl ?_
  refine V_cV Y (sVp Z (c_J5_putString_s l D kA Hs σ _ hg b _ _ n _ x hx hS (by have := hg0.1; omega) hk2) mi_J5_putStringAt_47b60 vp_J5_208 rfl hb rfl rfl (Nat.le_of_ble_eq_true rfl) ⟨Nat.le_of_ble_eq_true rfl, Nat.le_of_ble_eq_true rfl⟩ (Nat.le_of_ble_eq_true rfl) (Nat.le_of_ble_eq_true rfl) dJ5_append_cf1ce_30) (fun q z => Or.inr (by have z : q = H0.size := z; omega)) (rfl : _ = 33) (fun H30_22 hq_30 o_30 => ?_)
  clear hfb hcap hn hne hv hb
  obtain ⟨⟨⟨ml9, hb⟩, hv, hne, hn, hcap, hfb⟩, sz9⟩ := hq_30
  have sz : Array.size H30_22 = H0.size + 1 := by rw [sz9, sz]
  refine V_aload_n Y.1 1 dJ5_append_cf1ce_33 (rfl : _ = 34) rfl rfl ?_
  refine V_dup Y.1 dJ5_append_cf1ce_34 (rfl : _ = 35) rfl ?_
  refine V_get Y.1 fi_J5_79 hb rfl dJ5_append_cf1ce_35 (rfl : _ = 38) ?_
  refine V_iload_n Y.1 0 dJ5_append_cf1ce_38 (rfl : _ = 39) rfl rfl ?_
  refine V_iadd Y.1 dJ5_append_cf1ce_39 (rfl : _ = 40) ?_
  refine V_nm (v := nI (n + (byt x.2.2).length)) (nI_add _ _) ?_
  refine V_put Y.1 fi_J5_79 fw_J4 rfl rfl hb (Or.inl rfl) rfl rfl (Nat.le_of_ble_eq_true rfl) dJ5_append_cf1ce_40 (rfl : _ = 43) (fun H40_32 h_new o_40 => ?_)
  have hb : hp D _ _ (.inr (1, [_, _, _, _])) := h_new
  have hv := hv.sto o_40 (by omega)
  have sz : Array.size H40_32 = H0.size + 1 := o_40.1.trans sz
  clear h_new
  refine V_aload_n Y.1 1 dJ5_append_cf1ce_43 (rfl : _ = 44) rfl rfl ?_
  exact V_retR Y.1 dJ5_append_cf1ce_44 (Or.inl ⟨_, rfl⟩) (Nat.le_of_ble_eq_true rfl) (Nat.le_of_ble_eq_true rfl) ⟨rfl, ⟨⟨_, hb⟩, hv, hne, hk2, hcap, hfb⟩, sz⟩

set_option maxRecDepth 100000 in
set_option maxHeartbeats 4000000 in
theorem c_J4_appSs_h (l : Launch) (D : va_G) (kA : Nat → ClassId) (Hs : Heap) (σ : SG) (H0 : Heap) (hg : Ag Hs H0) (b v cap n : Nat) (g : Nat → Int32) (x : String × Nat × String) (hx : x ∈ wL) (hk : cap < n + (byt x.2.2).length) (hk2 : n + (byt x.2.2).length ≤ cap + (cap + 2)) (hc2 : cap + (cap + 2) ≤ 120) (hS : Sb D kA H0 b v cap n g) (hbs : Hs.size ≤ b)  : CtS l D kA Hs σ yJ4_append_15ec4 cJ4_append_15ec4 2 (some (.object "java/lang/StringBuilder")) 5 116 1 200 H0 [.ref b, .ref (σ x.1 x.2.1).1] (fun q => q = b) (pR fun r8 H => r8 = b ∧ Sb D kA H b H0.size (cap + (cap + 2)) (n + (byt x.2.2).length) (va_cpy (fun j => (byt x.2.2).getD j 0) (va_cpy g (fun _ => 0) 0 0 cap) 0 n (byt x.2.2).length) ∧ H.size = H0.size + 1) := by
  refine CtS.of mi_J4_append_15ec4 (Nat.le_of_ble_eq_true rfl) (ls0 := [(0, _), (1, _)]) rfl hg (fun q z => z ▸ hbs) ?_
  intro Pp Ee Ss Mm Ar Bl Me Cc Z hsH hnm
  have Y := Z.1
  obtain ⟨⟨ml, hb⟩, hv, hne, hn, hcap, hfb⟩ := id hS
  have sz : H0.size = H0.size := rfl
  refine V_aload_n Y.1 0 dJ4_append_15ec4_0 (rfl : _ = 1) rfl rfl ?_
  refine V_aload_n Y.1 1 dJ4_append_15ec4_1 (rfl : _ = 2) rfl rfl ?_
  refine V_cR Y (sSU Z (c_J5_appSs_h l D kA Hs σ _ hg b v cap n g x hx hk hk2 hc2 hS hbs) mi_J5_append_cf1ce su_J4_29 rfl hb rfl rfl (Nat.le_of_ble_eq_true rfl) ⟨Nat.le_of_ble_eq_true rfl, Nat.le_of_ble_eq_true rfl⟩ (Nat.le_of_ble_eq_true rfl) (Nat.le_of_ble_eq_true rfl) dJ4_append_15ec4_2) (fun q z => Or.inl z) (rfl : _ = 5) (fun v_2 H2_2 hq_2 o_2 => ?_)
  obtain ⟨-, hS9, sz9⟩ := hq_2
  refine V_pop Y.1 dJ4_append_15ec4_5 (rfl : _ = 6) rfl ?_
  refine V_aload_n Y.1 0 dJ4_append_15ec4_6 (rfl : _ = 7) rfl rfl ?_
  exact V_retR Y.1 dJ4_append_15ec4_7 (Or.inl ⟨_, rfl⟩) (Nat.le_of_ble_eq_true rfl) (Nat.le_of_ble_eq_true rfl) ⟨rfl, hS9, sz9⟩

set_option maxRecDepth 100000 in
set_option maxHeartbeats 4000000 in
theorem c_J5_inflateIf_m (l : Launch) (D : va_G) (kA : Nat → ClassId) (Hs : Heap) (σ : SG) (H0 : Heap) (hg : Ag Hs H0) (b v cap n : Nat) (g : Nat → Int32) (lo r : Nat) (L2 : List Int32) (hS : Sb D kA H0 b v cap n g) (hR : TS D kA H0 lo r L2) : CtS l D kA Hs σ yJ5_inflateIfNeededFor_a7421 cJ5_inflateIfNeededFor_a7421 2 none 1 20 0 0 H0 [.ref b, .ref r] (nof) (pV fun H => H = H0) := by
  refine CtS.of mi_J5_inflateIfNeededFor_a7421 (Nat.le_of_ble_eq_true rfl) (ls0 := [(0, _), (1, _)]) rfl hg (fun _ z => z.elim) ?_
  intro Pp Ee Ss Mm Ar Bl Me Cc Z hsH hnm
  have Y := Z.1
  obtain ⟨⟨ml, hb⟩, hv, hne, hn, hcap, hfb⟩ := id hS
  obtain ⟨v2, w1, w2, hl1, hl2, hr, hv2, hne2, hlen2, hch2⟩ := id hR
  have sz : H0.size = H0.size := rfl
  refine V_gets Y Z.2.2.2.2.1 (tm 203 (by decide +kernel) (by decide +kernel)) dJ5_inflateIfNeededFor_a7421_0 (rfl : _ = 3) ?_
  refine V_if_eq Y.1 (tgt := 21) dJ5_inflateIfNeededFor_a7421_3 (by decide) (rfl : _ = 6) (fun c_n => absurd c_n (by decide)) (fun _ => ?_)
  refine V_aload_n Y.1 0 dJ5_inflateIfNeededFor_a7421_6 (rfl : _ = 7) rfl rfl ?_
  refine V_get Y.1 fi_J5_22 hb rfl dJ5_inflateIfNeededFor_a7421_7 (rfl : _ = 10) ?_
  refine V_aload_n Y.1 1 dJ5_inflateIfNeededFor_a7421_10 (rfl : _ = 11) rfl rfl ?_
  refine V_cP Y (sV Z (c_J0_coder_m l D kA Hs σ _ hg lo r L2 hR) mi_J0_coder_7d493 vi_J5_40 rfl hr rfl rfl (Nat.le_of_ble_eq_true rfl) ⟨Nat.le_of_ble_eq_true rfl, Nat.le_of_ble_eq_true rfl⟩ (Nat.le_of_ble_eq_true rfl) (Nat.le_of_ble_eq_true rfl) dJ5_inflateIfNeededFor_a7421_11) (rfl : _ = 14) ?_
  refine V_icmp_eq Y.1 (tgt := 21) dJ5_inflateIfNeededFor_a7421_14 (by decide) (rfl : _ = 17) (fun _ => ?_) (fun c_n => absurd rfl c_n)
  exact V_retV Y.1 dJ5_inflateIfNeededFor_a7421_21 (Nat.le_of_ble_eq_true rfl) (Nat.le_of_ble_eq_true rfl) rfl

set_option maxRecDepth 100000 in
set_option maxHeartbeats 4000000 in
theorem c_J0_getBytes_m (l : Launch) (D : va_G) (kA : Nat → ClassId) (Hs : Heap) (σ : SG) (H0 : Heap) (hg : Ag Hs H0) (v cap n : Nat) (g : Nat → Int32) (lo r : Nat) (L2 : List Int32) (hd : hp D H0 v (eB kA cap g)) (hcap : cap ≤ 120) (hvs : Hs.size ≤ v) (hk : n + L2.length ≤ cap) (hR : TS D kA H0 lo r L2) : CtS l D kA Hs σ yJ0_getBytes_840e7 cJ0_getBytes_840e7 4 none 1 48 0 0 H0 [.ref r, .ref v, .int (nI n), .int 0] (fun q => q = v) (pV fun H => hp D H v (eB kA cap (va_cpy (fun j => L2.getD j 0) g 0 n L2.length)) ∧ H.size = H0.size) := by
  refine CtS.of mi_J0_getBytes_840e7 (Nat.le_of_ble_eq_true rfl) (ls0 := [(0, _), (1, _), (2, _), (3, _)]) rfl hg (fun q z => z ▸ hvs) ?_
  intro Pp Ee Ss Mm Ar Bl Me Cc Z hsH hnm
  have Y := Z.1
  obtain ⟨v2, w1, w2, hl1, hl2, hr, hv2, hne2, hlen2, hch2⟩ := id hR
  have sz : H0.size = H0.size := rfl
  refine V_aload_n Y.1 0 dJ0_getBytes_840e7_0 (rfl : _ = 1) rfl rfl ?_
  refine V_cP Y (sV Z (c_J0_coder_m l D kA Hs σ _ hg lo r L2 hR) mi_J0_coder_7d493 vi_J0_335 rfl hr rfl rfl (Nat.le_of_ble_eq_true rfl) ⟨Nat.le_of_ble_eq_true rfl, Nat.le_of_ble_eq_true rfl⟩ (Nat.le_of_ble_eq_true rfl) (Nat.le_of_ble_eq_true rfl) dJ0_getBytes_840e7_1) (rfl : _ = 4) ?_
  refine V_iload_n Y.1 3 dJ0_getBytes_840e7_4 (rfl : _ = 5) rfl rfl ?_
  refine V_icmp_ne Y.1 (tgt := 28) dJ0_getBytes_840e7_5 (by decide) (rfl : _ = 8) (fun c_n => absurd rfl c_n) (fun _ => ?_)
  refine V_aload_n Y.1 0 dJ0_getBytes_840e7_8 (rfl : _ = 9) rfl rfl ?_
  refine V_get Y.1 fi_J0_9 hr rfl dJ0_getBytes_840e7_9 (rfl : _ = 12) ?_
  refine V_iconst Y.1 (v := 0) dJ0_getBytes_840e7_12 (rfl : _ = 13) (by decide) ?_
  refine V_aload_n Y.1 1 dJ0_getBytes_840e7_13 (rfl : _ = 14) rfl rfl ?_
  refine V_iload_n Y.1 2 dJ0_getBytes_840e7_14 (rfl : _ = 15) rfl rfl ?_
  refine V_iload_n Y.1 3 dJ0_getBytes_840e7_15 (rfl : _ = 16) rfl rfl ?_
  refine V_ishl Y.1 dJ0_getBytes_840e7_16 (rfl : _ = 17) ?_
  refine V_nm (v := nI n) (shl_0 _) ?_
  refine V_aload_n Y.1 0 dJ0_getBytes_840e7_17 (rfl : _ = 18) rfl rfl ?_
  refine V_get Y.1 fi_J0_9 hr rfl dJ0_getBytes_840e7_18 (rfl : _ = 21) ?_
  refine V_alen Y.1 (v := nI L2.length) (t0 := 4) hv2 rfl rfl dJ0_getBytes_840e7_21 (rfl : _ = 22) ?_
  refine V_copy Y.1 aw_J0_212 (sp := 0) (dp := n) (N := L2.length) hv2 hd rfl rfl (Or.inl rfl) rfl rfl rfl (by omega) (by omega) (by omega) (by omega) (fun i hi => by rw [Nat.zero_add]; obtain ⟨c, hc1, hc⟩ := getD_ch hch2 hi; rw [hc]; exact ch_fb hc1) (Nat.le_of_ble_eq_true rfl) (Nat.le_of_ble_eq_true rfl) dJ0_getBytes_840e7_22 rfl (fun H22 h_new o_22 => ?_)
  have hd := h_new
  have sz : Array.size H22 = H0.size := o_22.1
  refine V_goto Y.1 (tgt := 43) dJ0_getBytes_840e7_25 (by decide) ?_
  exact V_retV Y.1 dJ0_getBytes_840e7_43 (Nat.le_of_ble_eq_true rfl) (Nat.le_of_ble_eq_true rfl) ⟨hd, sz⟩

set_option maxRecDepth 100000 in
set_option maxHeartbeats 4000000 in
theorem c_J5_putString_m (l : Launch) (D : va_G) (kA : Nat → ClassId) (Hs : Heap) (σ : SG) (H0 : Heap) (hg : Ag Hs H0) (b v cap n : Nat) (g : Nat → Int32) (lo r : Nat) (L2 : List Int32) (hS : Sb D kA H0 b v cap n g) (hvs : Hs.size ≤ v) (hk : n + L2.length ≤ cap) (hR : TS D kA H0 lo r L2) : CtS l D kA Hs σ yJ5_putStringAt_47b60 cJ5_putStringAt_47b60 3 none 2 71 0 0 H0 [.ref b, .int (nI n), .ref r] (fun q => q = v) (pV fun H => Sb D kA H b v cap n (va_cpy (fun j => L2.getD j 0) g 0 n L2.length) ∧ H.size = H0.size) := by
  refine CtS.of mi_J5_putStringAt_47b60 (Nat.le_of_ble_eq_true rfl) (ls0 := [(0, _), (1, _), (2, _)]) rfl hg (fun q z => z ▸ hvs) ?_
  intro Pp Ee Ss Mm Ar Bl Me Cc Z hsH hnm
  have Y := Z.1
  obtain ⟨⟨ml, hb⟩, hv, hne, hn, hcap, hfb⟩ := id hS
  obtain ⟨v2, w1, w2, hl1, hl2, hr, hv2, hne2, hlen2, hch2⟩ := id hR
  have sz : H0.size = H0.size := rfl
  refine V_aload_n Y.1 0 dJ5_putStringAt_47b60_0 (rfl : _ = 1) rfl rfl ?_
  refine V_aload_n Y.1 2 dJ5_putStringAt_47b60_1 (rfl : _ = 2) rfl rfl ?_
  refine V_cV Y (sVp Z (c_J5_inflateIf_m l D kA Hs σ _ hg b v cap n g lo r L2 hS hR) mi_J5_inflateIfNeededFor_a7421 vp_J5_397 rfl hb rfl rfl (Nat.le_of_ble_eq_true rfl) ⟨Nat.le_of_ble_eq_true rfl, Nat.le_of_ble_eq_true rfl⟩ (Nat.le_of_ble_eq_true rfl) (Nat.le_of_ble_eq_true rfl) dJ5_putStringAt_47b60_2) (fun _ z => z.elim) (rfl : _ = 5) (fun H2_2 hq_2 o_2 => ?_)
  have hq9 := hq_2.symm
  subst hq9
  refine V_aload_n Y.1 2 dJ5_putStringAt_47b60_5 (rfl : _ = 6) rfl rfl ?_
  refine V_aload_n Y.1 0 dJ5_putStringAt_47b60_6 (rfl : _ = 7) rfl rfl ?_
  refine V_get Y.1 fi_J5_15 hb rfl dJ5_putStringAt_47b60_7 (rfl : _ = 10) ?_
  refine V_iload_n Y.1 1 dJ5_putStringAt_47b60_10 (rfl : _ = 11) rfl rfl ?_
  refine V_aload_n Y.1 0 dJ5_putStringAt_47b60_11 (rfl : _ = 12) rfl rfl ?_
  refine V_get Y.1 fi_J5_22 hb rfl dJ5_putStringAt_47b60_12 (rfl : _ = 15) ?_
  refine V_cV Y (sV Z (c_J0_getBytes_m l D kA Hs σ _ hg v cap n g lo r L2 hv hcap hvs hk hR) mi_J0_getBytes_840e7 vi_J5_399 rfl hr rfl rfl (Nat.le_of_ble_eq_true rfl) ⟨Nat.le_of_ble_eq_true rfl, Nat.le_of_ble_eq_true rfl⟩ (Nat.le_of_ble_eq_true rfl) (Nat.le_of_ble_eq_true rfl) dJ5_putStringAt_47b60_15) (fun q z => Or.inl z) (rfl : _ = 18) (fun H15_11 hq_15 o_15 => ?_)
  obtain ⟨hv, sz⟩ := hq_15
  have hb := hb.off o_15 hne
  exact V_retV Y.1 dJ5_putStringAt_47b60_18 (Nat.le_of_ble_eq_true rfl) (Nat.le_of_ble_eq_true rfl) ⟨⟨⟨_, hb⟩, hv, hne, hn, hcap, fb_cpy (fb_L hch2) hfb⟩, sz⟩

set_option maxRecDepth 100000 in
set_option maxHeartbeats 4000000 in
theorem c_J5_appSm_k (l : Launch) (D : va_G) (kA : Nat → ClassId) (Hs : Heap) (σ : SG) (H0 : Heap) (hg : Ag Hs H0) (b v cap n : Nat) (g : Nat → Int32) (lo r : Nat) (L2 : List Int32) (hk : n + L2.length ≤ cap) (hS : Sb D kA H0 b v cap n g) (hbs : Hs.size ≤ b) (hvs : Hs.size ≤ v) (hR : TS D kA H0 lo r L2) : CtS l D kA Hs σ yJ5_append_cf1ce cJ5_append_cf1ce 3 (some (.object "java/lang/AbstractStringBuilder")) 4 94 0 0 H0 [.ref b, .ref r] (fun q => q = b ∨ q = v) (pR fun r8 H => r8 = b ∧ Sb D kA H b v cap (n + L2.length) (va_cpy (fun j => L2.getD j 0) g 0 n L2.length) ∧ H.size = H0.size) := by
  refine CtS.of mi_J5_append_cf1ce (Nat.le_of_ble_eq_true rfl) (ls0 := [(0, _), (1, _)]) rfl hg (fun q z => z.elim (fun e => e ▸ hbs) (fun e => e ▸ hvs)) ?_
  intro Pp Ee Ss Mm Ar Bl Me Cc Z hsH hnm
  have Y := Z.1
  obtain ⟨⟨ml, hb⟩, hv, hne, hn, hcap, hfb⟩ := id hS
  obtain ⟨v2, w1, w2, hl1, hl2, hr, hv2, hne2, hlen2, hch2⟩ := id hR
  have sz : H0.size = H0.size := rfl
  refine V_aload_n Y.1 1 dJ5_append_cf1ce_0 (rfl : _ = 1) rfl rfl ?_
  refine V_ifnonnullR Y.1 (tgt := 9) dJ5_append_cf1ce_1 (by decide) ?_
  refine V_aload_n Y.1 1 dJ5_append_cf1ce_9 (rfl : _ = 10) rfl rfl ?_
  refine V_cP Y (sV Z (c_J0_length_m l D kA Hs σ _ hg lo r L2 hR) mi_J0_length_8abf5 vi_J5_32 rfl hr rfl rfl (Nat.le_of_ble_eq_true rfl) ⟨Nat.le_of_ble_eq_true rfl, Nat.le_of_ble_eq_true rfl⟩ (Nat.le_of_ble_eq_true rfl) (Nat.le_of_ble_eq_true rfl) dJ5_append_cf1ce_10) (rfl : _ = 13) ?_
  refine V_istore_n Y.1 (ls' := [(2, _), (0, _), (1, _)]) dJ5_append_cf1ce_13 (rfl : _ = 14) rfl (by decide) rfl ?_
  refine V_aload_n Y.1 1 dJ5_append_cf1ce_14 (rfl : _ = 15) rfl rfl ?_
  refine V_aload_n Y.1 1 dJ5_append_cf1ce_15 (rfl : _ = 16) rfl rfl ?_
  refine V_get Y.1 fi_J5_79 hb rfl dJ5_append_cf1ce_16 (rfl : _ = 19) ?_
  refine V_iload_n Y.1 0 dJ5_append_cf1ce_19 (rfl : _ = 20) rfl rfl ?_
  refine V_iadd Y.1 dJ5_append_cf1ce_20 (rfl : _ = 21) ?_
  refine V_nm (v := nI (n + L2.length)) (nI_add _ _) ?_
  refine V_cV Y (sVp Z (c_J5_ensure_k l D kA Hs σ _ hg b v cap n g (n + L2.length) hk hS) mi_J5_ensureCapacityInternal_d00df vp_J5_100 rfl hb rfl rfl (Nat.le_of_ble_eq_true rfl) ⟨Nat.le_of_ble_eq_true rfl, Nat.le_of_ble_eq_true rfl⟩ (Nat.le_of_ble_eq_true rfl) (Nat.le_of_ble_eq_true rfl) dJ5_append_cf1ce_21) (fun _ z => z.elim) (rfl : _ = 24) (fun H21_11 hq_21 o_21 => ?_)
  have hq9 := hq_21.symm
  subst hq9
  refine V_aload_n Y.1 1 dJ5_append_cf1ce_24 (rfl : _ = 25) rfl rfl ?_
  refine V_aload_n Y.1 1 dJ5_append_cf1ce_25 (rfl : _ = 26) rfl rfl ?_
  refine V_get Y.1 fi_J5_79 hb rfl dJ5_append_cf1ce_26 (rfl : _ = 29) ?_
  refine V_aload_n Y.1 2 dJ5_append_cf1ce_29 (rfl : _ = 30) rfl rfl ?_
  refine V_cV Y (sVp Z (c_J5_putString_m l D kA Hs σ _ hg b _ _ n _ lo r L2 hS hvs hk hR) mi_J5_putStringAt_47b60 vp_J5_208 rfl hb rfl rfl (Nat.le_of_ble_eq_true rfl) ⟨Nat.le_of_ble_eq_true rfl, Nat.le_of_ble_eq_true rfl⟩ (Nat.le_of_ble_eq_true rfl) (Nat.le_of_ble_eq_true rfl) dJ5_append_cf1ce_30) (fun q z => Or.inl (Or.inr z)) (rfl : _ = 33) (fun H30_18 hq_30 o_30 => ?_)
  clear hfb hcap hn hne hv hb
  obtain ⟨⟨⟨ml9, hb⟩, hv, hne, hn, hcap, hfb⟩, sz9⟩ := hq_30
  have sz : Array.size H30_18 = H0.size := by rw [sz9, sz]
  refine V_aload_n Y.1 1 dJ5_append_cf1ce_33 (rfl : _ = 34) rfl rfl ?_
  refine V_dup Y.1 dJ5_append_cf1ce_34 (rfl : _ = 35) rfl ?_
  refine V_get Y.1 fi_J5_79 hb rfl dJ5_append_cf1ce_35 (rfl : _ = 38) ?_
  refine V_iload_n Y.1 0 dJ5_append_cf1ce_38 (rfl : _ = 39) rfl rfl ?_
  refine V_iadd Y.1 dJ5_append_cf1ce_39 (rfl : _ = 40) ?_
  refine V_nm (v := nI (n + L2.length)) (nI_add _ _) ?_
  refine V_put Y.1 fi_J5_79 fw_J4 rfl rfl hb (Or.inl (Or.inl rfl)) rfl rfl (Nat.le_of_ble_eq_true rfl) dJ5_append_cf1ce_40 (rfl : _ = 43) (fun H40_28 h_new o_40 => ?_)
  have hb : hp D _ _ (.inr (1, [_, _, _, _])) := h_new
  have hv := hv.sto o_40 (by omega)
  have sz : Array.size H40_28 = H0.size := o_40.1.trans sz
  clear h_new
  refine V_aload_n Y.1 1 dJ5_append_cf1ce_43 (rfl : _ = 44) rfl rfl ?_
  exact V_retR Y.1 dJ5_append_cf1ce_44 (Or.inl ⟨_, rfl⟩) (Nat.le_of_ble_eq_true rfl) (Nat.le_of_ble_eq_true rfl) ⟨rfl, ⟨⟨_, hb⟩, hv, hne, hk, hcap, hfb⟩, sz⟩

set_option maxRecDepth 100000 in
set_option maxHeartbeats 4000000 in
theorem c_J4_appSm_k (l : Launch) (D : va_G) (kA : Nat → ClassId) (Hs : Heap) (σ : SG) (H0 : Heap) (hg : Ag Hs H0) (b v cap n : Nat) (g : Nat → Int32) (lo r : Nat) (L2 : List Int32) (hk : n + L2.length ≤ cap) (hS : Sb D kA H0 b v cap n g) (hbs : Hs.size ≤ b) (hvs : Hs.size ≤ v) (hR : TS D kA H0 lo r L2) : CtS l D kA Hs σ yJ4_append_15ec4 cJ4_append_15ec4 2 (some (.object "java/lang/StringBuilder")) 5 116 0 0 H0 [.ref b, .ref r] (fun q => q = b ∨ q = v) (pR fun r8 H => r8 = b ∧ Sb D kA H b v cap (n + L2.length) (va_cpy (fun j => L2.getD j 0) g 0 n L2.length) ∧ H.size = H0.size) := by
  refine CtS.of mi_J4_append_15ec4 (Nat.le_of_ble_eq_true rfl) (ls0 := [(0, _), (1, _)]) rfl hg (fun q z => z.elim (fun e => e ▸ hbs) (fun e => e ▸ hvs)) ?_
  intro Pp Ee Ss Mm Ar Bl Me Cc Z hsH hnm
  have Y := Z.1
  obtain ⟨⟨ml, hb⟩, hv, hne, hn, hcap, hfb⟩ := id hS
  obtain ⟨v2, w1, w2, hl1, hl2, hr, hv2, hne2, hlen2, hch2⟩ := id hR
  have sz : H0.size = H0.size := rfl
  refine V_aload_n Y.1 0 dJ4_append_15ec4_0 (rfl : _ = 1) rfl rfl ?_
  refine V_aload_n Y.1 1 dJ4_append_15ec4_1 (rfl : _ = 2) rfl rfl ?_
  refine V_cR Y (sSU Z (c_J5_appSm_k l D kA Hs σ _ hg b v cap n g lo r L2 hk hS hbs hvs hR) mi_J5_append_cf1ce su_J4_29 rfl hb rfl rfl (Nat.le_of_ble_eq_true rfl) ⟨Nat.le_of_ble_eq_true rfl, Nat.le_of_ble_eq_true rfl⟩ (Nat.le_of_ble_eq_true rfl) (Nat.le_of_ble_eq_true rfl) dJ4_append_15ec4_2) (fun q z => Or.inl z) (rfl : _ = 5) (fun v_2 H2_2 hq_2 o_2 => ?_)
  obtain ⟨-, hS9, sz9⟩ := hq_2
  refine V_pop Y.1 dJ4_append_15ec4_5 (rfl : _ = 6) rfl ?_
  refine V_aload_n Y.1 0 dJ4_append_15ec4_6 (rfl : _ = 7) rfl rfl ?_
  exact V_retR Y.1 dJ4_append_15ec4_7 (Or.inl ⟨_, rfl⟩) (Nat.le_of_ble_eq_true rfl) (Nat.le_of_ble_eq_true rfl) ⟨rfl, hS9, sz9⟩

set_option maxRecDepth 100000 in
set_option maxHeartbeats 4000000 in
theorem c_J5_appSm_h (l : Launch) (D : va_G) (kA : Nat → ClassId) (Hs : Heap) (σ : SG) (H0 : Heap) (hg : Ag Hs H0) (b v cap n : Nat) (g : Nat → Int32) (lo r : Nat) (L2 : List Int32) (hk : cap < n + L2.length) (hk2 : n + L2.length ≤ cap + (cap + 2)) (hc2 : cap + (cap + 2) ≤ 120) (hS : Sb D kA H0 b v cap n g) (hbs : Hs.size ≤ b) (hR : TS D kA H0 lo r L2) (hlb : b < lo) : CtS l D kA Hs σ yJ5_append_cf1ce cJ5_append_cf1ce 3 (some (.object "java/lang/AbstractStringBuilder")) 4 94 1 200 H0 [.ref b, .ref r] (fun q => q = b) (pR fun r8 H => r8 = b ∧ Sb D kA H b H0.size (cap + (cap + 2)) (n + L2.length) (va_cpy (fun j => L2.getD j 0) (va_cpy g (fun _ => 0) 0 0 cap) 0 n L2.length) ∧ H.size = H0.size + 1) := by
  refine CtS.of mi_J5_append_cf1ce (Nat.le_of_ble_eq_true rfl) (ls0 := [(0, _), (1, _)]) rfl hg (fun q z => z ▸ hbs) ?_
  intro Pp Ee Ss Mm Ar Bl Me Cc Z hsH hnm
  have Y := Z.1
  obtain ⟨⟨ml, hb⟩, hv, hne, hn, hcap, hfb⟩ := id hS
  obtain ⟨v2, w1, w2, hl1, hl2, hr, hv2, hne2, hlen2, hch2⟩ := id hR
  have sz : H0.size = H0.size := rfl
  refine V_aload_n Y.1 1 dJ5_append_cf1ce_0 (rfl : _ = 1) rfl rfl ?_
  refine V_ifnonnullR Y.1 (tgt := 9) dJ5_append_cf1ce_1 (by decide) ?_
  refine V_aload_n Y.1 1 dJ5_append_cf1ce_9 (rfl : _ = 10) rfl rfl ?_
  refine V_cP Y (sV Z (c_J0_length_m l D kA Hs σ _ hg lo r L2 hR) mi_J0_length_8abf5 vi_J5_32 rfl hr rfl rfl (Nat.le_of_ble_eq_true rfl) ⟨Nat.le_of_ble_eq_true rfl, Nat.le_of_ble_eq_true rfl⟩ (Nat.le_of_ble_eq_true rfl) (Nat.le_of_ble_eq_true rfl) dJ5_append_cf1ce_10) (rfl : _ = 13) ?_
  refine V_istore_n Y.1 (ls' := [(2, _), (0, _), (1, _)]) dJ5_append_cf1ce_13 (rfl : _ = 14) rfl (by decide) rfl ?_
  refine V_aload_n Y.1 1 dJ5_append_cf1ce_14 (rfl : _ = 15) rfl rfl ?_
  refine V_aload_n Y.1 1 dJ5_append_cf1ce_15 (rfl : _ = 16) rfl rfl ?_
  refine V_get Y.1 fi_J5_79 hb rfl dJ5_append_cf1ce_16 (rfl : _ = 19) ?_
  refine V_iload_n Y.1 0 dJ5_append_cf1ce_19 (rfl : _ = 20) rfl rfl ?_
  refine V_iadd Y.1 dJ5_append_cf1ce_20 (rfl : _ = 21) ?_
  refine V_nm (v := nI (n + L2.length)) (nI_add _ _) ?_
  refine V_cV Y (sVp Z (c_J5_ensure_h l D kA Hs σ _ hg b v cap n g (n + L2.length) hk hk2 hc2 hS hbs) mi_J5_ensureCapacityInternal_d00df vp_J5_100 rfl hb rfl rfl (Nat.le_of_ble_eq_true rfl) ⟨Nat.le_of_ble_eq_true rfl, Nat.le_of_ble_eq_true rfl⟩ (Nat.le_of_ble_eq_true rfl) (Nat.le_of_ble_eq_true rfl) dJ5_append_cf1ce_21) (fun q z => Or.inl z) (rfl : _ = 24) (fun H21_11 hq_21 o_21 => ?_)
  have hg0 := hg
  clear hfb hcap hn hne hv hb
  obtain ⟨hS, sz⟩ := hq_21
  have hg := hg.keep o_21 (fun q z => z ▸ hbs)
  obtain ⟨⟨ml, hb⟩, hv, hne, hn, hcap, hfb⟩ := id hS
  have hR := hR.off o_21 (fun q z e => absurd (e ▸ z : lo ≤ b) (by omega))
  obtain ⟨v2, w1, w2, hl1, hl2, hr, hv2, hne2, hlen2, hch2⟩ := id hR
  have sz : Array.size H21_11 = H0.size + 1 := sz
  refine V_aload_n Y.1 1 dJ5_append_cf1ce_24 (rfl : _ = 25) rfl rfl ?_
  refine V_aload_n Y.1 1 dJ5_append_cf1ce_25 (rfl : _ = 26) rfl rfl ?_
  refine V_get Y.1 fi_J5_79 hb rfl dJ5_append_cf1ce_26 (rfl : _ = 29) ?_
  refine V_aload_n Y.1 2 dJ5_append_cf1ce_29 (rfl : _ = 30) rfl rfl ?_
  refine V_cV Y (sVp Z (c_J5_putString_m l D kA Hs σ _ hg b _ _ n _ lo r L2 hS (by have := hg0.1; omega) hk2 hR) mi_J5_putStringAt_47b60 vp_J5_208 rfl hb rfl rfl (Nat.le_of_ble_eq_true rfl) ⟨Nat.le_of_ble_eq_true rfl, Nat.le_of_ble_eq_true rfl⟩ (Nat.le_of_ble_eq_true rfl) (Nat.le_of_ble_eq_true rfl) dJ5_append_cf1ce_30) (fun q z => Or.inr (by have z : q = H0.size := z; omega)) (rfl : _ = 33) (fun H30_24 hq_30 o_30 => ?_)
  clear hfb hcap hn hne hv hb
  obtain ⟨⟨⟨ml9, hb⟩, hv, hne, hn, hcap, hfb⟩, sz9⟩ := hq_30
  have sz : Array.size H30_24 = H0.size + 1 := by rw [sz9, sz]
  refine V_aload_n Y.1 1 dJ5_append_cf1ce_33 (rfl : _ = 34) rfl rfl ?_
  refine V_dup Y.1 dJ5_append_cf1ce_34 (rfl : _ = 35) rfl ?_
  refine V_get Y.1 fi_J5_79 hb rfl dJ5_append_cf1ce_35 (rfl : _ = 38) ?_
  refine V_iload_n Y.1 0 dJ5_append_cf1ce_38 (rfl : _ = 39) rfl rfl ?_
  refine V_iadd Y.1 dJ5_append_cf1ce_39 (rfl : _ = 40) ?_
  refine V_nm (v := nI (n + L2.length)) (nI_add _ _) ?_
  refine V_put Y.1 fi_J5_79 fw_J4 rfl rfl hb (Or.inl rfl) rfl rfl (Nat.le_of_ble_eq_true rfl) dJ5_append_cf1ce_40 (rfl : _ = 43) (fun H40_34 h_new o_40 => ?_)
  have hb : hp D _ _ (.inr (1, [_, _, _, _])) := h_new
  have hv := hv.sto o_40 (by omega)
  have sz : Array.size H40_34 = H0.size + 1 := o_40.1.trans sz
  clear h_new
  refine V_aload_n Y.1 1 dJ5_append_cf1ce_43 (rfl : _ = 44) rfl rfl ?_
  exact V_retR Y.1 dJ5_append_cf1ce_44 (Or.inl ⟨_, rfl⟩) (Nat.le_of_ble_eq_true rfl) (Nat.le_of_ble_eq_true rfl) ⟨rfl, ⟨⟨_, hb⟩, hv, hne, hk2, hcap, hfb⟩, sz⟩

set_option maxRecDepth 100000 in
set_option maxHeartbeats 4000000 in
theorem c_J4_appSm_h (l : Launch) (D : va_G) (kA : Nat → ClassId) (Hs : Heap) (σ : SG) (H0 : Heap) (hg : Ag Hs H0) (b v cap n : Nat) (g : Nat → Int32) (lo r : Nat) (L2 : List Int32) (hk : cap < n + L2.length) (hk2 : n + L2.length ≤ cap + (cap + 2)) (hc2 : cap + (cap + 2) ≤ 120) (hS : Sb D kA H0 b v cap n g) (hbs : Hs.size ≤ b) (hR : TS D kA H0 lo r L2) (hlb : b < lo) : CtS l D kA Hs σ yJ4_append_15ec4 cJ4_append_15ec4 2 (some (.object "java/lang/StringBuilder")) 5 116 1 200 H0 [.ref b, .ref r] (fun q => q = b) (pR fun r8 H => r8 = b ∧ Sb D kA H b H0.size (cap + (cap + 2)) (n + L2.length) (va_cpy (fun j => L2.getD j 0) (va_cpy g (fun _ => 0) 0 0 cap) 0 n L2.length) ∧ H.size = H0.size + 1) := by
  refine CtS.of mi_J4_append_15ec4 (Nat.le_of_ble_eq_true rfl) (ls0 := [(0, _), (1, _)]) rfl hg (fun q z => z ▸ hbs) ?_
  intro Pp Ee Ss Mm Ar Bl Me Cc Z hsH hnm
  have Y := Z.1
  obtain ⟨⟨ml, hb⟩, hv, hne, hn, hcap, hfb⟩ := id hS
  obtain ⟨v2, w1, w2, hl1, hl2, hr, hv2, hne2, hlen2, hch2⟩ := id hR
  have sz : H0.size = H0.size := rfl
  refine V_aload_n Y.1 0 dJ4_append_15ec4_0 (rfl : _ = 1) rfl rfl ?_
  refine V_aload_n Y.1 1 dJ4_append_15ec4_1 (rfl : _ = 2) rfl rfl ?_
  refine V_cR Y (sSU Z (c_J5_appSm_h l D kA Hs σ _ hg b v cap n g lo r L2 hk hk2 hc2 hS hbs hR hlb) mi_J5_append_cf1ce su_J4_29 rfl hb rfl rfl (Nat.le_of_ble_eq_true rfl) ⟨Nat.le_of_ble_eq_true rfl, Nat.le_of_ble_eq_true rfl⟩ (Nat.le_of_ble_eq_true rfl) (Nat.le_of_ble_eq_true rfl) dJ4_append_15ec4_2) (fun q z => Or.inl z) (rfl : _ = 5) (fun v_2 H2_2 hq_2 o_2 => ?_)
  obtain ⟨-, hS9, sz9⟩ := hq_2
  refine V_pop Y.1 dJ4_append_15ec4_5 (rfl : _ = 6) rfl ?_
  refine V_aload_n Y.1 0 dJ4_append_15ec4_6 (rfl : _ = 7) rfl rfl ?_
  exact V_retR Y.1 dJ4_append_15ec4_7 (Or.inl ⟨_, rfl⟩) (Nat.le_of_ble_eq_true rfl) (Nat.le_of_ble_eq_true rfl) ⟨rfl, hS9, sz9⟩

set_option maxRecDepth 100000 in
set_option maxHeartbeats 4000000 in
theorem c_J5_getValue_6d5f1 (l : Launch) (D : va_G) (kA : Nat → ClassId) (Hs : Heap) (σ : SG) (H0 : Heap) (hg : Ag Hs H0) (b v cap n : Nat) (g : Nat → Int32) (hS : Sb D kA H0 b v cap n g) : CtS l D kA Hs σ yJ5_getValue_6d5f1 cJ5_getValue_6d5f1 1 (some (.array .byte)) 0 0 0 0 H0 [.ref b] (nof) (pR fun r H => r = v ∧ H = H0) := by
  refine CtS.of mi_J5_getValue_6d5f1 (Nat.le_of_ble_eq_true rfl) (ls0 := [(0, _)]) rfl hg (fun _ z => z.elim) ?_
  intro Pp Ee Ss Mm Ar Bl Me Cc Z hsH hnm
  have Y := Z.1
  obtain ⟨⟨ml, hb⟩, hv, hne, hn, hcap, hfb⟩ := id hS
  have sz : H0.size = H0.size := rfl
  refine V_aload_n Y.1 0 dJ5_getValue_6d5f1_0 (rfl : _ = 1) rfl rfl ?_
  refine V_get Y.1 fi_J5_15 hb rfl dJ5_getValue_6d5f1_1 (rfl : _ = 4) ?_
  exact V_retR Y.1 dJ5_getValue_6d5f1_4 (Or.inr ⟨_, rfl⟩) (Nat.le_of_ble_eq_true rfl) (Nat.le_of_ble_eq_true rfl) ⟨rfl, rfl⟩

set_option maxRecDepth 100000 in
set_option maxHeartbeats 4000000 in
theorem c_J7_checkLength_df160 (l : Launch) (D : va_G) (kA : Nat → ClassId) (H0 : Heap) (n : Nat) (hn : n < 2 ^ 31)  : Ct l D kA yJ7_checkLength_df160 cJ7_checkLength_df160 2 none 0 0 0 0 H0 [.int (nI 0), .int (nI n)] (nof) (pV fun H => H = H0) := by
  refine Ct.of mi_J7_checkLength_df160 (Nat.le_of_ble_eq_true rfl) (ls0 := [(0, _), (1, _)]) rfl ?_
  intro Pp Ee Ss Mm Ar Bl Me Cc Y hsH hnm
  have sz : H0.size = H0.size := rfl
  refine V_iload_n Y.1 1 dJ7_checkLength_df160_0 (rfl : _ = 1) rfl rfl ?_
  refine V_iload_n Y.1 0 dJ7_checkLength_df160_1 (rfl : _ = 2) rfl rfl ?_
  refine V_icmp_ge Y.1 (tgt := 37) dJ7_checkLength_df160_2 (by decide) (rfl : _ = 5) (fun _ => ?_) (fun c_n => absurd ((nI_leI (a := 0) (b := n) (by decide) hn).mpr (Nat.zero_le _)) c_n)
  exact V_retV Y.1 dJ7_checkLength_df160_37 (Nat.le_of_ble_eq_true rfl) (Nat.le_of_ble_eq_true rfl) rfl

set_option maxRecDepth 100000 in
set_option maxHeartbeats 4000000 in
theorem c_J7_copyOfRangeByte_39247 (l : Launch) (D : va_G) (kA : Nat → ClassId) (H0 : Heap) (v cap n : Nat) (g : Nat → Int32) (hv : hp D H0 v (eB kA cap g)) (hfb : ∀ j, fits .byte (.int (g j)) = true) (hn : n < cap) (hc : cap ≤ 120)  : Ct l D kA yJ7_copyOfRangeByte_39247 cJ7_copyOfRangeByte_39247 5 (some (.array .byte)) 1 48 1 120 H0 [.ref v, .int (nI 0), .int (nI n)] (nof) (pR fun r H => r = H0.size ∧ hp D H r (eB kA n (va_cpy g (fun _ => 0) 0 0 n)) ∧ H.size = H0.size + 1) := by
  refine Ct.of mi_J7_copyOfRangeByte_39247 (Nat.le_of_ble_eq_true rfl) (ls0 := [(0, _), (1, _), (2, _)]) rfl ?_
  intro Pp Ee Ss Mm Ar Bl Me Cc Y hsH hnm
  have hlt := hv.lt
  have sz : H0.size = H0.size := rfl
  refine V_iload_n Y.1 1 dJ7_copyOfRangeByte_39247_0 (rfl : _ = 1) rfl rfl ?_
  refine V_iload_n Y.1 2 dJ7_copyOfRangeByte_39247_1 (rfl : _ = 2) rfl rfl ?_
  refine V_cV Y (rS Y (c_J7_checkLength_df160 l D kA _ n (by omega)) mi_J7_checkLength_df160 si_J7_343 rfl rfl (Nat.le_of_ble_eq_true rfl) ⟨Nat.le_of_ble_eq_true rfl, Nat.le_of_ble_eq_true rfl⟩ (Nat.le_of_ble_eq_true rfl) (Nat.le_of_ble_eq_true rfl) dJ7_copyOfRangeByte_39247_2) (fun _ z => z.elim) (rfl : _ = 5) (fun H2_2 hq_2 o_2 => ?_)
  have hq9 := hq_2.symm
  subst hq9
  refine V_iload_n Y.1 2 dJ7_copyOfRangeByte_39247_5 (rfl : _ = 6) rfl rfl ?_
  refine V_iload_n Y.1 1 dJ7_copyOfRangeByte_39247_6 (rfl : _ = 7) rfl rfl ?_
  refine V_isub Y.1 dJ7_copyOfRangeByte_39247_7 (rfl : _ = 8) ?_
  refine V_nm (v := nI n) (by rw [pk_sub (by omega)]; congr 1) ?_
  refine V_istore_n Y.1 (ls' := [(3, _), (0, _), (1, _), (2, _)]) dJ7_copyOfRangeByte_39247_8 (rfl : _ = 9) rfl (by decide) rfl ?_
  refine V_iload_n Y.1 0 dJ7_copyOfRangeByte_39247_9 (rfl : _ = 10) rfl rfl ?_
  refine V_newB Y.1 (N := n) ac_byte (nI_pos (by omega)) (nI_clamp (by omega)) (by omega) (Nat.le_of_ble_eq_true rfl) (show 0 + n ≤ 120 by omega) dJ7_copyOfRangeByte_39247_10 (rfl : _ = 12) (fun H10_11 q_10 eq_10 z_10 h_new o_10 => ?_)
  have e_q10 : q_10 = H0.size := eq_10.trans sz
  have sz : Array.size H10_11 = H0.size + 1 := by rw [z_10, e_q10]
  have hv := hv.off o_10 id
  have hw := h_new
  refine V_widen (k' := 1) (n' := 120) (by omega) (by omega) ?_
  refine V_astore Y.1 (ls' := [(4, _), (3, _), (0, _), (1, _), (2, _)]) dJ7_copyOfRangeByte_39247_12 (rfl : _ = 14) (by decide) rfl ?_
  refine V_aload_n Y.1 2 dJ7_copyOfRangeByte_39247_14 (rfl : _ = 15) rfl rfl ?_
  refine V_iload_n Y.1 3 dJ7_copyOfRangeByte_39247_15 (rfl : _ = 16) rfl rfl ?_
  refine V_aload Y.1 0 dJ7_copyOfRangeByte_39247_16 (rfl : _ = 18) rfl ?_
  refine V_iconst Y.1 (v := 0) dJ7_copyOfRangeByte_39247_18 (rfl : _ = 19) (by decide) ?_
  refine V_aload_n Y.1 2 dJ7_copyOfRangeByte_39247_19 (rfl : _ = 20) rfl rfl ?_
  refine V_alen Y.1 (v := nI cap) (t0 := 4) hv rfl rfl dJ7_copyOfRangeByte_39247_20 (rfl : _ = 21) ?_
  refine V_iload_n Y.1 3 dJ7_copyOfRangeByte_39247_21 (rfl : _ = 22) rfl rfl ?_
  refine V_isub Y.1 dJ7_copyOfRangeByte_39247_22 (rfl : _ = 23) ?_
  refine V_nm (v := nI cap) (by rw [pk_sub (by omega)]; congr 1) ?_
  refine V_iload_n Y.1 1 dJ7_copyOfRangeByte_39247_23 (rfl : _ = 24) rfl rfl ?_
  refine V_mmin Y.1 mw_J7_304 (Nat.le_of_ble_eq_true rfl) (Nat.le_of_ble_eq_true rfl) (Nat.le_of_ble_eq_true rfl) (Nat.le_of_ble_eq_true rfl) dJ7_copyOfRangeByte_39247_24 (rfl : _ = 27) ?_
  refine V_nm (v := nI n) (by rw [mn_nI (by omega) (by omega), Nat.min_eq_right (by omega)]) ?_
  refine V_copy Y.1 aw_J7_150 (sp := 0) (dp := 0) (N := n) hv hw rfl rfl (Or.inr (by omega)) rfl rfl rfl (by omega) (by omega) (by omega) (by omega) (fun i _ => hfb _) (Nat.le_of_ble_eq_true rfl) (Nat.le_of_ble_eq_true rfl) dJ7_copyOfRangeByte_39247_27 (rfl : _ = 30) (fun H27_30 h_new o_27 => ?_)
  have hw := h_new
  have hv := hv.sto o_27 (by omega)
  have sz : Array.size H27_30 = H0.size + 1 := o_27.1.trans sz
  clear h_new
  refine V_aload Y.1 0 dJ7_copyOfRangeByte_39247_30 (rfl : _ = 32) rfl ?_
  exact V_retR Y.1 dJ7_copyOfRangeByte_39247_32 (Or.inr ⟨_, rfl⟩) (Nat.le_of_ble_eq_true rfl) (Nat.le_of_ble_eq_true rfl) ⟨e_q10, hw, sz⟩

set_option maxRecDepth 100000 in
set_option maxHeartbeats 4000000 in
theorem c_J7_copyOfRange_39247 (l : Launch) (D : va_G) (kA : Nat → ClassId) (H0 : Heap) (v cap n : Nat) (g : Nat → Int32) (hv : hp D H0 v (eB kA cap g)) (hfb : ∀ j, fits .byte (.int (g j)) = true) (hn : n < cap) (hc : cap ≤ 120)  : Ct l D kA yJ7_copyOfRange_39247 cJ7_copyOfRange_39247 3 (some (.array .byte)) 2 72 1 120 H0 [.ref v, .int (nI 0), .int (nI n)] (nof) (pR fun r H => r = H0.size ∧ hp D H r (eB kA n (va_cpy g (fun _ => 0) 0 0 n)) ∧ H.size = H0.size + 1) := by
  refine Ct.of mi_J7_copyOfRange_39247 (Nat.le_of_ble_eq_true rfl) (ls0 := [(0, _), (1, _), (2, _)]) rfl ?_
  intro Pp Ee Ss Mm Ar Bl Me Cc Y hsH hnm
  have hlt := hv.lt
  have sz : H0.size = H0.size := rfl
  refine V_iload_n Y.1 1 dJ7_copyOfRange_39247_0 (rfl : _ = 1) rfl rfl ?_
  refine V_if_ne Y.1 (tgt := 10) dJ7_copyOfRange_39247_1 (by decide) (rfl : _ = 4) (fun c_n => absurd rfl c_n) (fun _ => ?_)
  refine V_iload_n Y.1 2 dJ7_copyOfRange_39247_4 (rfl : _ = 5) rfl rfl ?_
  refine V_aload_n Y.1 0 dJ7_copyOfRange_39247_5 (rfl : _ = 6) rfl rfl ?_
  refine V_alen Y.1 (v := nI cap) (t0 := 4) hv rfl rfl dJ7_copyOfRange_39247_6 (rfl : _ = 7) ?_
  refine V_icmp_eq Y.1 (tgt := 17) dJ7_copyOfRange_39247_7 (by decide) (rfl : _ = 10) (fun c_n => absurd c_n (nI_ne (by omega) (by omega) (by omega))) (fun _ => ?_)
  refine V_aload_n Y.1 0 dJ7_copyOfRange_39247_10 (rfl : _ = 11) rfl rfl ?_
  refine V_iload_n Y.1 1 dJ7_copyOfRange_39247_11 (rfl : _ = 12) rfl rfl ?_
  refine V_iload_n Y.1 2 dJ7_copyOfRange_39247_12 (rfl : _ = 13) rfl rfl ?_
  refine V_cR Y (rS Y (c_J7_copyOfRangeByte_39247 l D kA _ v cap n g hv hfb hn hc) mi_J7_copyOfRangeByte_39247 si_J7_339 rfl rfl (Nat.le_of_ble_eq_true rfl) ⟨Nat.le_of_ble_eq_true rfl, Nat.le_of_ble_eq_true rfl⟩ (Nat.le_of_ble_eq_true rfl) (Nat.le_of_ble_eq_true rfl) dJ7_copyOfRange_39247_13) (fun _ z => z.elim) (rfl : _ = 16) (fun v_13 H13_9 hq_13 o_13 => ?_)
  obtain ⟨e13, hw, sz13⟩ := hq_13
  exact V_retR Y.1 dJ7_copyOfRange_39247_16 (Or.inr ⟨_, rfl⟩) (Nat.le_of_ble_eq_true rfl) (Nat.le_of_ble_eq_true rfl) ⟨e13, hw, sz13⟩

set_option maxRecDepth 100000 in
set_option maxHeartbeats 4000000 in
theorem c_J0_initV (l : Launch) (D : va_G) (kA : Nat → ClassId) (Hs : Heap) (σ : SG) (H0 : Heap) (hg : Ag Hs H0) (b v cap n : Nat) (g : Nat → Int32) (r : Nat) (fs : List Value) (h0 : hp D H0 r (eO 0 fs)) (hf : fs = [.null, .int 0, .int 0, .int 0]) (hrb : r ≠ b) (hrv : r ≠ v) (hn2 : n < cap) (hS : Sb D kA H0 b v cap n g) (hrs : Hs.size ≤ r) : CtS l D kA Hs σ yJ0_init_db425 cJ0_init_db425 5 none 3 94 1 120 H0 [.ref r, .ref b, .null] (blk r 1) (pV fun H => (∃ w1 w2 : Int32, hp D H r (eO 0 [.ref H0.size, .int 0, .int w1, .int w2])) ∧ hp D H H0.size (eB kA n (va_cpy g (fun _ => 0) 0 0 n)) ∧ H.size = H0.size + 1) := by
  refine CtS.of mi_J0_init_db425 (Nat.le_of_ble_eq_true rfl) (ls0 := [(0, _), (1, _), (2, _)]) rfl hg (fun q z => Nat.le_trans hrs z.1) ?_
  intro Pp Ee Ss Mm Ar Bl Me Cc Z hsH hnm
  have Y := Z.1
  obtain ⟨⟨ml, hb⟩, hv, hne, hn, hcap, hfb⟩ := id hS
  subst hf
  have hr := h0
  have hlt := hr.lt
  have hbl := hb.lt
  have hvl := hv.lt
  have sz : H0.size = H0.size := rfl
  refine V_aload_n Y.1 0 dJ0_init_db425_0 (rfl : _ = 1) rfl rfl ?_
  refine V_objInit Y.1 ow_J0_1 dJ0_init_db425_1 (rfl : _ = 4) (Nat.le_of_ble_eq_true rfl) (Nat.le_of_ble_eq_true rfl) (Nat.le_of_ble_eq_true rfl) (Nat.le_of_ble_eq_true rfl) ?_
  refine V_aload_n Y.1 1 dJ0_init_db425_4 (rfl : _ = 5) rfl rfl ?_
  refine V_cR Y (sV Z (c_J5_getValue_6d5f1 l D kA Hs σ _ hg b v cap n g hS) mi_J5_getValue_6d5f1 vi_J0_552 rfl hb rfl rfl (Nat.le_of_ble_eq_true rfl) ⟨Nat.le_of_ble_eq_true rfl, Nat.le_of_ble_eq_true rfl⟩ (Nat.le_of_ble_eq_true rfl) (Nat.le_of_ble_eq_true rfl) dJ0_init_db425_5) (fun _ z => z.elim) (rfl : _ = 8) (fun v_5 H5_3 hq_5 o_5 => ?_)
  obtain ⟨e5, hq9⟩ := hq_5
  have hq9 := hq9.symm
  subst hq9
  subst e5
  refine V_astore_n Y.1 (ls' := [(3, _), (0, _), (1, _), (2, _)]) dJ0_init_db425_8 (rfl : _ = 9) rfl (by decide) rfl ?_
  refine V_aload_n Y.1 2 dJ0_init_db425_9 (rfl : _ = 10) rfl rfl ?_
  refine V_cP Y (sVO Z (c_J4_length_8abf5 l D kA Hs σ _ hg b _ cap n g hS) mi_J4_length_8abf5 vo_J0_549 rfl hb rfl rfl (Nat.le_of_ble_eq_true rfl) ⟨Nat.le_of_ble_eq_true rfl, Nat.le_of_ble_eq_true rfl⟩ (Nat.le_of_ble_eq_true rfl) (Nat.le_of_ble_eq_true rfl) dJ0_init_db425_10) (rfl : _ = 13) ?_
  refine V_istore Y.1 (ls' := [(4, _), (3, _), (0, _), (1, _), (2, _)]) dJ0_init_db425_13 (rfl : _ = 15) (by decide) rfl ?_
  refine V_aload_n Y.1 3 dJ0_init_db425_15 (rfl : _ = 16) rfl rfl ?_
  refine V_cP Y (sV Z (c_J5_isLatin1_aae02 l D kA Hs σ _ hg b _ cap n g hS) mi_J5_isLatin1_aae02 vi_J0_1047 rfl hb rfl rfl (Nat.le_of_ble_eq_true rfl) ⟨Nat.le_of_ble_eq_true rfl, Nat.le_of_ble_eq_true rfl⟩ (Nat.le_of_ble_eq_true rfl) (Nat.le_of_ble_eq_true rfl) dJ0_init_db425_16) (rfl : _ = 19) ?_
  refine V_if_eq Y.1 (tgt := 41) dJ0_init_db425_19 (by decide) (rfl : _ = 22) (fun c_n => absurd c_n (by decide)) (fun _ => ?_)
  refine V_aload_n Y.1 2 dJ0_init_db425_22 (rfl : _ = 23) rfl rfl ?_
  refine V_iconst Y.1 (v := 0) dJ0_init_db425_23 (rfl : _ = 24) (by decide) ?_
  refine V_putF Y.1 fi_J0_15 fw_J0 rfl (by rw [hnm]; rfl) rfl rfl hr (Or.inl ⟨by omega, by omega⟩) rfl rfl (Nat.le_of_ble_eq_true rfl) dJ0_init_db425_24 (rfl : _ = 27) (fun H24_17 h_new o_24 => ?_)
  have hr : hp D _ _ (.inr (0, [_, _, _, _])) := h_new
  have hb := hb.sto o_24 (by omega)
  have hv := hv.sto o_24 (by omega)
  have sz : Array.size H24_17 = H0.size := o_24.1.trans sz
  clear h_new
  have sz_24 := sz
  refine V_aload_n Y.1 2 dJ0_init_db425_27 (rfl : _ = 28) rfl rfl ?_
  refine V_aload_n Y.1 1 dJ0_init_db425_28 (rfl : _ = 29) rfl rfl ?_
  refine V_iconst Y.1 (v := 0) dJ0_init_db425_29 (rfl : _ = 30) (by decide) ?_
  refine V_iload Y.1 0 dJ0_init_db425_30 (rfl : _ = 32) rfl ?_
  refine V_cR Y (rS Y (c_J7_copyOfRange_39247 l D kA _ _ cap n g hv hfb hn2 hcap) mi_J7_copyOfRange_39247 si_J0_54 rfl rfl (Nat.le_of_ble_eq_true rfl) ⟨Nat.le_of_ble_eq_true rfl, Nat.le_of_ble_eq_true rfl⟩ (Nat.le_of_ble_eq_true rfl) (Nat.le_of_ble_eq_true rfl) dJ0_init_db425_32) (fun _ z => z.elim) (rfl : _ = 35) (fun v_32 H32_28 hq_32 o_32 => ?_)
  obtain ⟨e32, hw, sz32⟩ := hq_32
  have hr := hr.off o_32 id
  have sz : Array.size H32_28 = H0.size + 1 := by rw [sz32, sz]
  refine V_putF Y.1 fi_J0_9 fw_J0 rfl (by rw [hnm]; rfl) rfl rfl hr (Or.inl ⟨by omega, by omega⟩) rfl rfl (Nat.le_of_ble_eq_true rfl) dJ0_init_db425_35 (rfl : _ = 38) (fun H35_32 h_new o_35 => ?_)
  have hr : hp D _ _ (.inr (0, [_, _, _, _])) := h_new
  have sz : Array.size H35_32 = H0.size + 1 := o_35.1.trans sz
  clear h_new
  refine V_goto Y.1 (tgt := 97) dJ0_init_db425_38 (by decide) ?_
  exact V_retV Y.1 dJ0_init_db425_97 (Nat.le_of_ble_eq_true rfl) (Nat.le_of_ble_eq_true rfl) ⟨⟨_, _, by rw [e32] at hr; rw [sz_24] at hr; exact hr⟩, by rw [e32] at hw; rw [sz_24] at hw; exact hw.sto o_35 (by omega), sz⟩

set_option maxRecDepth 100000 in
set_option maxHeartbeats 4000000 in
theorem c_J0_initB (l : Launch) (D : va_G) (kA : Nat → ClassId) (Hs : Heap) (σ : SG) (H0 : Heap) (hg : Ag Hs H0) (b v cap n : Nat) (g : Nat → Int32) (r : Nat) (fs : List Value) (h0 : hp D H0 r (eO 0 fs)) (hf : fs = [.null, .int 0, .int 0, .int 0]) (hrb : r ≠ b) (hrv : r ≠ v) (hn2 : n < cap) (hS : Sb D kA H0 b v cap n g) (hrs : Hs.size ≤ r) : CtS l D kA Hs σ yJ0_init_81219 cJ0_init_81219 2 none 4 118 1 120 H0 [.ref r, .ref b] (blk r 1) (pV fun H => (∃ w1 w2 : Int32, hp D H r (eO 0 [.ref H0.size, .int 0, .int w1, .int w2])) ∧ hp D H H0.size (eB kA n (va_cpy g (fun _ => 0) 0 0 n)) ∧ H.size = H0.size + 1) := by
  refine CtS.of mi_J0_init_81219 (Nat.le_of_ble_eq_true rfl) (ls0 := [(0, _), (1, _)]) rfl hg (fun q z => Nat.le_trans hrs z.1) ?_
  intro Pp Ee Ss Mm Ar Bl Me Cc Z hsH hnm
  have Y := Z.1
  obtain ⟨⟨ml, hb⟩, hv, hne, hn, hcap, hfb⟩ := id hS
  have sz : H0.size = H0.size := rfl
  refine V_aload_n Y.1 0 dJ0_init_81219_0 (rfl : _ = 1) rfl rfl ?_
  refine V_aload_n Y.1 1 dJ0_init_81219_1 (rfl : _ = 2) rfl rfl ?_
  refine V_null Y.1 dJ0_init_81219_2 (rfl : _ = 3) ?_
  refine V_cV Y (sI Z (c_J0_initV l D kA Hs σ _ hg b v cap n g r fs h0 hf hrb hrv hn2 hS hrs) mi_J0_init_db425 ii_J0_489 rfl rfl (Nat.le_of_ble_eq_true rfl) ⟨Nat.le_of_ble_eq_true rfl, Nat.le_of_ble_eq_true rfl⟩ (Nat.le_of_ble_eq_true rfl) (Nat.le_of_ble_eq_true rfl) dJ0_init_81219_3) (fun q z => Or.inl z) (rfl : _ = 6) (fun H3_3 hq_3 o_3 => ?_)
  obtain ⟨a1, a2, a3⟩ := hq_3
  exact V_retV Y.1 dJ0_init_81219_6 (Nat.le_of_ble_eq_true rfl) (Nat.le_of_ble_eq_true rfl) ⟨a1, a2, a3⟩

set_option maxRecDepth 100000 in
set_option maxHeartbeats 4000000 in
theorem c_J4_toString_0e30d (l : Launch) (D : va_G) (kA : Nat → ClassId) (Hs : Heap) (σ : SG) (H0 : Heap) (hg : Ag Hs H0) (b v cap n : Nat) (g : Nat → Int32) (hn2 : n < cap) (hS : Sb D kA H0 b v cap n g) : CtS l D kA Hs σ yJ4_toString_0e30d cJ4_toString_0e30d 1 (some (.object "java/lang/String")) 5 139 2 124 H0 [.ref b] (nof) (pR fun r H => r = H0.size ∧ (∃ w1 w2 : Int32, hp D H r (eO 0 [.ref (H0.size + 1), .int 0, .int w1, .int w2])) ∧ hp D H (H0.size + 1) (eB kA n (va_cpy g (fun _ => 0) 0 0 n)) ∧ H.size = H0.size + 2) := by
  refine CtS.of mi_J4_toString_0e30d (Nat.le_of_ble_eq_true rfl) (ls0 := [(0, _)]) rfl hg (fun _ z => z.elim) ?_
  intro Pp Ee Ss Mm Ar Bl Me Cc Z hsH hnm
  have Y := Z.1
  obtain ⟨⟨ml, hb⟩, hv, hne, hn, hcap, hfb⟩ := id hS
  have hbl := hb.lt
  have hvl := hv.lt
  have hg0 := hg
  have sz : H0.size = H0.size := rfl
  refine V_new Y.1 (ci := 0) (fs := [.null, .int 0, .int 0, .int 0]) rfl in_J0 tyJ0_ok cl_J4_18 inst_J0 ini_J0 (by decide) (Nat.le_of_ble_eq_true rfl) (Nat.le_of_ble_eq_true rfl) dJ4_toString_0e30d_0 (rfl : _ = 3) (fun H0_0 q_0 eq_0 z_0 h_new o_0 => ?_)
  have e_q0 : q_0 = H0.size := eq_0.trans sz
  have sz : Array.size H0_0 = H0.size + 1 := by rw [z_0, e_q0]
  have hb := hb.off o_0 id
  have hr := h_new
  have hS := hS.off o_0 id id
  have hg := hg.keep o_0 (fun _ z => z.elim)
  refine V_dup Y.1 dJ4_toString_0e30d_3 (rfl : _ = 4) rfl ?_
  refine V_aload_n Y.1 0 dJ4_toString_0e30d_4 (rfl : _ = 5) rfl rfl ?_
  refine V_cV Y (sI Z (c_J0_initB l D kA Hs σ _ hg b v cap n g _ _ hr rfl (by omega) (by omega) hn2 hS (by have := hg0.1; omega)) mi_J0_init_81219 ii_J4_137 rfl rfl (Nat.le_of_ble_eq_true rfl) ⟨Nat.le_of_ble_eq_true rfl, Nat.le_of_ble_eq_true rfl⟩ (Nat.le_of_ble_eq_true rfl) (Nat.le_of_ble_eq_true rfl) dJ4_toString_0e30d_5) (fun q z => Or.inr (by have := z.1; omega)) (rfl : _ = 8) (fun H5_9 hq_5 o_5 => ?_)
  obtain ⟨⟨w1, w2, a1⟩, a2, a3⟩ := hq_5
  exact V_retR Y.1 dJ4_toString_0e30d_8 (Or.inl ⟨_, rfl⟩) (Nat.le_of_ble_eq_true rfl) (Nat.le_of_ble_eq_true rfl) ⟨e_q0, ⟨w1, w2, by rw [sz] at a1; exact a1⟩, by rw [sz] at a2; exact a2, by rw [a3, sz]⟩

