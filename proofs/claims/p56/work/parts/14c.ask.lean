/-! The law's own methods with handlers: questions. -/
theorem Met.ofWH {l : Launch} {y : MethodName} {ws ws' : List Cond} {rm : Room} {Pc : Array Value → State → Prop} {Qc : Array Value → State → Outcome → State → Prop} {mc ms : Nat} {free : Addr → Prop} {cc : ByteArray} {maxL : Nat} {ret : Option FieldType} {hh : List (Nat × Nat × Nat × Nat)}
    (hy : plainFor y = true) (hw : ws = Cond.codeWith y cc maxL ret hh :: ws')
    (body : ∀ p e s m args below meth c s₁, BodyLoose p l y (headSpec ws rm) cc maxL ret e s m args below meth c s₁ → c.maxLocals = maxL → Pc args s →
      W p l e (headSpec ws rm).room s m args below meth c s.heap [] 0 0 (MQ below Qc args s mc ms free) (entryFrame m args maxL)) : Met l y ws rm Pc Qc mc ms free := by
  refine MetFree.of_bodySF (code := cc) (maxLocals := maxL) (ret := ret) hy ?_ ?_
  · intro args s m h hn
    obtain ⟨m9, meth, c, hn9, h1, h2, h3, h4, -, h5, h6, -⟩ := Cond.codeWith_spec (atoms_spec (ws := ws) h _ (by rw [hw]; exact List.mem_cons_self))
    cases hn.symm.trans hn9
    exact ⟨meth, c, h1, h2, h3, h4, h5, h6⟩
  · intro p e s m args below meth c s₁ B hml hP _
    have hh0 : s₁.heap = s.heap := by rw [B.state]; rfl
    obtain ⟨t, a1, o, b1, b2, b3⟩ := body p e s m args below meth c s₁ B hml hP s₁ hh0 (Stand.of_body B)
    exact ⟨t, o, a1, b1, b2, ⟨b3.1, b3.2⟩⟩
def Mw (y : MethodName) (cc : ByteArray) (mL : Nat) (ret : Option FieldType) (hh : List (Nat × Nat × Nat × Nat)) (n : Nat) : Prop := Cond.codeWith y cc mL ret hh ∈ T0 ∧ Cond.initialized y.cls ∈ T0 ∧ plainFor y = true ∧ (y.cls ≠ "java/lang/invoke/MethodHandle" ∧ y.cls ≠ "java/lang/invoke/VarHandle") ∧ (parseMethodDescriptor y.desc).map (fun d => d.parameters.length) = some n
def CtW (l : Launch) (D : va_G) (kA : Nat → ClassId) (Hs : Heap) (σ : SG) (y : MethodName) (cc : ByteArray) (mL : Nat) (ret : Option FieldType) (hh : List (Nat × Nat × Nat × Nat)) (fr lc mc ms : Nat) (H0 : Heap) (av : List Value) (A : Nat → Prop) (Post : Option Value → Heap → Prop) : Prop :=
  Met l y (.codeWith y cc mL ret hh :: T0) (rmO fr lc mc ms) (qPreS D kA Hs σ H0 av) (qPost H0 A Post) mc ms (AA H0 A)
section VLW
variable {p : Program} {l : Launch} {e : Env} {R : Room} {s : State} {m : MethodId} {args : Array Value} {below : List Frame} {meth : Method} {c : Code} {nL : Nat} {A A1 : Nat → Prop} {Q : State → Prop} {H : Heap} {k n pc pc' : Nat} {ls : List (Nat × Value)} {st rest : List Value}
variable {cc : ByteArray} {own : String} {D : va_G} {kA : Nat → ClassId} {ret : Option FieldType} {Hs : Heap} {σ : SG}
variable {y : MethodName} {bytes : ByteArray} {mL : Nat} {rt : Option FieldType} {hh : List (Nat × Nat × Nat × Nat)} {fr lc mc ms nn idx : Nat} {av : List Value} {Post : Option Value → Heap → Prop}
theorem CtW.of {H0 : Heap} {ls0 : List (Nat × Value)} (hM : Mw y bytes mL rt hh nn) (hlen : (lg_sl av).length ≤ mL) (hls : lv_args 0 av = ls0)
    (hg : Ag Hs H0) (hA0 : ∀ q, A q → Hs.size ≤ q)
    (body : ∀ (p : Program) (e : Env) (s : State) (m : MethodId) (args : Array Value) (below : List Frame) (meth : Method) (c : Code), Ys p s m args meth c bytes mL rt y.cls D kA (AA H0 A) Hs σ → s.heap = H0 → c.exceptionTable.toList = tableOf hh → V p l e (rmO fr lc mc ms) s m args below meth c mL (AA H0 A) (QC below args s mc ms H0 A Post) H0 0 0 0 ls0 []) :
    CtW l D kA Hs σ y bytes mL rt hh fr lc mc ms H0 av A Post := by
  refine Met.ofWH (cc := bytes) (maxL := mL) (ret := rt) (hh := hh) hM.2.2.1 rfl ?_
  intro p e s m args below meth c s₁ B hml hP
  obtain ⟨rfl, hh9, hK⟩ := hP
  have hts : ∀ w ∈ T0, w.before av.toArray s = true := fun w hw => atoms_spec (ws := .codeWith y bytes mL rt hh :: T0) B.pre w (List.mem_cons_of_mem _ hw)
  have hT := vx_table (x := y) B (hts _ hM.1)
  have hown : s.vm.findClass y.cls = some m.cls := findClass_of_methodNamed B.named
  have h := body p e s m av.toArray below meth c ⟨⟨⟨⟨B.exec, B.bytes, hml, hown, hts⟩, hK.1.1, fun q hq => Or.inr (by rw [← hh9]; exact hq), B.notSynchronized, B.returns⟩, hK.1.2⟩, hK.2.1, hK.2.2, hK.2.2.go (Vm.Alike.refl _) (fun a ha _ => by rw [hh9]; exact hg.2 a ha) (fun q hq => hq.elim (hA0 q) (fun z => Nat.le_trans hg.1 z))⟩ hh9 hT
  rw [lg_entry_eq]
  have hl := lv_entry av hlen
  rw [hls] at hl
  have h9 := h _ [] hl (by rw [hh9]; exact va_S.rf)
  rw [hh9]
  exact h9
theorem sW (Z : Ys p s m args meth c cc nL ret own D kA A Hs σ) (hC : CtW l D kA Hs σ y bytes mL rt hh fr lc mc ms H av A1 Post) (hM : Mw y bytes mL rt hh nn) (hs : Si own idx y) (hst : st = av.reverse ++ rest) (hn : av.length = nn) (hcat : (rest.map fun v => v.category).sum ≤ 8) (hR : fr + 1 ≤ R.frames ∧ 8 + (mL + 11) + lc ≤ R.locals) (hk : k + mc ≤ R.cells) (hn2 : n + ms ≤ R.slots) (hd : decode cc pc = .ok (.invokestatic idx, 3)) :
    Rn p l e R s m args below meth c nL H k n pc ls st mc ms rest A1 Post := fun lsA locs hl => by
  refine ⟨_, vx_runSW (hh := hh) Z.1.1.1 hC ⟨⟨rfl, rfl, hR.1, hR.2, fun w hw a' U hW => ?_, List.mem_cons_self⟩, Z.1.1.1.2.2.2.2 _ hM.1, Z.1.1.1.2.2.2.2 _ hM.2.1, hM.2.2.2.1, fun sig h => ?_, Z.1.1.1.2.2.2.2 _ hs.1, Z.1.1.1.2.2.2.2 _ hs.2⟩ ⟨qPreS.blind, pre_s Z⟩ rfl hn hl.1 hst (lv_room hcat) hd ⟨hk, hn2⟩⟩
  · rcases List.mem_cons.mp hw with rfl | h
    · exact word_at hW (T0_good _ hM.1) (Z.1.1.1.2.2.2.2 _ hM.1)
    · exact word_at hW (T0_good _ h) (Z.1.1.1.2.2.2.2 _ h)
  · have h5 := hM.2.2.2.2
    rw [h] at h5
    exact (Option.some.inj h5).symm
theorem VX_catch (Z : Ys p s m args meth c cc nL ret own D kA A Hs σ) {E : String} {pre suf : List ExceptionTableEntry} {x : ExceptionTableEntry} (ht : c.exceptionTable.toList = pre ++ x :: suf)
    (hp : ∀ z ∈ pre, covers z pc = false ∨ (z.catchType ≠ 0 ∧ ∃ nm : String, Cond.classLink own z.catchType nm ∈ T0 ∧ nm ∈ wE ∧ E ≠ nm)) (hE : E ∈ wE) (hx : covers x pc = true) (h0 : x.catchType ≠ 0) (hl : Cond.classLink own x.catchType E ∈ T0) (hc : Cond.castable E E ∈ wX) (hpc : x.handlerPc = pc')
    (kk : ∀ q : Nat, V p l e R s m args below meth c nL A Q H k n pc' ls [.ref q]) : VX p l e R s m args below meth c nL A Q H k n pc ls E := by
  intro lsA locs q ce rest hl9 hS hce hcv hcl
  subst hpc
  refine vx_catch Z.1.1.1.2.2.2.1 pre x suf ht (fun z hz => ?_) hx h0 (Z.1.1.1.2.2.2.2 _ hl) (Ex.use Z.2.2.2.2.2.2.2.2.2.2 hc) hce hcv hcl (kk q lsA locs hl9 hS)
  rcases hp z hz with h | ⟨a1, nm, a2, a3, a4⟩
  · exact Or.inl h
  · exact Or.inr ⟨a1, nm, Z.1.1.1.2.2.2.2 _ a2, Z.2.2.2.2.2.2.2.2.2.2.2 E hE nm a3 a4⟩
end VLW
theorem CtW.mono {l : Launch} {D : va_G} {kA : Nat → ClassId} {Hs : Heap} {σ : SG} {y : MethodName} {cc : ByteArray} {mL : Nat} {ret : Option FieldType} {hh : List (Nat × Nat × Nat × Nat)} {fr lc mc ms : Nat} {H0 : Heap} {av : List Value} {A : Nat → Prop} {Post Post' : Option Value → Heap → Prop} (h : CtW l D kA Hs σ y cc mL ret hh fr lc mc ms H0 av A Post) (hp : ∀ v H, off A H0 H → Post v H → Post' v H) : CtW l D kA Hs σ y cc mL ret hh fr lc mc ms H0 av A Post' := by
  unfold CtW Met at h ⊢
  refine MetFree.mono h (fun _ _ z => z) (fun _ _ _ _ _ z => z) (fun a s o s' hP hQ => ?_)
  obtain ⟨⟨⟨v, hv, hq⟩, hf⟩, hL⟩ := hQ
  exact ⟨⟨⟨v, hv, hp v _ (off_F hf hP.2.1) hq⟩, hf⟩, hL⟩
theorem mh_L_zone : Mw yL_zone cL_zone 3 (some .int) [(0, 5, 6, 20)] 2 := ⟨(tm 800 (by decide +kernel) (by decide +kernel)), (tm 8 (by decide +kernel) (by decide +kernel)), by decide +kernel, by decide +kernel, by decide +kernel⟩
theorem mh_L_zones : Mw yL_zones cL_zones 4 (some .int) [(0, 6, 7, 20)] 3 := ⟨(tm 731 (by decide +kernel) (by decide +kernel)), (tm 8 (by decide +kernel) (by decide +kernel)), by decide +kernel, by decide +kernel, by decide +kernel⟩
theorem mh_L_byComparing : Mw yL_byComparing cL_byComparing 4 (some .int) [(0, 6, 7, 20)] 3 := ⟨(tm 739 (by decide +kernel) (by decide +kernel)), (tm 8 (by decide +kernel) (by decide +kernel)), by decide +kernel, by decide +kernel, by decide +kernel⟩
theorem mh_L_fare : Mw yL_fare cL_fare 4 (some .int) [(0, 6, 7, 20)] 3 := ⟨(tm 750 (by decide +kernel) (by decide +kernel)), (tm 8 (by decide +kernel) (by decide +kernel)), by decide +kernel, by decide +kernel, by decide +kernel⟩
theorem mh_L_taps : Mw yL_taps cL_taps 3 (some .int) [(0, 5, 6, 20)] 2 := ⟨(tm 779 (by decide +kernel) (by decide +kernel)), (tm 8 (by decide +kernel) (by decide +kernel)), by decide +kernel, by decide +kernel, by decide +kernel⟩
theorem mh_L_isReduced : Mw yL_isReduced cL_isReduced 3 (some .int) [(0, 13, 14, 20)] 2 := ⟨(tm 963 (by decide +kernel) (by decide +kernel)), (tm 8 (by decide +kernel) (by decide +kernel)), by decide +kernel, by decide +kernel, by decide +kernel⟩
theorem mh_L_balance : Mw yL_balance cL_balance 3 (some .int) [(0, 5, 6, 20)] 2 := ⟨(tm 837 (by decide +kernel) (by decide +kernel)), (tm 8 (by decide +kernel) (by decide +kernel)), by decide +kernel, by decide +kernel, by decide +kernel⟩
theorem mh_L_isOnTrip : Mw yL_isOnTrip cL_isOnTrip 3 (some .int) [(0, 13, 14, 20)] 2 := ⟨(tm 830 (by decide +kernel) (by decide +kernel)), (tm 8 (by decide +kernel) (by decide +kernel)), by decide +kernel, by decide +kernel, by decide +kernel⟩
theorem mh_L_tripStart : Mw yL_tripStart cL_tripStart 3 (some .int) [(0, 5, 6, 20), (0, 5, 10, 36)] 2 := ⟨(tm 870 (by decide +kernel) (by decide +kernel)), (tm 8 (by decide +kernel) (by decide +kernel)), by decide +kernel, by decide +kernel, by decide +kernel⟩
theorem mh_L_journeyStart : Mw yL_journeyStart cL_journeyStart 3 (some .int) [(0, 5, 6, 20), (0, 5, 10, 36)] 2 := ⟨(tm 882 (by decide +kernel) (by decide +kernel)), (tm 8 (by decide +kernel) (by decide +kernel)), by decide +kernel, by decide +kernel, by decide +kernel⟩
theorem mh_L_minutesLeft : Mw yL_minutesLeft cL_minutesLeft 3 (some .int) [(0, 5, 6, 20), (0, 5, 10, 36)] 2 := ⟨(tm 889 (by decide +kernel) (by decide +kernel)), (tm 8 (by decide +kernel) (by decide +kernel)), by decide +kernel, by decide +kernel, by decide +kernel⟩
theorem mh_L_continues : Mw yL_continues cL_continues 4 (some .int) [(0, 14, 15, 20)] 3 := ⟨(tm 908 (by decide +kernel) (by decide +kernel)), (tm 8 (by decide +kernel) (by decide +kernel)), by decide +kernel, by decide +kernel, by decide +kernel⟩
theorem mh_L_chargeIf : Mw yL_chargeIf cL_chargeIf 4 (some .int) [(0, 6, 7, 20), (0, 6, 11, 36)] 3 := ⟨(tm 897 (by decide +kernel) (by decide +kernel)), (tm 8 (by decide +kernel) (by decide +kernel)), by decide +kernel, by decide +kernel, by decide +kernel⟩
theorem mh_L_chargedOn : Mw yL_chargedOn cL_chargedOn 4 (some .int) [(0, 6, 7, 20), (0, 6, 11, 22)] 3 := ⟨(tm 811 (by decide +kernel) (by decide +kernel)), (tm 8 (by decide +kernel) (by decide +kernel)), by decide +kernel, by decide +kernel, by decide +kernel⟩
theorem mh_L_byRecords : Mw yL_byRecords cL_byRecords 4 (some .int) [(0, 6, 7, 20), (0, 6, 11, 22)] 3 := ⟨(tm 859 (by decide +kernel) (by decide +kernel)), (tm 8 (by decide +kernel) (by decide +kernel)), by decide +kernel, by decide +kernel, by decide +kernel⟩
theorem mh_L_left : Mw yL_left cL_left 3 (some .int) [(0, 5, 6, 20)] 2 := ⟨(tm 844 (by decide +kernel) (by decide +kernel)), (tm 8 (by decide +kernel) (by decide +kernel)), by decide +kernel, by decide +kernel, by decide +kernel⟩
theorem mh_L_isRepairable : Mw yL_isRepairable cL_isRepairable 3 (some .int) [(0, 13, 14, 20)] 2 := ⟨(tm 966 (by decide +kernel) (by decide +kernel)), (tm 8 (by decide +kernel) (by decide +kernel)), by decide +kernel, by decide +kernel, by decide +kernel⟩
theorem mh_L_byTaps : Mw yL_byTaps cL_byTaps 3 (some .int) [(0, 5, 6, 36)] 2 := ⟨(tm 766 (by decide +kernel) (by decide +kernel)), (tm 8 (by decide +kernel) (by decide +kernel)), by decide +kernel, by decide +kernel, by decide +kernel⟩
theorem mh_L_bySpending : Mw yL_bySpending cL_bySpending 3 (some .int) [(0, 5, 6, 36)] 2 := ⟨(tm 916 (by decide +kernel) (by decide +kernel)), (tm 8 (by decide +kernel) (by decide +kernel)), by decide +kernel, by decide +kernel, by decide +kernel⟩
theorem mh_L_outputAt : Mw yL_outputAt cL_outputAt 3 (some .int) [(0, 5, 6, 20)] 2 := ⟨(tm 1272 (by decide +kernel) (by decide +kernel)), (tm 8 (by decide +kernel) (by decide +kernel)), by decide +kernel, by decide +kernel, by decide +kernel⟩
set_option maxRecDepth 100000 in
set_option maxHeartbeats 4000000 in
theorem c_L_zone (l : Launch) (D : va_G) (kA : Nat → ClassId) (Hs : Heap) (σ : SG) (H0 : Heap) (hg : Ag Hs H0) (a : Nat) (M : MS) (s : Nat → Int32) (n t q u : Nat) (p : Nat → Nat → Int32) (no : Nat) (go : Nat → Int32) (ns : Nat) (X : Nat → Prop) (x : Int32) (hJ : Lw D kA Hs H0 a M s n t q u p no go ns X) (hnt : l.stackTraces = false) : CtW l D kA Hs σ yL_zone cL_zone 3 (some .int) [(0, 5, 6, 20)] 10 161 4 24 H0 [.ref a, .int x] (nof) (pI fun k9 H9 => k9 = (if b_st x = 0 then -11 else M.2.1 x.toNatClampNeg) ∧ (¬ b_st x = 0 → H9 = H0)) := by
  refine CtW.of mh_L_zone (Nat.le_of_ble_eq_true rfl) (ls0 := [(0, _), (1, _)]) rfl hg (fun _ z => z.elim) ?_
  intro Pp Ee Ss Mm Ar Bl Me Cc Z hsH htab
  have Y := Z.1
  obtain ⟨W, π, ES, ep, fc, vs, cs, gs, tt, hF, rfl, hS, hH, -, hba, hou, hsc, hX⟩ := id hJ
  refine V_aload_n Y.1 0 dL_zone_0 (rfl : _ = 1) rfl rfl ?_
  refine V_iload_n Y.1 1 dL_zone_1 (rfl : _ = 2) rfl rfl ?_
  refine V_xI Y (sxV Z (c_X5_zone l D kA Hs σ _ hg a W π ES u 0 ep fc no go vs cs ns gs x hF hnt) mi_X5_zone vi_L_48 rfl hF.1.1 rfl rfl (Nat.le_of_ble_eq_true rfl) ⟨Nat.le_of_ble_eq_true rfl, Nat.le_of_ble_eq_true rfl⟩ (Nat.le_of_ble_eq_true rfl) (Nat.le_of_ble_eq_true rfl) dL_zone_2) (fun _ z => z.elim) (rfl : _ = 5) (fun E_2 H2_2 hx_2 o_2 => ?_) (fun v_2 H2_2 hq_2 o_2 => ?_)
  · obtain ⟨rfl, hc⟩ := hx_2
    refine VX_catch Z (pre := []) (x := ⟨0, 5, 6, 20⟩) (suf := []) (htab.trans rfl) (fun z hz => nomatch hz) (by decide) (by decide) (by decide) (tm 650 (by decide +kernel) (by decide +kernel)) (by decide +kernel) rfl (fun q9 => ?_)
    refine V_astore_n Y.1 (ls' := [(2, _), (0, _), (1, _)]) dL_zone_6 (rfl : _ = 7) rfl (by decide) rfl ?_
    refine V_bipush Y.1 (v := -11) dL_zone_7 (rfl : _ = 9) (by decide) ?_
    exact V_ret Y.1 dL_zone_9 rfl (Nat.le_of_ble_eq_true rfl) (Nat.le_of_ble_eq_true rfl) ⟨(if_pos hc).symm, fun z => absurd hc z⟩
  exact V_ret Y.1 dL_zone_5 rfl (Nat.le_of_ble_eq_true rfl) (Nat.le_of_ble_eq_true rfl) ⟨((if_neg (by first | exact hq_2.2.2 | exact hq_2.2.2.1 | exact fun z => z.elim hq_2.2.2.1 hq_2.2.2.2 | exact fun z => z.elim hq_2.2.2.1 hq_2.2.2.2.1 | exact fun z => z.elim (fun z => hq_2.2.2.1 z) (fun z => z hq_2.2.2.2))).trans hq_2.1.symm).symm, fun _ => hq_2.2.1⟩

set_option maxRecDepth 100000 in
set_option maxHeartbeats 4000000 in
theorem c_L_zones (l : Launch) (D : va_G) (kA : Nat → ClassId) (Hs : Heap) (σ : SG) (H0 : Heap) (hg : Ag Hs H0) (a : Nat) (M : MS) (s : Nat → Int32) (n t q u : Nat) (p : Nat → Nat → Int32) (no : Nat) (go : Nat → Int32) (ns : Nat) (X : Nat → Prop) (x y : Int32) (hJ : Lw D kA Hs H0 a M s n t q u p no go ns X) (hnt : l.stackTraces = false) : CtW l D kA Hs σ yL_zones cL_zones 4 (some .int) [(0, 6, 7, 20)] 10 162 4 24 H0 [.ref a, .int x, .int y] (nof) (pI fun k9 H9 => k9 = (if (b_st x = 0 ∨ b_st y = 0) then -11 else ln_cnt M.2.1 x.toNatClampNeg y.toNatClampNeg) ∧ (¬ (b_st x = 0 ∨ b_st y = 0) → H9 = H0)) := by
  refine CtW.of mh_L_zones (Nat.le_of_ble_eq_true rfl) (ls0 := [(0, _), (1, _), (2, _)]) rfl hg (fun _ z => z.elim) ?_
  intro Pp Ee Ss Mm Ar Bl Me Cc Z hsH htab
  have Y := Z.1
  obtain ⟨W, π, ES, ep, fc, vs, cs, gs, tt, hF, rfl, hS, hH, -, hba, hou, hsc, hX⟩ := id hJ
  refine V_aload_n Y.1 0 dL_zones_0 (rfl : _ = 1) rfl rfl ?_
  refine V_iload_n Y.1 1 dL_zones_1 (rfl : _ = 2) rfl rfl ?_
  refine V_iload_n Y.1 2 dL_zones_2 (rfl : _ = 3) rfl rfl ?_
  refine V_xI Y (sxV Z (c_X5_zoneCount l D kA Hs σ _ hg a W π ES u 0 ep fc no go vs cs ns gs x y hF hnt) mi_X5_zoneCount vi_L_51 rfl hF.1.1 rfl rfl (Nat.le_of_ble_eq_true rfl) ⟨Nat.le_of_ble_eq_true rfl, Nat.le_of_ble_eq_true rfl⟩ (Nat.le_of_ble_eq_true rfl) (Nat.le_of_ble_eq_true rfl) dL_zones_3) (fun _ z => z.elim) (rfl : _ = 6) (fun E_3 H3_3 hx_3 o_3 => ?_) (fun v_3 H3_3 hq_3 o_3 => ?_)
  · obtain ⟨rfl, hc⟩ := hx_3
    refine VX_catch Z (pre := []) (x := ⟨0, 6, 7, 20⟩) (suf := []) (htab.trans rfl) (fun z hz => nomatch hz) (by decide) (by decide) (by decide) (tm 650 (by decide +kernel) (by decide +kernel)) (by decide +kernel) rfl (fun q9 => ?_)
    refine V_astore_n Y.1 (ls' := [(3, _), (0, _), (1, _), (2, _)]) dL_zones_7 (rfl : _ = 8) rfl (by decide) rfl ?_
    refine V_bipush Y.1 (v := -11) dL_zones_8 (rfl : _ = 10) (by decide) ?_
    exact V_ret Y.1 dL_zones_10 rfl (Nat.le_of_ble_eq_true rfl) (Nat.le_of_ble_eq_true rfl) ⟨(if_pos hc).symm, fun z => absurd hc z⟩
  exact V_ret Y.1 dL_zones_6 rfl (Nat.le_of_ble_eq_true rfl) (Nat.le_of_ble_eq_true rfl) ⟨((if_neg (by first | exact hq_3.2.2 | exact hq_3.2.2.1 | exact fun z => z.elim hq_3.2.2.1 hq_3.2.2.2 | exact fun z => z.elim hq_3.2.2.1 hq_3.2.2.2.1 | exact fun z => z.elim (fun z => hq_3.2.2.1 z) (fun z => z hq_3.2.2.2))).trans hq_3.1.symm).symm, fun _ => hq_3.2.1⟩

set_option maxRecDepth 100000 in
set_option maxHeartbeats 4000000 in
theorem c_L_byComparing (l : Launch) (D : va_G) (kA : Nat → ClassId) (Hs : Heap) (σ : SG) (H0 : Heap) (hg : Ag Hs H0) (a : Nat) (M : MS) (s : Nat → Int32) (n t q u : Nat) (p : Nat → Nat → Int32) (no : Nat) (go : Nat → Int32) (ns : Nat) (X : Nat → Prop) (x y : Int32) (hJ : Lw D kA Hs H0 a M s n t q u p no go ns X) (hnt : l.stackTraces = false) : CtW l D kA Hs σ yL_byComparing cL_byComparing 4 (some .int) [(0, 6, 7, 20)] 10 162 4 24 H0 [.ref a, .int x, .int y] (nof) (pI fun k9 H9 => k9 = (if (b_st x = 0 ∨ b_st y = 0) then -11 else nI (ln_pairs M.2.1 x.toNatClampNeg y.toNatClampNeg)) ∧ (¬ (b_st x = 0 ∨ b_st y = 0) → H9 = H0)) := by
  refine CtW.of mh_L_byComparing (Nat.le_of_ble_eq_true rfl) (ls0 := [(0, _), (1, _), (2, _)]) rfl hg (fun _ z => z.elim) ?_
  intro Pp Ee Ss Mm Ar Bl Me Cc Z hsH htab
  have Y := Z.1
  obtain ⟨W, π, ES, ep, fc, vs, cs, gs, tt, hF, rfl, hS, hH, -, hba, hou, hsc, hX⟩ := id hJ
  refine V_aload_n Y.1 0 dL_byComparing_0 (rfl : _ = 1) rfl rfl ?_
  refine V_iload_n Y.1 1 dL_byComparing_1 (rfl : _ = 2) rfl rfl ?_
  refine V_iload_n Y.1 2 dL_byComparing_2 (rfl : _ = 3) rfl rfl ?_
  refine V_xI Y (sxV Z (c_X5_zoneCountByComparing l D kA Hs σ _ hg a W π ES u 0 ep fc no go vs cs ns gs x y hF hnt) mi_X5_zoneCountByComparing vi_L_54 rfl hF.1.1 rfl rfl (Nat.le_of_ble_eq_true rfl) ⟨Nat.le_of_ble_eq_true rfl, Nat.le_of_ble_eq_true rfl⟩ (Nat.le_of_ble_eq_true rfl) (Nat.le_of_ble_eq_true rfl) dL_byComparing_3) (fun _ z => z.elim) (rfl : _ = 6) (fun E_3 H3_3 hx_3 o_3 => ?_) (fun v_3 H3_3 hq_3 o_3 => ?_)
  · obtain ⟨rfl, hc⟩ := hx_3
    refine VX_catch Z (pre := []) (x := ⟨0, 6, 7, 20⟩) (suf := []) (htab.trans rfl) (fun z hz => nomatch hz) (by decide) (by decide) (by decide) (tm 650 (by decide +kernel) (by decide +kernel)) (by decide +kernel) rfl (fun q9 => ?_)
    refine V_astore_n Y.1 (ls' := [(3, _), (0, _), (1, _), (2, _)]) dL_byComparing_7 (rfl : _ = 8) rfl (by decide) rfl ?_
    refine V_bipush Y.1 (v := -11) dL_byComparing_8 (rfl : _ = 10) (by decide) ?_
    exact V_ret Y.1 dL_byComparing_10 rfl (Nat.le_of_ble_eq_true rfl) (Nat.le_of_ble_eq_true rfl) ⟨(if_pos hc).symm, fun z => absurd hc z⟩
  exact V_ret Y.1 dL_byComparing_6 rfl (Nat.le_of_ble_eq_true rfl) (Nat.le_of_ble_eq_true rfl) ⟨((if_neg (by first | exact hq_3.2.2 | exact hq_3.2.2.1 | exact fun z => z.elim hq_3.2.2.1 hq_3.2.2.2 | exact fun z => z.elim hq_3.2.2.1 hq_3.2.2.2.1 | exact fun z => z.elim (fun z => hq_3.2.2.1 z) (fun z => z hq_3.2.2.2))).trans hq_3.1.symm).symm, fun _ => hq_3.2.1⟩

set_option maxRecDepth 100000 in
set_option maxHeartbeats 4000000 in
theorem c_L_fare (l : Launch) (D : va_G) (kA : Nat → ClassId) (Hs : Heap) (σ : SG) (H0 : Heap) (hg : Ag Hs H0) (a : Nat) (M : MS) (s : Nat → Int32) (n t q u : Nat) (p : Nat → Nat → Int32) (no : Nat) (go : Nat → Int32) (ns : Nat) (X : Nat → Prop) (x y : Int32) (hJ : Lw D kA Hs H0 a M s n t q u p no go ns X) (hnt : l.stackTraces = false) : CtW l D kA Hs σ yL_fare cL_fare 4 (some .int) [(0, 6, 7, 20)] 10 162 4 24 H0 [.ref a, .int x, .int y] (nof) (pI fun k9 H9 => k9 = (if (b_st x = 0 ∨ b_st y = 0) then -11 else ln_fare M.2.1 (M.1 7) (M.1 8) x.toNatClampNeg y.toNatClampNeg) ∧ (¬ (b_st x = 0 ∨ b_st y = 0) → H9 = H0)) := by
  refine CtW.of mh_L_fare (Nat.le_of_ble_eq_true rfl) (ls0 := [(0, _), (1, _), (2, _)]) rfl hg (fun _ z => z.elim) ?_
  intro Pp Ee Ss Mm Ar Bl Me Cc Z hsH htab
  have Y := Z.1
  obtain ⟨W, π, ES, ep, fc, vs, cs, gs, tt, hF, rfl, hS, hH, -, hba, hou, hsc, hX⟩ := id hJ
  refine V_aload_n Y.1 0 dL_fare_0 (rfl : _ = 1) rfl rfl ?_
  refine V_iload_n Y.1 1 dL_fare_1 (rfl : _ = 2) rfl rfl ?_
  refine V_iload_n Y.1 2 dL_fare_2 (rfl : _ = 3) rfl rfl ?_
  refine V_xI Y (sxV Z (c_X5_fare l D kA Hs σ _ hg a W π ES u 0 ep fc no go vs cs ns gs x y hF hnt) mi_X5_fare vi_L_57 rfl hF.1.1 rfl rfl (Nat.le_of_ble_eq_true rfl) ⟨Nat.le_of_ble_eq_true rfl, Nat.le_of_ble_eq_true rfl⟩ (Nat.le_of_ble_eq_true rfl) (Nat.le_of_ble_eq_true rfl) dL_fare_3) (fun _ z => z.elim) (rfl : _ = 6) (fun E_3 H3_3 hx_3 o_3 => ?_) (fun v_3 H3_3 hq_3 o_3 => ?_)
  · obtain ⟨rfl, hc⟩ := hx_3
    refine VX_catch Z (pre := []) (x := ⟨0, 6, 7, 20⟩) (suf := []) (htab.trans rfl) (fun z hz => nomatch hz) (by decide) (by decide) (by decide) (tm 650 (by decide +kernel) (by decide +kernel)) (by decide +kernel) rfl (fun q9 => ?_)
    refine V_astore_n Y.1 (ls' := [(3, _), (0, _), (1, _), (2, _)]) dL_fare_7 (rfl : _ = 8) rfl (by decide) rfl ?_
    refine V_bipush Y.1 (v := -11) dL_fare_8 (rfl : _ = 10) (by decide) ?_
    exact V_ret Y.1 dL_fare_10 rfl (Nat.le_of_ble_eq_true rfl) (Nat.le_of_ble_eq_true rfl) ⟨(if_pos hc).symm, fun z => absurd hc z⟩
  exact V_ret Y.1 dL_fare_6 rfl (Nat.le_of_ble_eq_true rfl) (Nat.le_of_ble_eq_true rfl) ⟨((if_neg (by first | exact hq_3.2.2 | exact hq_3.2.2.1 | exact fun z => z.elim hq_3.2.2.1 hq_3.2.2.2 | exact fun z => z.elim hq_3.2.2.1 hq_3.2.2.2.1 | exact fun z => z.elim (fun z => hq_3.2.2.1 z) (fun z => z hq_3.2.2.2))).trans hq_3.1.symm).symm, fun _ => hq_3.2.1⟩

set_option maxRecDepth 100000 in
set_option maxHeartbeats 4000000 in
theorem c_L_taps (l : Launch) (D : va_G) (kA : Nat → ClassId) (Hs : Heap) (σ : SG) (H0 : Heap) (hg : Ag Hs H0) (a : Nat) (M : MS) (s : Nat → Int32) (n t q u : Nat) (p : Nat → Nat → Int32) (no : Nat) (go : Nat → Int32) (ns : Nat) (X : Nat → Prop) (x : Int32) (hJ : Lw D kA Hs H0 a M s n t q u p no go ns X) (hnt : l.stackTraces = false) : CtW l D kA Hs σ yL_taps cL_taps 3 (some .int) [(0, 5, 6, 20)] 10 161 4 24 H0 [.ref a, .int x] (nof) (pI fun k9 H9 => k9 = (if b_st x = 0 then -11 else M.2.2.1 x.toNatClampNeg) ∧ (¬ b_st x = 0 → H9 = H0)) := by
  refine CtW.of mh_L_taps (Nat.le_of_ble_eq_true rfl) (ls0 := [(0, _), (1, _)]) rfl hg (fun _ z => z.elim) ?_
  intro Pp Ee Ss Mm Ar Bl Me Cc Z hsH htab
  have Y := Z.1
  obtain ⟨W, π, ES, ep, fc, vs, cs, gs, tt, hF, rfl, hS, hH, -, hba, hou, hsc, hX⟩ := id hJ
  refine V_aload_n Y.1 0 dL_taps_0 (rfl : _ = 1) rfl rfl ?_
  refine V_iload_n Y.1 1 dL_taps_1 (rfl : _ = 2) rfl rfl ?_
  refine V_xI Y (sxV Z (c_X5_taps l D kA Hs σ _ hg a W π ES u 0 ep fc no go vs cs ns gs x hF hnt) mi_X5_taps vi_L_60 rfl hF.1.1 rfl rfl (Nat.le_of_ble_eq_true rfl) ⟨Nat.le_of_ble_eq_true rfl, Nat.le_of_ble_eq_true rfl⟩ (Nat.le_of_ble_eq_true rfl) (Nat.le_of_ble_eq_true rfl) dL_taps_2) (fun _ z => z.elim) (rfl : _ = 5) (fun E_2 H2_2 hx_2 o_2 => ?_) (fun v_2 H2_2 hq_2 o_2 => ?_)
  · obtain ⟨rfl, hc⟩ := hx_2
    refine VX_catch Z (pre := []) (x := ⟨0, 5, 6, 20⟩) (suf := []) (htab.trans rfl) (fun z hz => nomatch hz) (by decide) (by decide) (by decide) (tm 650 (by decide +kernel) (by decide +kernel)) (by decide +kernel) rfl (fun q9 => ?_)
    refine V_astore_n Y.1 (ls' := [(2, _), (0, _), (1, _)]) dL_taps_6 (rfl : _ = 7) rfl (by decide) rfl ?_
    refine V_bipush Y.1 (v := -11) dL_taps_7 (rfl : _ = 9) (by decide) ?_
    exact V_ret Y.1 dL_taps_9 rfl (Nat.le_of_ble_eq_true rfl) (Nat.le_of_ble_eq_true rfl) ⟨(if_pos hc).symm, fun z => absurd hc z⟩
  exact V_ret Y.1 dL_taps_5 rfl (Nat.le_of_ble_eq_true rfl) (Nat.le_of_ble_eq_true rfl) ⟨((if_neg (by first | exact hq_2.2.2 | exact hq_2.2.2.1 | exact fun z => z.elim hq_2.2.2.1 hq_2.2.2.2 | exact fun z => z.elim hq_2.2.2.1 hq_2.2.2.2.1 | exact fun z => z.elim (fun z => hq_2.2.2.1 z) (fun z => z hq_2.2.2.2))).trans hq_2.1.symm).symm, fun _ => hq_2.2.1⟩

set_option maxRecDepth 100000 in
set_option maxHeartbeats 4000000 in
theorem c_L_isReduced (l : Launch) (D : va_G) (kA : Nat → ClassId) (Hs : Heap) (σ : SG) (H0 : Heap) (hg : Ag Hs H0) (a : Nat) (M : MS) (s : Nat → Int32) (n t q u : Nat) (p : Nat → Nat → Int32) (no : Nat) (go : Nat → Int32) (ns : Nat) (X : Nat → Prop) (x : Int32) (hJ : Lw D kA Hs H0 a M s n t q u p no go ns X) (hnt : l.stackTraces = false) : CtW l D kA Hs σ yL_isReduced cL_isReduced 3 (some .int) [(0, 13, 14, 20)] 10 162 4 24 H0 [.ref a, .int x] (nof) (pI fun k9 H9 => k9 = (if b_card M x = 0 then -11 else (if (m_c M x).1 0 = 0 then 0 else 1)) ∧ (¬ b_card M x = 0 → H9 = H0)) := by
  refine CtW.of mh_L_isReduced (Nat.le_of_ble_eq_true rfl) (ls0 := [(0, _), (1, _)]) rfl hg (fun _ z => z.elim) ?_
  intro Pp Ee Ss Mm Ar Bl Me Cc Z hsH htab
  have Y := Z.1
  obtain ⟨W, π, ES, ep, fc, vs, cs, gs, tt, hF, rfl, hS, hH, -, hba, hou, hsc, hX⟩ := id hJ
  refine V_aload_n Y.1 0 dL_isReduced_0 (rfl : _ = 1) rfl rfl ?_
  refine V_iload_n Y.1 1 dL_isReduced_1 (rfl : _ = 2) rfl rfl ?_
  refine V_xI Y (sxV Z (c_X5_isReduced l D kA Hs σ _ hg a W π ES u 0 ep fc no go vs cs ns gs x hF hnt hS.1.hok) mi_X5_isReduced vi_L_66 rfl hF.1.1 rfl rfl (Nat.le_of_ble_eq_true rfl) ⟨Nat.le_of_ble_eq_true rfl, Nat.le_of_ble_eq_true rfl⟩ (Nat.le_of_ble_eq_true rfl) (Nat.le_of_ble_eq_true rfl) dL_isReduced_2) (fun _ z => z.elim) (rfl : _ = 5) (fun E_2 H2_2 hx_2 o_2 => ?_) (fun v_2 H2_2 hq_2 o_2 => ?_)
  · obtain ⟨rfl, hc⟩ := hx_2
    refine VX_catch Z (pre := []) (x := ⟨0, 13, 14, 20⟩) (suf := []) (htab.trans rfl) (fun z hz => nomatch hz) (by decide) (by decide) (by decide) (tm 650 (by decide +kernel) (by decide +kernel)) (by decide +kernel) rfl (fun q9 => ?_)
    refine V_astore_n Y.1 (ls' := [(2, _), (0, _), (1, _)]) dL_isReduced_14 (rfl : _ = 15) rfl (by decide) rfl ?_
    refine V_bipush Y.1 (v := -11) dL_isReduced_15 (rfl : _ = 17) (by decide) ?_
    exact V_ret Y.1 dL_isReduced_17 rfl (Nat.le_of_ble_eq_true rfl) (Nat.le_of_ble_eq_true rfl) ⟨(if_pos hc).symm, fun z => absurd hc z⟩
  refine V_if_eq Y.1 (tgt := 12) dL_isReduced_5 (by decide) (rfl : _ = 8) (fun c_5 => ?_) (fun c_5 => ?_)
  · refine V_iconst Y.1 (v := 0) dL_isReduced_12 (rfl : _ = 13) (by decide) ?_
    exact V_ret Y.1 dL_isReduced_13 rfl (Nat.le_of_ble_eq_true rfl) (Nat.le_of_ble_eq_true rfl) ⟨(by rw [if_neg (show ¬ b_card (W (π 0)) x = 0 from (by first | exact hq_2.2.2 | exact hq_2.2.2.1 | exact fun z => z.elim hq_2.2.2.1 hq_2.2.2.2 | exact fun z => z.elim hq_2.2.2.1 hq_2.2.2.2.1 | exact fun z => z.elim (fun z => hq_2.2.2.1 z) (fun z => z hq_2.2.2.2))), ← hq_2.1]; first | exact (if_pos ‹_›).symm | exact (if_neg ‹_›).symm), fun _ => hq_2.2.1⟩
  · refine V_iconst Y.1 (v := 1) dL_isReduced_8 (rfl : _ = 9) (by decide) ?_
    refine V_goto Y.1 (tgt := 13) dL_isReduced_9 (by decide) ?_
    exact V_ret Y.1 dL_isReduced_13 rfl (Nat.le_of_ble_eq_true rfl) (Nat.le_of_ble_eq_true rfl) ⟨(by rw [if_neg (show ¬ b_card (W (π 0)) x = 0 from (by first | exact hq_2.2.2 | exact hq_2.2.2.1 | exact fun z => z.elim hq_2.2.2.1 hq_2.2.2.2 | exact fun z => z.elim hq_2.2.2.1 hq_2.2.2.2.1 | exact fun z => z.elim (fun z => hq_2.2.2.1 z) (fun z => z hq_2.2.2.2))), ← hq_2.1]; first | exact (if_pos ‹_›).symm | exact (if_neg ‹_›).symm), fun _ => hq_2.2.1⟩

set_option maxRecDepth 100000 in
set_option maxHeartbeats 4000000 in
theorem c_L_balance (l : Launch) (D : va_G) (kA : Nat → ClassId) (Hs : Heap) (σ : SG) (H0 : Heap) (hg : Ag Hs H0) (a : Nat) (M : MS) (s : Nat → Int32) (n t q u : Nat) (p : Nat → Nat → Int32) (no : Nat) (go : Nat → Int32) (ns : Nat) (X : Nat → Prop) (x : Int32) (hJ : Lw D kA Hs H0 a M s n t q u p no go ns X) (hnt : l.stackTraces = false) : CtW l D kA Hs σ yL_balance cL_balance 3 (some .int) [(0, 5, 6, 20)] 10 162 4 24 H0 [.ref a, .int x] (nof) (pI fun k9 H9 => k9 = (if b_card M x = 0 then -30011 else (m_c M x).1 1) ∧ (¬ b_card M x = 0 → H9 = H0)) := by
  refine CtW.of mh_L_balance (Nat.le_of_ble_eq_true rfl) (ls0 := [(0, _), (1, _)]) rfl hg (fun _ z => z.elim) ?_
  intro Pp Ee Ss Mm Ar Bl Me Cc Z hsH htab
  have Y := Z.1
  obtain ⟨W, π, ES, ep, fc, vs, cs, gs, tt, hF, rfl, hS, hH, -, hba, hou, hsc, hX⟩ := id hJ
  refine V_aload_n Y.1 0 dL_balance_0 (rfl : _ = 1) rfl rfl ?_
  refine V_iload_n Y.1 1 dL_balance_1 (rfl : _ = 2) rfl rfl ?_
  refine V_xI Y (sxV Z (c_X5_balance l D kA Hs σ _ hg a W π ES u 0 ep fc no go vs cs ns gs x hF hnt) mi_X5_balance vi_L_70 rfl hF.1.1 rfl rfl (Nat.le_of_ble_eq_true rfl) ⟨Nat.le_of_ble_eq_true rfl, Nat.le_of_ble_eq_true rfl⟩ (Nat.le_of_ble_eq_true rfl) (Nat.le_of_ble_eq_true rfl) dL_balance_2) (fun _ z => z.elim) (rfl : _ = 5) (fun E_2 H2_2 hx_2 o_2 => ?_) (fun v_2 H2_2 hq_2 o_2 => ?_)
  · obtain ⟨rfl, hc⟩ := hx_2
    refine VX_catch Z (pre := []) (x := ⟨0, 5, 6, 20⟩) (suf := []) (htab.trans rfl) (fun z hz => nomatch hz) (by decide) (by decide) (by decide) (tm 650 (by decide +kernel) (by decide +kernel)) (by decide +kernel) rfl (fun q9 => ?_)
    refine V_astore_n Y.1 (ls' := [(2, _), (0, _), (1, _)]) dL_balance_6 (rfl : _ = 7) rfl (by decide) rfl ?_
    refine V_sipush Y.1 (v := -30011) dL_balance_7 (rfl : _ = 10) (by decide) ?_
    exact V_ret Y.1 dL_balance_10 rfl (Nat.le_of_ble_eq_true rfl) (Nat.le_of_ble_eq_true rfl) ⟨(if_pos hc).symm, fun z => absurd hc z⟩
  exact V_ret Y.1 dL_balance_5 rfl (Nat.le_of_ble_eq_true rfl) (Nat.le_of_ble_eq_true rfl) ⟨((if_neg (by first | exact hq_2.2.2 | exact hq_2.2.2.1 | exact fun z => z.elim hq_2.2.2.1 hq_2.2.2.2 | exact fun z => z.elim hq_2.2.2.1 hq_2.2.2.2.1 | exact fun z => z.elim (fun z => hq_2.2.2.1 z) (fun z => z hq_2.2.2.2))).trans hq_2.1.symm).symm, fun _ => hq_2.2.1⟩

set_option maxRecDepth 100000 in
set_option maxHeartbeats 4000000 in
theorem c_L_isOnTrip (l : Launch) (D : va_G) (kA : Nat → ClassId) (Hs : Heap) (σ : SG) (H0 : Heap) (hg : Ag Hs H0) (a : Nat) (M : MS) (s : Nat → Int32) (n t q u : Nat) (p : Nat → Nat → Int32) (no : Nat) (go : Nat → Int32) (ns : Nat) (X : Nat → Prop) (x : Int32) (hJ : Lw D kA Hs H0 a M s n t q u p no go ns X) (hnt : l.stackTraces = false) : CtW l D kA Hs σ yL_isOnTrip cL_isOnTrip 3 (some .int) [(0, 13, 14, 20)] 10 162 4 24 H0 [.ref a, .int x] (nof) (pI fun k9 H9 => k9 = (if b_card M x = 0 then -11 else (if (m_c M x).1 2 = 0 then 0 else 1)) ∧ (¬ b_card M x = 0 → H9 = H0)) := by
  refine CtW.of mh_L_isOnTrip (Nat.le_of_ble_eq_true rfl) (ls0 := [(0, _), (1, _)]) rfl hg (fun _ z => z.elim) ?_
  intro Pp Ee Ss Mm Ar Bl Me Cc Z hsH htab
  have Y := Z.1
  obtain ⟨W, π, ES, ep, fc, vs, cs, gs, tt, hF, rfl, hS, hH, -, hba, hou, hsc, hX⟩ := id hJ
  refine V_aload_n Y.1 0 dL_isOnTrip_0 (rfl : _ = 1) rfl rfl ?_
  refine V_iload_n Y.1 1 dL_isOnTrip_1 (rfl : _ = 2) rfl rfl ?_
  refine V_xI Y (sxV Z (c_X5_isOnTrip l D kA Hs σ _ hg a W π ES u 0 ep fc no go vs cs ns gs x hF hnt hS.1.hok) mi_X5_isOnTrip vi_L_73 rfl hF.1.1 rfl rfl (Nat.le_of_ble_eq_true rfl) ⟨Nat.le_of_ble_eq_true rfl, Nat.le_of_ble_eq_true rfl⟩ (Nat.le_of_ble_eq_true rfl) (Nat.le_of_ble_eq_true rfl) dL_isOnTrip_2) (fun _ z => z.elim) (rfl : _ = 5) (fun E_2 H2_2 hx_2 o_2 => ?_) (fun v_2 H2_2 hq_2 o_2 => ?_)
  · obtain ⟨rfl, hc⟩ := hx_2
    refine VX_catch Z (pre := []) (x := ⟨0, 13, 14, 20⟩) (suf := []) (htab.trans rfl) (fun z hz => nomatch hz) (by decide) (by decide) (by decide) (tm 650 (by decide +kernel) (by decide +kernel)) (by decide +kernel) rfl (fun q9 => ?_)
    refine V_astore_n Y.1 (ls' := [(2, _), (0, _), (1, _)]) dL_isOnTrip_14 (rfl : _ = 15) rfl (by decide) rfl ?_
    refine V_bipush Y.1 (v := -11) dL_isOnTrip_15 (rfl : _ = 17) (by decide) ?_
    exact V_ret Y.1 dL_isOnTrip_17 rfl (Nat.le_of_ble_eq_true rfl) (Nat.le_of_ble_eq_true rfl) ⟨(if_pos hc).symm, fun z => absurd hc z⟩
  refine V_if_eq Y.1 (tgt := 12) dL_isOnTrip_5 (by decide) (rfl : _ = 8) (fun c_5 => ?_) (fun c_5 => ?_)
  · refine V_iconst Y.1 (v := 0) dL_isOnTrip_12 (rfl : _ = 13) (by decide) ?_
    exact V_ret Y.1 dL_isOnTrip_13 rfl (Nat.le_of_ble_eq_true rfl) (Nat.le_of_ble_eq_true rfl) ⟨(by rw [if_neg (show ¬ b_card (W (π 0)) x = 0 from (by first | exact hq_2.2.2 | exact hq_2.2.2.1 | exact fun z => z.elim hq_2.2.2.1 hq_2.2.2.2 | exact fun z => z.elim hq_2.2.2.1 hq_2.2.2.2.1 | exact fun z => z.elim (fun z => hq_2.2.2.1 z) (fun z => z hq_2.2.2.2))), ← hq_2.1]; first | exact (if_pos ‹_›).symm | exact (if_neg ‹_›).symm), fun _ => hq_2.2.1⟩
  · refine V_iconst Y.1 (v := 1) dL_isOnTrip_8 (rfl : _ = 9) (by decide) ?_
    refine V_goto Y.1 (tgt := 13) dL_isOnTrip_9 (by decide) ?_
    exact V_ret Y.1 dL_isOnTrip_13 rfl (Nat.le_of_ble_eq_true rfl) (Nat.le_of_ble_eq_true rfl) ⟨(by rw [if_neg (show ¬ b_card (W (π 0)) x = 0 from (by first | exact hq_2.2.2 | exact hq_2.2.2.1 | exact fun z => z.elim hq_2.2.2.1 hq_2.2.2.2 | exact fun z => z.elim hq_2.2.2.1 hq_2.2.2.2.1 | exact fun z => z.elim (fun z => hq_2.2.2.1 z) (fun z => z hq_2.2.2.2))), ← hq_2.1]; first | exact (if_pos ‹_›).symm | exact (if_neg ‹_›).symm), fun _ => hq_2.2.1⟩

set_option maxRecDepth 100000 in
set_option maxHeartbeats 4000000 in
theorem c_L_tripStart (l : Launch) (D : va_G) (kA : Nat → ClassId) (Hs : Heap) (σ : SG) (H0 : Heap) (hg : Ag Hs H0) (a : Nat) (M : MS) (s : Nat → Int32) (n t q u : Nat) (p : Nat → Nat → Int32) (no : Nat) (go : Nat → Int32) (ns : Nat) (X : Nat → Prop) (x : Int32) (hJ : Lw D kA Hs H0 a M s n t q u p no go ns X) (hnt : l.stackTraces = false) : CtW l D kA Hs σ yL_tripStart cL_tripStart 3 (some .int) [(0, 5, 6, 20), (0, 5, 10, 36)] 11 183 4 24 H0 [.ref a, .int x] (nof) (pI fun k9 H9 => k9 = (if b_card M x = 0 then -11 else if (m_c M x).1 2 = 0 then -13 else (m_c M x).1 3) ∧ (¬ b_card M x = 0 → ¬ (m_c M x).1 2 = 0 → H9 = H0)) := by
  refine CtW.of mh_L_tripStart (Nat.le_of_ble_eq_true rfl) (ls0 := [(0, _), (1, _)]) rfl hg (fun _ z => z.elim) ?_
  intro Pp Ee Ss Mm Ar Bl Me Cc Z hsH htab
  have Y := Z.1
  obtain ⟨W, π, ES, ep, fc, vs, cs, gs, tt, hF, rfl, hS, hH, -, hba, hou, hsc, hX⟩ := id hJ
  refine V_aload_n Y.1 0 dL_tripStart_0 (rfl : _ = 1) rfl rfl ?_
  refine V_iload_n Y.1 1 dL_tripStart_1 (rfl : _ = 2) rfl rfl ?_
  refine V_xI Y (sxV Z (c_X5_tripStart l D kA Hs σ _ hg a W π ES u 0 ep fc no go vs cs ns gs x hF hnt) mi_X5_tripStart vi_L_76 rfl hF.1.1 rfl rfl (Nat.le_of_ble_eq_true rfl) ⟨Nat.le_of_ble_eq_true rfl, Nat.le_of_ble_eq_true rfl⟩ (Nat.le_of_ble_eq_true rfl) (Nat.le_of_ble_eq_true rfl) dL_tripStart_2) (fun _ z => z.elim) (rfl : _ = 5) (fun E_2 H2_2 hx_2 o_2 => ?_) (fun v_2 H2_2 hq_2 o_2 => ?_)
  · rcases hx_2 with hx9 | hx9
    · obtain ⟨rfl, hc⟩ := hx9
      refine VX_catch Z (pre := []) (x := ⟨0, 5, 6, 20⟩) (suf := [⟨0, 5, 10, 36⟩]) (htab.trans rfl) (fun z hz => nomatch hz) (by decide) (by decide) (by decide) (tm 650 (by decide +kernel) (by decide +kernel)) (by decide +kernel) rfl (fun q9 => ?_)
      refine V_astore_n Y.1 (ls' := [(2, _), (0, _), (1, _)]) dL_tripStart_6 (rfl : _ = 7) rfl (by decide) rfl ?_
      refine V_bipush Y.1 (v := -11) dL_tripStart_7 (rfl : _ = 9) (by decide) ?_
      exact V_ret Y.1 dL_tripStart_9 rfl (Nat.le_of_ble_eq_true rfl) (Nat.le_of_ble_eq_true rfl) ⟨(if_pos hc).symm, fun z => absurd hc z⟩
    · obtain ⟨rfl, hc⟩ := hx9
      have hd1 : ¬ b_card (W (π 0)) x = 0 := hc.1
      have hd2 : (m_c (W (π 0)) x).1 2 = 0 := hc.2
      refine VX_catch Z (pre := [⟨0, 5, 6, 20⟩]) (x := ⟨0, 5, 10, 36⟩) (suf := []) (htab.trans rfl) (fun z hz => by obtain rfl := List.mem_singleton.mp hz; exact Or.inr ⟨by decide, "java/lang/IndexOutOfBoundsException", (tm 650 (by decide +kernel) (by decide +kernel)), by decide, by decide⟩) (by decide) (by decide) (by decide) (tm 767 (by decide +kernel) (by decide +kernel)) (by decide +kernel) rfl (fun q9 => ?_)
      refine V_astore_n Y.1 (ls' := [(2, _), (0, _), (1, _)]) dL_tripStart_10 (rfl : _ = 11) rfl (by decide) rfl ?_
      refine V_bipush Y.1 (v := -13) dL_tripStart_11 (rfl : _ = 13) (by decide) ?_
      exact V_ret Y.1 dL_tripStart_13 rfl (Nat.le_of_ble_eq_true rfl) (Nat.le_of_ble_eq_true rfl) ⟨((if_neg hd1).trans (if_pos hd2)).symm, fun _ z => absurd hd2 z⟩
  exact V_ret Y.1 dL_tripStart_5 rfl (Nat.le_of_ble_eq_true rfl) (Nat.le_of_ble_eq_true rfl) ⟨((if_neg (by first | exact hq_2.2.2 | exact hq_2.2.2.1 | exact fun z => z.elim hq_2.2.2.1 hq_2.2.2.2 | exact fun z => z.elim hq_2.2.2.1 hq_2.2.2.2.1 | exact fun z => z.elim (fun z => hq_2.2.2.1 z) (fun z => z hq_2.2.2.2))).trans ((if_neg (by first | exact hq_2.2.2.2 | exact hq_2.2.2.2.2)).trans hq_2.1.symm)).symm, fun _ _ => hq_2.2.1⟩

set_option maxRecDepth 100000 in
set_option maxHeartbeats 4000000 in
theorem c_L_journeyStart (l : Launch) (D : va_G) (kA : Nat → ClassId) (Hs : Heap) (σ : SG) (H0 : Heap) (hg : Ag Hs H0) (a : Nat) (M : MS) (s : Nat → Int32) (n t q u : Nat) (p : Nat → Nat → Int32) (no : Nat) (go : Nat → Int32) (ns : Nat) (X : Nat → Prop) (x : Int32) (hJ : Lw D kA Hs H0 a M s n t q u p no go ns X) (hnt : l.stackTraces = false) : CtW l D kA Hs σ yL_journeyStart cL_journeyStart 3 (some .int) [(0, 5, 6, 20), (0, 5, 10, 36)] 11 183 4 24 H0 [.ref a, .int x] (nof) (pI fun k9 H9 => k9 = (if b_card M x = 0 then -11 else if (m_c M x).1 2 = 0 then -13 else (m_c M x).1 5) ∧ (¬ b_card M x = 0 → ¬ (m_c M x).1 2 = 0 → H9 = H0)) := by
  refine CtW.of mh_L_journeyStart (Nat.le_of_ble_eq_true rfl) (ls0 := [(0, _), (1, _)]) rfl hg (fun _ z => z.elim) ?_
  intro Pp Ee Ss Mm Ar Bl Me Cc Z hsH htab
  have Y := Z.1
  obtain ⟨W, π, ES, ep, fc, vs, cs, gs, tt, hF, rfl, hS, hH, -, hba, hou, hsc, hX⟩ := id hJ
  refine V_aload_n Y.1 0 dL_journeyStart_0 (rfl : _ = 1) rfl rfl ?_
  refine V_iload_n Y.1 1 dL_journeyStart_1 (rfl : _ = 2) rfl rfl ?_
  refine V_xI Y (sxV Z (c_X5_journeyStart l D kA Hs σ _ hg a W π ES u 0 ep fc no go vs cs ns gs x hF hnt) mi_X5_journeyStart vi_L_79 rfl hF.1.1 rfl rfl (Nat.le_of_ble_eq_true rfl) ⟨Nat.le_of_ble_eq_true rfl, Nat.le_of_ble_eq_true rfl⟩ (Nat.le_of_ble_eq_true rfl) (Nat.le_of_ble_eq_true rfl) dL_journeyStart_2) (fun _ z => z.elim) (rfl : _ = 5) (fun E_2 H2_2 hx_2 o_2 => ?_) (fun v_2 H2_2 hq_2 o_2 => ?_)
  · rcases hx_2 with hx9 | hx9
    · obtain ⟨rfl, hc⟩ := hx9
      refine VX_catch Z (pre := []) (x := ⟨0, 5, 6, 20⟩) (suf := [⟨0, 5, 10, 36⟩]) (htab.trans rfl) (fun z hz => nomatch hz) (by decide) (by decide) (by decide) (tm 650 (by decide +kernel) (by decide +kernel)) (by decide +kernel) rfl (fun q9 => ?_)
      refine V_astore_n Y.1 (ls' := [(2, _), (0, _), (1, _)]) dL_journeyStart_6 (rfl : _ = 7) rfl (by decide) rfl ?_
      refine V_bipush Y.1 (v := -11) dL_journeyStart_7 (rfl : _ = 9) (by decide) ?_
      exact V_ret Y.1 dL_journeyStart_9 rfl (Nat.le_of_ble_eq_true rfl) (Nat.le_of_ble_eq_true rfl) ⟨(if_pos hc).symm, fun z => absurd hc z⟩
    · obtain ⟨rfl, hc⟩ := hx9
      have hd1 : ¬ b_card (W (π 0)) x = 0 := hc.1
      have hd2 : (m_c (W (π 0)) x).1 2 = 0 := hc.2
      refine VX_catch Z (pre := [⟨0, 5, 6, 20⟩]) (x := ⟨0, 5, 10, 36⟩) (suf := []) (htab.trans rfl) (fun z hz => by obtain rfl := List.mem_singleton.mp hz; exact Or.inr ⟨by decide, "java/lang/IndexOutOfBoundsException", (tm 650 (by decide +kernel) (by decide +kernel)), by decide, by decide⟩) (by decide) (by decide) (by decide) (tm 767 (by decide +kernel) (by decide +kernel)) (by decide +kernel) rfl (fun q9 => ?_)
      refine V_astore_n Y.1 (ls' := [(2, _), (0, _), (1, _)]) dL_journeyStart_10 (rfl : _ = 11) rfl (by decide) rfl ?_
      refine V_bipush Y.1 (v := -13) dL_journeyStart_11 (rfl : _ = 13) (by decide) ?_
      exact V_ret Y.1 dL_journeyStart_13 rfl (Nat.le_of_ble_eq_true rfl) (Nat.le_of_ble_eq_true rfl) ⟨((if_neg hd1).trans (if_pos hd2)).symm, fun _ z => absurd hd2 z⟩
  exact V_ret Y.1 dL_journeyStart_5 rfl (Nat.le_of_ble_eq_true rfl) (Nat.le_of_ble_eq_true rfl) ⟨((if_neg (by first | exact hq_2.2.2 | exact hq_2.2.2.1 | exact fun z => z.elim hq_2.2.2.1 hq_2.2.2.2 | exact fun z => z.elim hq_2.2.2.1 hq_2.2.2.2.1 | exact fun z => z.elim (fun z => hq_2.2.2.1 z) (fun z => z hq_2.2.2.2))).trans ((if_neg (by first | exact hq_2.2.2.2 | exact hq_2.2.2.2.2)).trans hq_2.1.symm)).symm, fun _ _ => hq_2.2.1⟩

set_option maxRecDepth 100000 in
set_option maxHeartbeats 4000000 in
theorem c_L_minutesLeft (l : Launch) (D : va_G) (kA : Nat → ClassId) (Hs : Heap) (σ : SG) (H0 : Heap) (hg : Ag Hs H0) (a : Nat) (M : MS) (s : Nat → Int32) (n t q u : Nat) (p : Nat → Nat → Int32) (no : Nat) (go : Nat → Int32) (ns : Nat) (X : Nat → Prop) (x : Int32) (hJ : Lw D kA Hs H0 a M s n t q u p no go ns X) (hnt : l.stackTraces = false) : CtW l D kA Hs σ yL_minutesLeft cL_minutesLeft 3 (some .int) [(0, 5, 6, 20), (0, 5, 10, 36)] 11 183 4 24 H0 [.ref a, .int x] (nof) (pI fun k9 H9 => k9 = (if b_card M x = 0 then -11 else if (m_c M x).1 2 = 0 then -13 else (m_c M x).1 4 + 180 - M.1 1) ∧ (¬ b_card M x = 0 → ¬ (m_c M x).1 2 = 0 → H9 = H0)) := by
  refine CtW.of mh_L_minutesLeft (Nat.le_of_ble_eq_true rfl) (ls0 := [(0, _), (1, _)]) rfl hg (fun _ z => z.elim) ?_
  intro Pp Ee Ss Mm Ar Bl Me Cc Z hsH htab
  have Y := Z.1
  obtain ⟨W, π, ES, ep, fc, vs, cs, gs, tt, hF, rfl, hS, hH, -, hba, hou, hsc, hX⟩ := id hJ
  refine V_aload_n Y.1 0 dL_minutesLeft_0 (rfl : _ = 1) rfl rfl ?_
  refine V_iload_n Y.1 1 dL_minutesLeft_1 (rfl : _ = 2) rfl rfl ?_
  refine V_xI Y (sxV Z (c_X5_minutesLeft l D kA Hs σ _ hg a W π ES u 0 ep fc no go vs cs ns gs x hF hnt) mi_X5_minutesLeft vi_L_82 rfl hF.1.1 rfl rfl (Nat.le_of_ble_eq_true rfl) ⟨Nat.le_of_ble_eq_true rfl, Nat.le_of_ble_eq_true rfl⟩ (Nat.le_of_ble_eq_true rfl) (Nat.le_of_ble_eq_true rfl) dL_minutesLeft_2) (fun _ z => z.elim) (rfl : _ = 5) (fun E_2 H2_2 hx_2 o_2 => ?_) (fun v_2 H2_2 hq_2 o_2 => ?_)
  · rcases hx_2 with hx9 | hx9
    · obtain ⟨rfl, hc⟩ := hx9
      refine VX_catch Z (pre := []) (x := ⟨0, 5, 6, 20⟩) (suf := [⟨0, 5, 10, 36⟩]) (htab.trans rfl) (fun z hz => nomatch hz) (by decide) (by decide) (by decide) (tm 650 (by decide +kernel) (by decide +kernel)) (by decide +kernel) rfl (fun q9 => ?_)
      refine V_astore_n Y.1 (ls' := [(2, _), (0, _), (1, _)]) dL_minutesLeft_6 (rfl : _ = 7) rfl (by decide) rfl ?_
      refine V_bipush Y.1 (v := -11) dL_minutesLeft_7 (rfl : _ = 9) (by decide) ?_
      exact V_ret Y.1 dL_minutesLeft_9 rfl (Nat.le_of_ble_eq_true rfl) (Nat.le_of_ble_eq_true rfl) ⟨(if_pos hc).symm, fun z => absurd hc z⟩
    · obtain ⟨rfl, hc⟩ := hx9
      have hd1 : ¬ b_card (W (π 0)) x = 0 := hc.1
      have hd2 : (m_c (W (π 0)) x).1 2 = 0 := hc.2
      refine VX_catch Z (pre := [⟨0, 5, 6, 20⟩]) (x := ⟨0, 5, 10, 36⟩) (suf := []) (htab.trans rfl) (fun z hz => by obtain rfl := List.mem_singleton.mp hz; exact Or.inr ⟨by decide, "java/lang/IndexOutOfBoundsException", (tm 650 (by decide +kernel) (by decide +kernel)), by decide, by decide⟩) (by decide) (by decide) (by decide) (tm 767 (by decide +kernel) (by decide +kernel)) (by decide +kernel) rfl (fun q9 => ?_)
      refine V_astore_n Y.1 (ls' := [(2, _), (0, _), (1, _)]) dL_minutesLeft_10 (rfl : _ = 11) rfl (by decide) rfl ?_
      refine V_bipush Y.1 (v := -13) dL_minutesLeft_11 (rfl : _ = 13) (by decide) ?_
      exact V_ret Y.1 dL_minutesLeft_13 rfl (Nat.le_of_ble_eq_true rfl) (Nat.le_of_ble_eq_true rfl) ⟨((if_neg hd1).trans (if_pos hd2)).symm, fun _ z => absurd hd2 z⟩
  exact V_ret Y.1 dL_minutesLeft_5 rfl (Nat.le_of_ble_eq_true rfl) (Nat.le_of_ble_eq_true rfl) ⟨((if_neg (by first | exact hq_2.2.2 | exact hq_2.2.2.1 | exact fun z => z.elim hq_2.2.2.1 hq_2.2.2.2 | exact fun z => z.elim hq_2.2.2.1 hq_2.2.2.2.1 | exact fun z => z.elim (fun z => hq_2.2.2.1 z) (fun z => z hq_2.2.2.2))).trans ((if_neg (by first | exact hq_2.2.2.2 | exact hq_2.2.2.2.2)).trans hq_2.1.symm)).symm, fun _ _ => hq_2.2.1⟩

set_option maxRecDepth 100000 in
set_option maxHeartbeats 4000000 in
theorem c_L_continues (l : Launch) (D : va_G) (kA : Nat → ClassId) (Hs : Heap) (σ : SG) (H0 : Heap) (hg : Ag Hs H0) (a : Nat) (M : MS) (s : Nat → Int32) (n t q u : Nat) (p : Nat → Nat → Int32) (no : Nat) (go : Nat → Int32) (ns : Nat) (X : Nat → Prop) (x y : Int32) (hJ : Lw D kA Hs H0 a M s n t q u p no go ns X) (hnt : l.stackTraces = false) : CtW l D kA Hs σ yL_continues cL_continues 4 (some .int) [(0, 14, 15, 20)] 10 163 4 24 H0 [.ref a, .int x, .int y] (nof) (pI fun k9 H9 => k9 = (if (b_card M x = 0 ∨ b_st y = 0) then -11 else (if k_cont (m_c M x) y (M.1 1) = 0 then 0 else 1)) ∧ (¬ (b_card M x = 0 ∨ b_st y = 0) → H9 = H0)) := by
  refine CtW.of mh_L_continues (Nat.le_of_ble_eq_true rfl) (ls0 := [(0, _), (1, _), (2, _)]) rfl hg (fun _ z => z.elim) ?_
  intro Pp Ee Ss Mm Ar Bl Me Cc Z hsH htab
  have Y := Z.1
  obtain ⟨W, π, ES, ep, fc, vs, cs, gs, tt, hF, rfl, hS, hH, -, hba, hou, hsc, hX⟩ := id hJ
  refine V_aload_n Y.1 0 dL_continues_0 (rfl : _ = 1) rfl rfl ?_
  refine V_iload_n Y.1 1 dL_continues_1 (rfl : _ = 2) rfl rfl ?_
  refine V_iload_n Y.1 2 dL_continues_2 (rfl : _ = 3) rfl rfl ?_
  refine V_xI Y (sxV Z (c_X5_wouldContinue l D kA Hs σ _ hg a W π ES u 0 ep fc no go vs cs ns gs x y hF hnt) mi_X5_wouldContinue vi_L_85 rfl hF.1.1 rfl rfl (Nat.le_of_ble_eq_true rfl) ⟨Nat.le_of_ble_eq_true rfl, Nat.le_of_ble_eq_true rfl⟩ (Nat.le_of_ble_eq_true rfl) (Nat.le_of_ble_eq_true rfl) dL_continues_3) (fun _ z => z.elim) (rfl : _ = 6) (fun E_3 H3_3 hx_3 o_3 => ?_) (fun v_3 H3_3 hq_3 o_3 => ?_)
  · obtain ⟨rfl, hc⟩ := hx_3
    refine VX_catch Z (pre := []) (x := ⟨0, 14, 15, 20⟩) (suf := []) (htab.trans rfl) (fun z hz => nomatch hz) (by decide) (by decide) (by decide) (tm 650 (by decide +kernel) (by decide +kernel)) (by decide +kernel) rfl (fun q9 => ?_)
    refine V_astore_n Y.1 (ls' := [(3, _), (0, _), (1, _), (2, _)]) dL_continues_15 (rfl : _ = 16) rfl (by decide) rfl ?_
    refine V_bipush Y.1 (v := -11) dL_continues_16 (rfl : _ = 18) (by decide) ?_
    exact V_ret Y.1 dL_continues_18 rfl (Nat.le_of_ble_eq_true rfl) (Nat.le_of_ble_eq_true rfl) ⟨(if_pos hc).symm, fun z => absurd hc z⟩
  refine V_if_eq Y.1 (tgt := 13) dL_continues_6 (by decide) (rfl : _ = 9) (fun c_6 => ?_) (fun c_6 => ?_)
  · refine V_iconst Y.1 (v := 0) dL_continues_13 (rfl : _ = 14) (by decide) ?_
    exact V_ret Y.1 dL_continues_14 rfl (Nat.le_of_ble_eq_true rfl) (Nat.le_of_ble_eq_true rfl) ⟨(by rw [if_neg (show ¬ (b_card (W (π 0)) x = 0 ∨ b_st y = 0) from (by first | exact hq_3.2.2 | exact hq_3.2.2.1 | exact fun z => z.elim hq_3.2.2.1 hq_3.2.2.2 | exact fun z => z.elim hq_3.2.2.1 hq_3.2.2.2.1 | exact fun z => z.elim (fun z => hq_3.2.2.1 z) (fun z => z hq_3.2.2.2))), ← hq_3.1]; first | exact (if_pos ‹_›).symm | exact (if_neg ‹_›).symm), fun _ => hq_3.2.1⟩
  · refine V_iconst Y.1 (v := 1) dL_continues_9 (rfl : _ = 10) (by decide) ?_
    refine V_goto Y.1 (tgt := 14) dL_continues_10 (by decide) ?_
    exact V_ret Y.1 dL_continues_14 rfl (Nat.le_of_ble_eq_true rfl) (Nat.le_of_ble_eq_true rfl) ⟨(by rw [if_neg (show ¬ (b_card (W (π 0)) x = 0 ∨ b_st y = 0) from (by first | exact hq_3.2.2 | exact hq_3.2.2.1 | exact fun z => z.elim hq_3.2.2.1 hq_3.2.2.2 | exact fun z => z.elim hq_3.2.2.1 hq_3.2.2.2.1 | exact fun z => z.elim (fun z => hq_3.2.2.1 z) (fun z => z hq_3.2.2.2))), ← hq_3.1]; first | exact (if_pos ‹_›).symm | exact (if_neg ‹_›).symm), fun _ => hq_3.2.1⟩

set_option maxRecDepth 100000 in
set_option maxHeartbeats 4000000 in
theorem c_L_chargeIf (l : Launch) (D : va_G) (kA : Nat → ClassId) (Hs : Heap) (σ : SG) (H0 : Heap) (hg : Ag Hs H0) (a : Nat) (M : MS) (s : Nat → Int32) (n t q u : Nat) (p : Nat → Nat → Int32) (no : Nat) (go : Nat → Int32) (ns : Nat) (X : Nat → Prop) (x y : Int32) (hJ : Lw D kA Hs H0 a M s n t q u p no go ns X) (hnt : l.stackTraces = false) : CtW l D kA Hs σ yL_chargeIf cL_chargeIf 4 (some .int) [(0, 6, 7, 20), (0, 6, 11, 36)] 11 184 4 24 H0 [.ref a, .int x, .int y] (nof) (pI fun k9 H9 => k9 = (if (b_st y = 0 ∨ b_card M x = 0) then -11 else if (m_c M x).1 2 = 0 then -13 else k_trip (m_c M x) M.2.1 (M.1 7) (M.1 8) ((m_c M x).1 5).toNatClampNeg y.toNatClampNeg (t / 1440)) ∧ (¬ (b_st y = 0 ∨ b_card M x = 0) → ¬ (m_c M x).1 2 = 0 → H9 = H0)) := by
  refine CtW.of mh_L_chargeIf (Nat.le_of_ble_eq_true rfl) (ls0 := [(0, _), (1, _), (2, _)]) rfl hg (fun _ z => z.elim) ?_
  intro Pp Ee Ss Mm Ar Bl Me Cc Z hsH htab
  have Y := Z.1
  obtain ⟨W, π, ES, ep, fc, vs, cs, gs, tt, hF, rfl, hS, hH, -, hba, hou, hsc, hX⟩ := id hJ
  refine V_aload_n Y.1 0 dL_chargeIf_0 (rfl : _ = 1) rfl rfl ?_
  refine V_iload_n Y.1 1 dL_chargeIf_1 (rfl : _ = 2) rfl rfl ?_
  refine V_iload_n Y.1 2 dL_chargeIf_2 (rfl : _ = 3) rfl rfl ?_
  refine V_xI Y (sxV Z (c_X5_chargeIfTappedOut l D kA Hs σ _ hg a W π ES u 0 ep fc no go vs cs ns gs x y (t / 1440) hS.1.1.day (by have := hS.1.1.t30; omega) hF hnt hS.1.hjt5) mi_X5_chargeIfTappedOut vi_L_88 rfl hF.1.1 rfl rfl (Nat.le_of_ble_eq_true rfl) ⟨Nat.le_of_ble_eq_true rfl, Nat.le_of_ble_eq_true rfl⟩ (Nat.le_of_ble_eq_true rfl) (Nat.le_of_ble_eq_true rfl) dL_chargeIf_3) (fun _ z => z.elim) (rfl : _ = 6) (fun E_3 H3_3 hx_3 o_3 => ?_) (fun v_3 H3_3 hq_3 o_3 => ?_)
  · rcases hx_3 with hx9 | hx9
    · obtain ⟨rfl, hc⟩ := hx9
      refine VX_catch Z (pre := []) (x := ⟨0, 6, 7, 20⟩) (suf := [⟨0, 6, 11, 36⟩]) (htab.trans rfl) (fun z hz => nomatch hz) (by decide) (by decide) (by decide) (tm 650 (by decide +kernel) (by decide +kernel)) (by decide +kernel) rfl (fun q9 => ?_)
      refine V_astore_n Y.1 (ls' := [(3, _), (0, _), (1, _), (2, _)]) dL_chargeIf_7 (rfl : _ = 8) rfl (by decide) rfl ?_
      refine V_bipush Y.1 (v := -11) dL_chargeIf_8 (rfl : _ = 10) (by decide) ?_
      exact V_ret Y.1 dL_chargeIf_10 rfl (Nat.le_of_ble_eq_true rfl) (Nat.le_of_ble_eq_true rfl) ⟨(if_pos hc).symm, fun z => absurd hc z⟩
    · obtain ⟨rfl, hc⟩ := hx9
      have hd1 : ¬ (b_st y = 0 ∨ b_card (W (π 0)) x = 0) := (fun z => z.elim hc.1 hc.2.1)
      have hd2 : (m_c (W (π 0)) x).1 2 = 0 := hc.2.2
      refine VX_catch Z (pre := [⟨0, 6, 7, 20⟩]) (x := ⟨0, 6, 11, 36⟩) (suf := []) (htab.trans rfl) (fun z hz => by obtain rfl := List.mem_singleton.mp hz; exact Or.inr ⟨by decide, "java/lang/IndexOutOfBoundsException", (tm 650 (by decide +kernel) (by decide +kernel)), by decide, by decide⟩) (by decide) (by decide) (by decide) (tm 767 (by decide +kernel) (by decide +kernel)) (by decide +kernel) rfl (fun q9 => ?_)
      refine V_astore_n Y.1 (ls' := [(3, _), (0, _), (1, _), (2, _)]) dL_chargeIf_11 (rfl : _ = 12) rfl (by decide) rfl ?_
      refine V_bipush Y.1 (v := -13) dL_chargeIf_12 (rfl : _ = 14) (by decide) ?_
      exact V_ret Y.1 dL_chargeIf_14 rfl (Nat.le_of_ble_eq_true rfl) (Nat.le_of_ble_eq_true rfl) ⟨((if_neg hd1).trans (if_pos hd2)).symm, fun _ z => absurd hd2 z⟩
  exact V_ret Y.1 dL_chargeIf_6 rfl (Nat.le_of_ble_eq_true rfl) (Nat.le_of_ble_eq_true rfl) ⟨((if_neg (by first | exact hq_3.2.2 | exact hq_3.2.2.1 | exact fun z => z.elim hq_3.2.2.1 hq_3.2.2.2 | exact fun z => z.elim hq_3.2.2.1 hq_3.2.2.2.1 | exact fun z => z.elim (fun z => hq_3.2.2.1 z) (fun z => z hq_3.2.2.2))).trans ((if_neg (by first | exact hq_3.2.2.2 | exact hq_3.2.2.2.2)).trans hq_3.1.symm)).symm, fun _ _ => hq_3.2.1⟩

set_option maxRecDepth 100000 in
set_option maxHeartbeats 4000000 in
theorem c_L_chargedOn (l : Launch) (D : va_G) (kA : Nat → ClassId) (Hs : Heap) (σ : SG) (H0 : Heap) (hg : Ag Hs H0) (a : Nat) (M : MS) (s : Nat → Int32) (n t q u : Nat) (p : Nat → Nat → Int32) (no : Nat) (go : Nat → Int32) (ns : Nat) (X : Nat → Prop) (x y : Int32) (hJ : Lw D kA Hs H0 a M s n t q u p no go ns X) (hnt : l.stackTraces = false) : CtW l D kA Hs σ yL_chargedOn cL_chargedOn 4 (some .int) [(0, 6, 7, 20), (0, 6, 11, 22)] 10 164 4 24 H0 [.ref a, .int x, .int y] (nof) (pI fun k9 H9 => k9 = (if b_card M x = 0 then -11 else if (y < 0 ∨ nI (t / 1440) < y ∨ ¬ nI (t / 1440) - 2 ≤ y) then -12 else k_sumOf (m_c M x) y.toNatClampNeg) ∧ (¬ b_card M x = 0 → ¬ (y < 0 ∨ nI (t / 1440) < y ∨ ¬ nI (t / 1440) - 2 ≤ y) → H9 = H0)) := by
  refine CtW.of mh_L_chargedOn (Nat.le_of_ble_eq_true rfl) (ls0 := [(0, _), (1, _), (2, _)]) rfl hg (fun _ z => z.elim) ?_
  intro Pp Ee Ss Mm Ar Bl Me Cc Z hsH htab
  have Y := Z.1
  obtain ⟨W, π, ES, ep, fc, vs, cs, gs, tt, hF, rfl, hS, hH, -, hba, hou, hsc, hX⟩ := id hJ
  refine V_aload_n Y.1 0 dL_chargedOn_0 (rfl : _ = 1) rfl rfl ?_
  refine V_iload_n Y.1 1 dL_chargedOn_1 (rfl : _ = 2) rfl rfl ?_
  refine V_iload_n Y.1 2 dL_chargedOn_2 (rfl : _ = 3) rfl rfl ?_
  refine V_xI Y (sxV Z (c_X5_chargedOn l D kA Hs σ _ hg a W π ES u 0 ep fc no go vs cs ns gs x y (t / 1440) hS.1.1.day (by have := hS.1.1.t30; omega) hF hnt) mi_X5_chargedOn vi_L_91 rfl hF.1.1 rfl rfl (Nat.le_of_ble_eq_true rfl) ⟨Nat.le_of_ble_eq_true rfl, Nat.le_of_ble_eq_true rfl⟩ (Nat.le_of_ble_eq_true rfl) (Nat.le_of_ble_eq_true rfl) dL_chargedOn_3) (fun _ z => z.elim) (rfl : _ = 6) (fun E_3 H3_3 hx_3 o_3 => ?_) (fun v_3 H3_3 hq_3 o_3 => ?_)
  · rcases hx_3 with hx9 | hx9
    · obtain ⟨rfl, hc⟩ := hx9
      refine VX_catch Z (pre := []) (x := ⟨0, 6, 7, 20⟩) (suf := [⟨0, 6, 11, 22⟩]) (htab.trans rfl) (fun z hz => nomatch hz) (by decide) (by decide) (by decide) (tm 650 (by decide +kernel) (by decide +kernel)) (by decide +kernel) rfl (fun q9 => ?_)
      refine V_astore_n Y.1 (ls' := [(3, _), (0, _), (1, _), (2, _)]) dL_chargedOn_7 (rfl : _ = 8) rfl (by decide) rfl ?_
      refine V_bipush Y.1 (v := -11) dL_chargedOn_8 (rfl : _ = 10) (by decide) ?_
      exact V_ret Y.1 dL_chargedOn_10 rfl (Nat.le_of_ble_eq_true rfl) (Nat.le_of_ble_eq_true rfl) ⟨(if_pos hc).symm, fun z => absurd hc z⟩
    · obtain ⟨rfl, hc⟩ := hx9
      have hd1 : ¬ b_card (W (π 0)) x = 0 := hc.1
      have hd2 : (y < 0 ∨ nI (t / 1440) < y ∨ ¬ nI (t / 1440) - 2 ≤ y) := hc.2
      refine VX_catch Z (pre := [⟨0, 6, 7, 20⟩]) (x := ⟨0, 6, 11, 22⟩) (suf := []) (htab.trans rfl) (fun z hz => by obtain rfl := List.mem_singleton.mp hz; exact Or.inr ⟨by decide, "java/lang/IndexOutOfBoundsException", (tm 650 (by decide +kernel) (by decide +kernel)), by decide, by decide⟩) (by decide) (by decide) (by decide) (tm 671 (by decide +kernel) (by decide +kernel)) (by decide +kernel) rfl (fun q9 => ?_)
      refine V_astore_n Y.1 (ls' := [(3, _), (0, _), (1, _), (2, _)]) dL_chargedOn_11 (rfl : _ = 12) rfl (by decide) rfl ?_
      refine V_bipush Y.1 (v := -12) dL_chargedOn_12 (rfl : _ = 14) (by decide) ?_
      exact V_ret Y.1 dL_chargedOn_14 rfl (Nat.le_of_ble_eq_true rfl) (Nat.le_of_ble_eq_true rfl) ⟨((if_neg hd1).trans (if_pos hd2)).symm, fun _ z => absurd hd2 z⟩
  exact V_ret Y.1 dL_chargedOn_6 rfl (Nat.le_of_ble_eq_true rfl) (Nat.le_of_ble_eq_true rfl) ⟨((if_neg (by first | exact hq_3.2.2 | exact hq_3.2.2.1 | exact fun z => z.elim hq_3.2.2.1 hq_3.2.2.2 | exact fun z => z.elim hq_3.2.2.1 hq_3.2.2.2.1 | exact fun z => z.elim (fun z => hq_3.2.2.1 z) (fun z => z hq_3.2.2.2))).trans ((if_neg (by first | exact hq_3.2.2.2 | exact hq_3.2.2.2.2)).trans hq_3.1.symm)).symm, fun _ _ => hq_3.2.1⟩

set_option maxRecDepth 100000 in
set_option maxHeartbeats 4000000 in
theorem c_L_byRecords (l : Launch) (D : va_G) (kA : Nat → ClassId) (Hs : Heap) (σ : SG) (H0 : Heap) (hg : Ag Hs H0) (a : Nat) (M : MS) (s : Nat → Int32) (n t q u : Nat) (p : Nat → Nat → Int32) (no : Nat) (go : Nat → Int32) (ns : Nat) (X : Nat → Prop) (x y : Int32) (hJ : Lw D kA Hs H0 a M s n t q u p no go ns X) (hnt : l.stackTraces = false) : CtW l D kA Hs σ yL_byRecords cL_byRecords 4 (some .int) [(0, 6, 7, 20), (0, 6, 11, 22)] 10 164 4 24 H0 [.ref a, .int x, .int y] (nof) (pI fun k9 H9 => k9 = (if b_card M x = 0 then -11 else if (y < 0 ∨ nI (t / 1440) < y ∨ ¬ nI (t / 1440) - 2 ≤ y) then -12 else k_recs y (M.2.2.2.2 x.toNatClampNeg) 0) ∧ (¬ b_card M x = 0 → ¬ (y < 0 ∨ nI (t / 1440) < y ∨ ¬ nI (t / 1440) - 2 ≤ y) → H9 = H0)) := by
  refine CtW.of mh_L_byRecords (Nat.le_of_ble_eq_true rfl) (ls0 := [(0, _), (1, _), (2, _)]) rfl hg (fun _ z => z.elim) ?_
  intro Pp Ee Ss Mm Ar Bl Me Cc Z hsH htab
  have Y := Z.1
  obtain ⟨W, π, ES, ep, fc, vs, cs, gs, tt, hF, rfl, hS, hH, -, hba, hou, hsc, hX⟩ := id hJ
  refine V_aload_n Y.1 0 dL_byRecords_0 (rfl : _ = 1) rfl rfl ?_
  refine V_iload_n Y.1 1 dL_byRecords_1 (rfl : _ = 2) rfl rfl ?_
  refine V_iload_n Y.1 2 dL_byRecords_2 (rfl : _ = 3) rfl rfl ?_
  refine V_xI Y (sxV Z (c_X5_chargedOnByRecords l D kA Hs σ _ hg a W π ES u 0 ep fc no go vs cs ns gs x y (t / 1440) hS.1.1.day (by have := hS.1.1.t30; omega) hF hnt) mi_X5_chargedOnByRecords vi_L_94 rfl hF.1.1 rfl rfl (Nat.le_of_ble_eq_true rfl) ⟨Nat.le_of_ble_eq_true rfl, Nat.le_of_ble_eq_true rfl⟩ (Nat.le_of_ble_eq_true rfl) (Nat.le_of_ble_eq_true rfl) dL_byRecords_3) (fun _ z => z.elim) (rfl : _ = 6) (fun E_3 H3_3 hx_3 o_3 => ?_) (fun v_3 H3_3 hq_3 o_3 => ?_)
  · rcases hx_3 with hx9 | hx9
    · obtain ⟨rfl, hc⟩ := hx9
      refine VX_catch Z (pre := []) (x := ⟨0, 6, 7, 20⟩) (suf := [⟨0, 6, 11, 22⟩]) (htab.trans rfl) (fun z hz => nomatch hz) (by decide) (by decide) (by decide) (tm 650 (by decide +kernel) (by decide +kernel)) (by decide +kernel) rfl (fun q9 => ?_)
      refine V_astore_n Y.1 (ls' := [(3, _), (0, _), (1, _), (2, _)]) dL_byRecords_7 (rfl : _ = 8) rfl (by decide) rfl ?_
      refine V_bipush Y.1 (v := -11) dL_byRecords_8 (rfl : _ = 10) (by decide) ?_
      exact V_ret Y.1 dL_byRecords_10 rfl (Nat.le_of_ble_eq_true rfl) (Nat.le_of_ble_eq_true rfl) ⟨(if_pos hc).symm, fun z => absurd hc z⟩
    · obtain ⟨rfl, hc⟩ := hx9
      have hd1 : ¬ b_card (W (π 0)) x = 0 := hc.1
      have hd2 : (y < 0 ∨ nI (t / 1440) < y ∨ ¬ nI (t / 1440) - 2 ≤ y) := hc.2
      refine VX_catch Z (pre := [⟨0, 6, 7, 20⟩]) (x := ⟨0, 6, 11, 22⟩) (suf := []) (htab.trans rfl) (fun z hz => by obtain rfl := List.mem_singleton.mp hz; exact Or.inr ⟨by decide, "java/lang/IndexOutOfBoundsException", (tm 650 (by decide +kernel) (by decide +kernel)), by decide, by decide⟩) (by decide) (by decide) (by decide) (tm 671 (by decide +kernel) (by decide +kernel)) (by decide +kernel) rfl (fun q9 => ?_)
      refine V_astore_n Y.1 (ls' := [(3, _), (0, _), (1, _), (2, _)]) dL_byRecords_11 (rfl : _ = 12) rfl (by decide) rfl ?_
      refine V_bipush Y.1 (v := -12) dL_byRecords_12 (rfl : _ = 14) (by decide) ?_
      exact V_ret Y.1 dL_byRecords_14 rfl (Nat.le_of_ble_eq_true rfl) (Nat.le_of_ble_eq_true rfl) ⟨((if_neg hd1).trans (if_pos hd2)).symm, fun _ z => absurd hd2 z⟩
  exact V_ret Y.1 dL_byRecords_6 rfl (Nat.le_of_ble_eq_true rfl) (Nat.le_of_ble_eq_true rfl) ⟨((if_neg (by first | exact hq_3.2.2 | exact hq_3.2.2.1 | exact fun z => z.elim hq_3.2.2.1 hq_3.2.2.2 | exact fun z => z.elim hq_3.2.2.1 hq_3.2.2.2.1 | exact fun z => z.elim (fun z => hq_3.2.2.1 z) (fun z => z hq_3.2.2.2))).trans ((if_neg (by first | exact hq_3.2.2.2 | exact hq_3.2.2.2.2)).trans hq_3.1.symm)).symm, fun _ _ => hq_3.2.1⟩

set_option maxRecDepth 100000 in
set_option maxHeartbeats 4000000 in
theorem c_L_left (l : Launch) (D : va_G) (kA : Nat → ClassId) (Hs : Heap) (σ : SG) (H0 : Heap) (hg : Ag Hs H0) (a : Nat) (M : MS) (s : Nat → Int32) (n t q u : Nat) (p : Nat → Nat → Int32) (no : Nat) (go : Nat → Int32) (ns : Nat) (X : Nat → Prop) (x : Int32) (hJ : Lw D kA Hs H0 a M s n t q u p no go ns X) (hnt : l.stackTraces = false) : CtW l D kA Hs σ yL_left cL_left 3 (some .int) [(0, 5, 6, 20)] 10 162 4 24 H0 [.ref a, .int x] (nof) (pI fun k9 H9 => k9 = (if b_card M x = 0 then -11 else k_left (m_c M x) (t / 1440)) ∧ (¬ b_card M x = 0 → H9 = H0)) := by
  refine CtW.of mh_L_left (Nat.le_of_ble_eq_true rfl) (ls0 := [(0, _), (1, _)]) rfl hg (fun _ z => z.elim) ?_
  intro Pp Ee Ss Mm Ar Bl Me Cc Z hsH htab
  have Y := Z.1
  obtain ⟨W, π, ES, ep, fc, vs, cs, gs, tt, hF, rfl, hS, hH, -, hba, hou, hsc, hX⟩ := id hJ
  refine V_aload_n Y.1 0 dL_left_0 (rfl : _ = 1) rfl rfl ?_
  refine V_iload_n Y.1 1 dL_left_1 (rfl : _ = 2) rfl rfl ?_
  refine V_xI Y (sxV Z (c_X5_leftUnderCap l D kA Hs σ _ hg a W π ES u 0 ep fc no go vs cs ns gs x (t / 1440) hS.1.1.day (by have := hS.1.1.t30; omega) hF hnt) mi_X5_leftUnderCap vi_L_97 rfl hF.1.1 rfl rfl (Nat.le_of_ble_eq_true rfl) ⟨Nat.le_of_ble_eq_true rfl, Nat.le_of_ble_eq_true rfl⟩ (Nat.le_of_ble_eq_true rfl) (Nat.le_of_ble_eq_true rfl) dL_left_2) (fun _ z => z.elim) (rfl : _ = 5) (fun E_2 H2_2 hx_2 o_2 => ?_) (fun v_2 H2_2 hq_2 o_2 => ?_)
  · obtain ⟨rfl, hc⟩ := hx_2
    refine VX_catch Z (pre := []) (x := ⟨0, 5, 6, 20⟩) (suf := []) (htab.trans rfl) (fun z hz => nomatch hz) (by decide) (by decide) (by decide) (tm 650 (by decide +kernel) (by decide +kernel)) (by decide +kernel) rfl (fun q9 => ?_)
    refine V_astore_n Y.1 (ls' := [(2, _), (0, _), (1, _)]) dL_left_6 (rfl : _ = 7) rfl (by decide) rfl ?_
    refine V_bipush Y.1 (v := -11) dL_left_7 (rfl : _ = 9) (by decide) ?_
    exact V_ret Y.1 dL_left_9 rfl (Nat.le_of_ble_eq_true rfl) (Nat.le_of_ble_eq_true rfl) ⟨(if_pos hc).symm, fun z => absurd hc z⟩
  exact V_ret Y.1 dL_left_5 rfl (Nat.le_of_ble_eq_true rfl) (Nat.le_of_ble_eq_true rfl) ⟨((if_neg (by first | exact hq_2.2.2 | exact hq_2.2.2.1 | exact fun z => z.elim hq_2.2.2.1 hq_2.2.2.2 | exact fun z => z.elim hq_2.2.2.1 hq_2.2.2.2.1 | exact fun z => z.elim (fun z => hq_2.2.2.1 z) (fun z => z hq_2.2.2.2))).trans hq_2.1.symm).symm, fun _ => hq_2.2.1⟩

set_option maxRecDepth 100000 in
set_option maxHeartbeats 4000000 in
theorem c_L_isRepairable (l : Launch) (D : va_G) (kA : Nat → ClassId) (Hs : Heap) (σ : SG) (H0 : Heap) (hg : Ag Hs H0) (a : Nat) (M : MS) (s : Nat → Int32) (n t q u : Nat) (p : Nat → Nat → Int32) (no : Nat) (go : Nat → Int32) (ns : Nat) (X : Nat → Prop) (x : Int32) (hJ : Lw D kA Hs H0 a M s n t q u p no go ns X) (hnt : l.stackTraces = false) : CtW l D kA Hs σ yL_isRepairable cL_isRepairable 3 (some .int) [(0, 13, 14, 20)] 10 162 4 24 H0 [.ref a, .int x] (nof) (pI fun k9 H9 => k9 = (if b_card M x = 0 then -11 else (if (if (m_c M x).1 10 = 0 then 0 else m_rep M x) = 0 then 0 else 1)) ∧ (¬ b_card M x = 0 → H9 = H0)) := by
  refine CtW.of mh_L_isRepairable (Nat.le_of_ble_eq_true rfl) (ls0 := [(0, _), (1, _)]) rfl hg (fun _ z => z.elim) ?_
  intro Pp Ee Ss Mm Ar Bl Me Cc Z hsH htab
  have Y := Z.1
  obtain ⟨W, π, ES, ep, fc, vs, cs, gs, tt, hF, rfl, hS, hH, -, hba, hou, hsc, hX⟩ := id hJ
  refine V_aload_n Y.1 0 dL_isRepairable_0 (rfl : _ = 1) rfl rfl ?_
  refine V_iload_n Y.1 1 dL_isRepairable_1 (rfl : _ = 2) rfl rfl ?_
  refine V_xI Y (sxV Z (c_X5_isRepairable l D kA Hs σ _ hg a W π ES u 0 ep fc no go vs cs ns gs x hF hnt) mi_X5_isRepairable vi_L_100 rfl hF.1.1 rfl rfl (Nat.le_of_ble_eq_true rfl) ⟨Nat.le_of_ble_eq_true rfl, Nat.le_of_ble_eq_true rfl⟩ (Nat.le_of_ble_eq_true rfl) (Nat.le_of_ble_eq_true rfl) dL_isRepairable_2) (fun _ z => z.elim) (rfl : _ = 5) (fun E_2 H2_2 hx_2 o_2 => ?_) (fun v_2 H2_2 hq_2 o_2 => ?_)
  · obtain ⟨rfl, hc⟩ := hx_2
    refine VX_catch Z (pre := []) (x := ⟨0, 13, 14, 20⟩) (suf := []) (htab.trans rfl) (fun z hz => nomatch hz) (by decide) (by decide) (by decide) (tm 650 (by decide +kernel) (by decide +kernel)) (by decide +kernel) rfl (fun q9 => ?_)
    refine V_astore_n Y.1 (ls' := [(2, _), (0, _), (1, _)]) dL_isRepairable_14 (rfl : _ = 15) rfl (by decide) rfl ?_
    refine V_bipush Y.1 (v := -11) dL_isRepairable_15 (rfl : _ = 17) (by decide) ?_
    exact V_ret Y.1 dL_isRepairable_17 rfl (Nat.le_of_ble_eq_true rfl) (Nat.le_of_ble_eq_true rfl) ⟨(if_pos hc).symm, fun z => absurd hc z⟩
  refine V_if_eq Y.1 (tgt := 12) dL_isRepairable_5 (by decide) (rfl : _ = 8) (fun c_5 => ?_) (fun c_5 => ?_)
  · refine V_iconst Y.1 (v := 0) dL_isRepairable_12 (rfl : _ = 13) (by decide) ?_
    exact V_ret Y.1 dL_isRepairable_13 rfl (Nat.le_of_ble_eq_true rfl) (Nat.le_of_ble_eq_true rfl) ⟨(by rw [if_neg (show ¬ b_card (W (π 0)) x = 0 from (by first | exact hq_2.2.2 | exact hq_2.2.2.1 | exact fun z => z.elim hq_2.2.2.1 hq_2.2.2.2 | exact fun z => z.elim hq_2.2.2.1 hq_2.2.2.2.1 | exact fun z => z.elim (fun z => hq_2.2.2.1 z) (fun z => z hq_2.2.2.2))), ← hq_2.1]; first | exact (if_pos ‹_›).symm | exact (if_neg ‹_›).symm), fun _ => hq_2.2.1⟩
  · refine V_iconst Y.1 (v := 1) dL_isRepairable_8 (rfl : _ = 9) (by decide) ?_
    refine V_goto Y.1 (tgt := 13) dL_isRepairable_9 (by decide) ?_
    exact V_ret Y.1 dL_isRepairable_13 rfl (Nat.le_of_ble_eq_true rfl) (Nat.le_of_ble_eq_true rfl) ⟨(by rw [if_neg (show ¬ b_card (W (π 0)) x = 0 from (by first | exact hq_2.2.2 | exact hq_2.2.2.1 | exact fun z => z.elim hq_2.2.2.1 hq_2.2.2.2 | exact fun z => z.elim hq_2.2.2.1 hq_2.2.2.2.1 | exact fun z => z.elim (fun z => hq_2.2.2.1 z) (fun z => z hq_2.2.2.2))), ← hq_2.1]; first | exact (if_pos ‹_›).symm | exact (if_neg ‹_›).symm), fun _ => hq_2.2.1⟩

set_option maxRecDepth 100000 in
set_option maxHeartbeats 4000000 in
theorem c_L_byTaps (l : Launch) (D : va_G) (kA : Nat → ClassId) (Hs : Heap) (σ : SG) (H0 : Heap) (hg : Ag Hs H0) (a : Nat) (M : MS) (s : Nat → Int32) (n t q u : Nat) (p : Nat → Nat → Int32) (no : Nat) (go : Nat → Int32) (ns : Nat) (X : Nat → Prop) (x : Int32) (hJ : Lw D kA Hs H0 a M s n t q u p no go ns X) (hnt : l.stackTraces = false) : CtW l D kA Hs σ yL_byTaps cL_byTaps 3 (some .int) [(0, 5, 6, 36)] 9 142 4 24 H0 [.ref a, .int x] (nof) (pI fun k9 H9 => (H9 = H0 ∧ ∃ i, i < 12 ∧ k9 = nI i ∧ nI (ln_rk M.2.2.1 i 12) = x) ∨ (k9 = -13 ∧ ∀ j, j < 12 → ¬ nI (ln_rk M.2.2.1 j 12) = x)) := by
  refine CtW.of mh_L_byTaps (Nat.le_of_ble_eq_true rfl) (ls0 := [(0, _), (1, _)]) rfl hg (fun _ z => z.elim) ?_
  intro Pp Ee Ss Mm Ar Bl Me Cc Z hsH htab
  have Y := Z.1
  obtain ⟨W, π, ES, ep, fc, vs, cs, gs, tt, hF, rfl, hS, hH, -, hba, hou, hsc, hX⟩ := id hJ
  refine V_aload_n Y.1 0 dL_byTaps_0 (rfl : _ = 1) rfl rfl ?_
  refine V_iload_n Y.1 1 dL_byTaps_1 (rfl : _ = 2) rfl rfl ?_
  refine V_xI Y (sxV Z (c_X5_stationByTaps l D kA Hs σ _ hg a W π ES u 0 ep fc no go vs cs ns gs x hF hnt) mi_X5_stationByTaps vi_L_63 rfl hF.1.1 rfl rfl (Nat.le_of_ble_eq_true rfl) ⟨Nat.le_of_ble_eq_true rfl, Nat.le_of_ble_eq_true rfl⟩ (Nat.le_of_ble_eq_true rfl) (Nat.le_of_ble_eq_true rfl) dL_byTaps_2) (fun _ z => z.elim) (rfl : _ = 5) (fun E_2 H2_2 hx_2 o_2 => ?_) (fun v_2 H2_2 hq_2 o_2 => ?_)
  · obtain ⟨rfl, hc⟩ := hx_2
    refine VX_catch Z (pre := []) (x := ⟨0, 5, 6, 36⟩) (suf := []) (htab.trans rfl) (fun z hz => nomatch hz) (by decide) (by decide) (by decide) (tm 767 (by decide +kernel) (by decide +kernel)) (by decide +kernel) rfl (fun q9 => ?_)
    refine V_astore_n Y.1 (ls' := [(2, _), (0, _), (1, _)]) dL_byTaps_6 (rfl : _ = 7) rfl (by decide) rfl ?_
    refine V_bipush Y.1 (v := -13) dL_byTaps_7 (rfl : _ = 9) (by decide) ?_
    exact V_ret Y.1 dL_byTaps_9 rfl (Nat.le_of_ble_eq_true rfl) (Nat.le_of_ble_eq_true rfl) (Or.inr ⟨rfl, hc⟩)
  exact V_ret Y.1 dL_byTaps_5 rfl (Nat.le_of_ble_eq_true rfl) (Nat.le_of_ble_eq_true rfl) (by obtain ⟨hh9, i9, hi9, e9, r9, -⟩ := hq_2; exact Or.inl ⟨hh9, i9, hi9, e9, r9⟩)

set_option maxRecDepth 100000 in
set_option maxHeartbeats 4000000 in
theorem c_L_bySpending (l : Launch) (D : va_G) (kA : Nat → ClassId) (Hs : Heap) (σ : SG) (H0 : Heap) (hg : Ag Hs H0) (a : Nat) (M : MS) (s : Nat → Int32) (n t q u : Nat) (p : Nat → Nat → Int32) (no : Nat) (go : Nat → Int32) (ns : Nat) (X : Nat → Prop) (x : Int32) (hJ : Lw D kA Hs H0 a M s n t q u p no go ns X) (hnt : l.stackTraces = false) : CtW l D kA Hs σ yL_bySpending cL_bySpending 3 (some .int) [(0, 5, 6, 36)] 9 142 4 24 H0 [.ref a, .int x] (nof) (pI fun k9 H9 => (H9 = H0 ∧ ∃ i, i < n ∧ k9 = nI i ∧ nI (m_rk M (t / 1440) i n) = x) ∨ (k9 = -13 ∧ ∀ j, j < n → ¬ nI (m_rk M (t / 1440) j n) = x)) := by
  refine CtW.of mh_L_bySpending (Nat.le_of_ble_eq_true rfl) (ls0 := [(0, _), (1, _)]) rfl hg (fun _ z => z.elim) ?_
  intro Pp Ee Ss Mm Ar Bl Me Cc Z hsH htab
  have Y := Z.1
  obtain ⟨W, π, ES, ep, fc, vs, cs, gs, tt, hF, rfl, hS, hH, -, hba, hou, hsc, hX⟩ := id hJ
  refine V_aload_n Y.1 0 dL_bySpending_0 (rfl : _ = 1) rfl rfl ?_
  refine V_iload_n Y.1 1 dL_bySpending_1 (rfl : _ = 2) rfl rfl ?_
  refine V_xI Y (sxV Z (c_X5_cardBySpending l D kA Hs σ _ hg a W π ES u 0 ep fc no go vs cs ns gs x n (hS.1.1.2.1.1.trans hS.1.1.1.1) hS.1.1.1.2.1 (t / 1440) hS.1.1.day (by have := hS.1.1.t30; omega) hF hnt) mi_X5_cardBySpending vi_L_103 rfl hF.1.1 rfl rfl (Nat.le_of_ble_eq_true rfl) ⟨Nat.le_of_ble_eq_true rfl, Nat.le_of_ble_eq_true rfl⟩ (Nat.le_of_ble_eq_true rfl) (Nat.le_of_ble_eq_true rfl) dL_bySpending_2) (fun _ z => z.elim) (rfl : _ = 5) (fun E_2 H2_2 hx_2 o_2 => ?_) (fun v_2 H2_2 hq_2 o_2 => ?_)
  · obtain ⟨rfl, hc⟩ := hx_2
    refine VX_catch Z (pre := []) (x := ⟨0, 5, 6, 36⟩) (suf := []) (htab.trans rfl) (fun z hz => nomatch hz) (by decide) (by decide) (by decide) (tm 767 (by decide +kernel) (by decide +kernel)) (by decide +kernel) rfl (fun q9 => ?_)
    refine V_astore_n Y.1 (ls' := [(2, _), (0, _), (1, _)]) dL_bySpending_6 (rfl : _ = 7) rfl (by decide) rfl ?_
    refine V_bipush Y.1 (v := -13) dL_bySpending_7 (rfl : _ = 9) (by decide) ?_
    exact V_ret Y.1 dL_bySpending_9 rfl (Nat.le_of_ble_eq_true rfl) (Nat.le_of_ble_eq_true rfl) (Or.inr ⟨rfl, hc⟩)
  exact V_ret Y.1 dL_bySpending_5 rfl (Nat.le_of_ble_eq_true rfl) (Nat.le_of_ble_eq_true rfl) (by obtain ⟨hh9, i9, hi9, e9, r9, -⟩ := hq_2; exact Or.inl ⟨hh9, i9, hi9, e9, r9⟩)

set_option maxRecDepth 100000 in
set_option maxHeartbeats 4000000 in
theorem c_L_outputAt (l : Launch) (D : va_G) (kA : Nat → ClassId) (Hs : Heap) (σ : SG) (H0 : Heap) (hg : Ag Hs H0) (a : Nat) (M : MS) (s : Nat → Int32) (n t q u : Nat) (p : Nat → Nat → Int32) (no : Nat) (go : Nat → Int32) (ns : Nat) (X : Nat → Prop) (x : Int32) (hJ : Lw D kA Hs H0 a M s n t q u p no go ns X) (hnt : l.stackTraces = false) : CtW l D kA Hs σ yL_outputAt cL_outputAt 3 (some .int) [(0, 5, 6, 20)] 9 141 4 24 H0 [.ref a, .int x] (nof) (pI fun k9 H9 => k9 = (if (x < 0 ∨ ¬ x < nI no) then -11 else go x.toNatClampNeg) ∧ (¬ (x < 0 ∨ ¬ x < nI no) → H9 = H0)) := by
  refine CtW.of mh_L_outputAt (Nat.le_of_ble_eq_true rfl) (ls0 := [(0, _), (1, _)]) rfl hg (fun _ z => z.elim) ?_
  intro Pp Ee Ss Mm Ar Bl Me Cc Z hsH htab
  have Y := Z.1
  obtain ⟨W, π, ES, ep, fc, vs, cs, gs, tt, hF, rfl, hS, hH, -, hba, hou, hsc, hX⟩ := id hJ
  refine V_aload_n Y.1 0 dL_outputAt_0 (rfl : _ = 1) rfl rfl ?_
  refine V_iload_n Y.1 1 dL_outputAt_1 (rfl : _ = 2) rfl rfl ?_
  refine V_xI Y (sxV Z (c_X5_outputAt l D kA Hs σ _ hg a W π ES u 0 ep fc no go vs cs ns gs x hF hnt hou.2) mi_X5_outputAt vi_L_109 rfl hF.1.1 rfl rfl (Nat.le_of_ble_eq_true rfl) ⟨Nat.le_of_ble_eq_true rfl, Nat.le_of_ble_eq_true rfl⟩ (Nat.le_of_ble_eq_true rfl) (Nat.le_of_ble_eq_true rfl) dL_outputAt_2) (fun _ z => z.elim) (rfl : _ = 5) (fun E_2 H2_2 hx_2 o_2 => ?_) (fun v_2 H2_2 hq_2 o_2 => ?_)
  · obtain ⟨rfl, hc⟩ := hx_2
    refine VX_catch Z (pre := []) (x := ⟨0, 5, 6, 20⟩) (suf := []) (htab.trans rfl) (fun z hz => nomatch hz) (by decide) (by decide) (by decide) (tm 650 (by decide +kernel) (by decide +kernel)) (by decide +kernel) rfl (fun q9 => ?_)
    refine V_astore_n Y.1 (ls' := [(2, _), (0, _), (1, _)]) dL_outputAt_6 (rfl : _ = 7) rfl (by decide) rfl ?_
    refine V_bipush Y.1 (v := -11) dL_outputAt_7 (rfl : _ = 9) (by decide) ?_
    exact V_ret Y.1 dL_outputAt_9 rfl (Nat.le_of_ble_eq_true rfl) (Nat.le_of_ble_eq_true rfl) ⟨(if_pos hc).symm, fun z => absurd hc z⟩
  exact V_ret Y.1 dL_outputAt_5 rfl (Nat.le_of_ble_eq_true rfl) (Nat.le_of_ble_eq_true rfl) ⟨((if_neg (by first | exact hq_2.2.2 | exact hq_2.2.2.1 | exact fun z => z.elim hq_2.2.2.1 hq_2.2.2.2 | exact fun z => z.elim hq_2.2.2.1 hq_2.2.2.2.1 | exact fun z => z.elim (fun z => hq_2.2.2.1 z) (fun z => z hq_2.2.2.2))).trans hq_2.1.symm).symm, fun _ => hq_2.2.1⟩

