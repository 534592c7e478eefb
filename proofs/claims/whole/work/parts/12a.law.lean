/-! The law's own methods: bodies with handlers. -/
theorem Met.ofWH {l : Launch} {y : MethodName} {ws ws' : List Cond} {rm : Room} {Pc : Array Value → State → Prop} {Qc : Array Value → State → Outcome → State → Prop} {mc ms : Nat} {free : Addr → Prop} {cc : ByteArray} {maxL : Nat} {ret : Option FieldType} {hh : List (Nat × Nat × Nat × Nat)}
    (hy : plainFor y = true) (hw : ws = Cond.codeWith y cc maxL ret hh :: ws')
    (body : ∀ p e s m args below meth c s₁, BodyLoose p l y (headSpec ws rm) cc maxL ret e s m args below meth c s₁ → c.maxLocals = maxL → Pc args s →
      W p l e (headSpec ws rm).room s m args below meth c s.heap [] 0 0 (MQ below Qc args s mc ms free) (entryFrame m args maxL)) : Met l y ws rm Pc Qc mc ms free := by
  refine MetFree.of_bodySF (code := cc) (maxLocals := maxL) (ret := ret) hy ?_ ?_
  · intro args s m h hn
    obtain ⟨m9, meth, c, hn9, h1, h2, h3, h4, -, h5, h6, -⟩ := Cond.codeWith_spec (atoms_spec (ws := ws) h _ (by rw [hw]; exact List.mem_cons_self))
    cases hn.symm.trans hn9
    exact ⟨meth, c, h1, h2, h3, h4, h5, h6⟩
  · intro p e s m args below meth c s₁ B hml hP _
    have hh0 : s₁.heap = s.heap := by rw [B.state]; rfl
    obtain ⟨t, a1, o, b1, b2, b3⟩ := body p e s m args below meth c s₁ B hml hP s₁ hh0 (Stand.of_body B)
    exact ⟨t, o, a1, b1, b2, ⟨b3.1, b3.2⟩⟩
def Mw (y : MethodName) (cc : ByteArray) (mL : Nat) (ret : Option FieldType) (hh : List (Nat × Nat × Nat × Nat)) (n : Nat) : Prop := Cond.codeWith y cc mL ret hh ∈ T0 ∧ Cond.initialized y.cls ∈ T0 ∧ plainFor y = true ∧ (y.cls ≠ "java/lang/invoke/MethodHandle" ∧ y.cls ≠ "java/lang/invoke/VarHandle") ∧ (parseMethodDescriptor y.desc).map (fun d => d.parameters.length) = some n
def CtW (l : Launch) (D : va_G) (kA : Nat → ClassId) (Hs : Heap) (σ : SG) (y : MethodName) (cc : ByteArray) (mL : Nat) (ret : Option FieldType) (hh : List (Nat × Nat × Nat × Nat)) (fr lc mc ms : Nat) (H0 : Heap) (av : List Value) (A : Nat → Prop) (Post : Option Value → Heap → Prop) : Prop :=
  Met l y (.codeWith y cc mL ret hh :: T0) (rmO fr lc mc ms) (qPreS D kA Hs σ H0 av) (qPost H0 A Post) mc ms (AA H0 A)
section VLW
variable {p : Program} {l : Launch} {e : Env} {R : Room} {s : State} {m : MethodId} {args : Array Value} {below : List Frame} {meth : Method} {c : Code} {nL : Nat} {A A1 : Nat → Prop} {Q : State → Prop} {H : Heap} {k n pc pc' : Nat} {ls : List (Nat × Value)} {st rest : List Value}
variable {cc : ByteArray} {own : String} {D : va_G} {kA : Nat → ClassId} {ret : Option FieldType} {Hs : Heap} {σ : SG}
variable {y : MethodName} {bytes : ByteArray} {mL : Nat} {rt : Option FieldType} {hh : List (Nat × Nat × Nat × Nat)} {fr lc mc ms nn idx : Nat} {av : List Value} {Post : Option Value → Heap → Prop}
theorem CtW.of {H0 : Heap} {ls0 : List (Nat × Value)} (hM : Mw y bytes mL rt hh nn) (hlen : (lg_sl av).length ≤ mL) (hls : lv_args 0 av = ls0)
    (hg : Ag Hs H0) (hA0 : ∀ q, A q → Hs.size ≤ q)
    (body : ∀ (p : Program) (e : Env) (s : State) (m : MethodId) (args : Array Value) (below : List Frame) (meth : Method) (c : Code), Ys p s m args meth c bytes mL rt y.cls D kA (AA H0 A) Hs σ → s.heap = H0 → c.exceptionTable.toList = tableOf hh → V p l e (rmO fr lc mc ms) s m args below meth c mL (AA H0 A) (QC below args s mc ms H0 A Post) H0 0 0 0 ls0 []) :
    CtW l D kA Hs σ y bytes mL rt hh fr lc mc ms H0 av A Post := by
  refine Met.ofWH (cc := bytes) (maxL := mL) (ret := rt) (hh := hh) hM.2.2.1 rfl ?_
  intro p e s m args below meth c s₁ B hml hP
  obtain ⟨rfl, hh9, hK⟩ := hP
  have hts : ∀ w ∈ T0, w.before av.toArray s = true := fun w hw => atoms_spec (ws := .codeWith y bytes mL rt hh :: T0) B.pre w (List.mem_cons_of_mem _ hw)
  have hT := vx_table (x := y) B (hts _ hM.1)
  have hown : s.vm.findClass y.cls = some m.cls := findClass_of_methodNamed B.named
  have h := body p e s m av.toArray below meth c ⟨⟨⟨⟨B.exec, B.bytes, hml, hown, hts⟩, hK.1.1, fun q hq => Or.inr (by rw [← hh9]; exact hq), B.notSynchronized, B.returns⟩, hK.1.2⟩, hK.2.1, hK.2.2, hK.2.2.go (Vm.Alike.refl _) (fun a ha _ => by rw [hh9]; exact hg.2 a ha) (fun q hq => hq.elim (hA0 q) (fun z => Nat.le_trans hg.1 z))⟩ hh9 hT
  rw [lg_entry_eq]
  have hl := lv_entry av hlen
  rw [hls] at hl
  have h9 := h _ [] hl (by rw [hh9]; exact va_S.rf)
  rw [hh9]
  exact h9
theorem sW (Z : Ys p s m args meth c cc nL ret own D kA A Hs σ) (hC : CtW l D kA Hs σ y bytes mL rt hh fr lc mc ms H av A1 Post) (hM : Mw y bytes mL rt hh nn) (hs : Si own idx y) (hst : st = av.reverse ++ rest) (hn : av.length = nn) (hcat : (rest.map fun v => v.category).sum ≤ 8) (hR : fr + 1 ≤ R.frames ∧ 8 + (mL + 11) + lc ≤ R.locals) (hk : k + mc ≤ R.cells) (hn2 : n + ms ≤ R.slots) (hd : decode cc pc = .ok (.invokestatic idx, 3)) :
    Rn p l e R s m args below meth c nL H k n pc ls st mc ms rest A1 Post := fun lsA locs hl => by
  refine ⟨_, vx_runSW (hh := hh) Z.1.1.1 hC ⟨⟨rfl, rfl, hR.1, hR.2, fun w hw a' U hW => ?_, List.mem_cons_self⟩, Z.1.1.1.2.2.2.2 _ hM.1, Z.1.1.1.2.2.2.2 _ hM.2.1, hM.2.2.2.1, fun sig h => ?_, Z.1.1.1.2.2.2.2 _ hs.1, Z.1.1.1.2.2.2.2 _ hs.2⟩ ⟨qPreS.blind, pre_s Z⟩ rfl hn hl.1 hst (lv_room hcat) hd ⟨hk, hn2⟩⟩
  · rcases List.mem_cons.mp hw with rfl | h
    · exact word_at hW (T0_good _ hM.1) (Z.1.1.1.2.2.2.2 _ hM.1)
    · exact word_at hW (T0_good _ h) (Z.1.1.1.2.2.2.2 _ h)
  · have h5 := hM.2.2.2.2
    rw [h] at h5
    exact (Option.some.inj h5).symm
theorem VX_catch (Z : Ys p s m args meth c cc nL ret own D kA A Hs σ) {E : String} {pre suf : List ExceptionTableEntry} {x : ExceptionTableEntry} (ht : c.exceptionTable.toList = pre ++ x :: suf)
    (hp : ∀ z ∈ pre, covers z pc = false ∨ (z.catchType ≠ 0 ∧ ∃ nm : String, Cond.classLink own z.catchType nm ∈ T0 ∧ nm ∈ wE ∧ E ≠ nm)) (hE : E ∈ wE) (hx : covers x pc = true) (h0 : x.catchType ≠ 0) (hl : Cond.classLink own x.catchType E ∈ T0) (hc : Cond.castable E E ∈ wX) (hpc : x.handlerPc = pc')
    (kk : ∀ q : Nat, V p l e R s m args below meth c nL A Q H k n pc' ls [.ref q]) : VX p l e R s m args below meth c nL A Q H k n pc ls E := by
  intro lsA locs q ce rest hl9 hS hce hcv hcl
  subst hpc
  refine vx_catch Z.1.1.1.2.2.2.1 pre x suf ht (fun z hz => ?_) hx h0 (Z.1.1.1.2.2.2.2 _ hl) (Ex.use Z.2.2.2.2.2.2.2.2.2.2 hc) hce hcv hcl (kk q lsA locs hl9 hS)
  rcases hp z hz with h | ⟨a1, nm, a2, a3, a4⟩
  · exact Or.inl h
  · exact Or.inr ⟨a1, nm, Z.1.1.1.2.2.2.2 _ a2, Z.2.2.2.2.2.2.2.2.2.2.2 E hE nm a3 a4⟩
end VLW
theorem mh_L_issueCard : Mw yL_issueCard cL_issueCard 4 (some .int) [(0, 9, 12, 13)] 3 := ⟨(tm 798 (by decide +kernel) (by decide +kernel)), (tm 43 (by decide +kernel) (by decide +kernel)), by decide +kernel, by decide +kernel, by decide +kernel⟩
theorem mh_L_load : Mw yL_load cL_load 5 (some .int) [(0, 10, 13, 19), (0, 10, 17, 21), (0, 10, 21, 23)] 4 := ⟨(tm 1030 (by decide +kernel) (by decide +kernel)), (tm 43 (by decide +kernel) (by decide +kernel)), by decide +kernel, by decide +kernel, by decide +kernel⟩
theorem mh_L_tapIn : Mw yL_tapIn cL_tapIn 5 (some .int) [(0, 17, 20, 19), (0, 17, 24, 13)] 4 := ⟨(tm 1042 (by decide +kernel) (by decide +kernel)), (tm 43 (by decide +kernel) (by decide +kernel)), by decide +kernel, by decide +kernel, by decide +kernel⟩
theorem mh_L_tapOut : Mw yL_tapOut cL_tapOut 5 (some .int) [(0, 10, 13, 19), (0, 10, 17, 13)] 4 := ⟨(tm 1049 (by decide +kernel) (by decide +kernel)), (tm 43 (by decide +kernel) (by decide +kernel)), by decide +kernel, by decide +kernel, by decide +kernel⟩
theorem mh_L_repair : Mw yL_repair cL_repair 5 (some .int) [(0, 10, 13, 19), (0, 10, 17, 35), (0, 10, 21, 13)] 4 := ⟨(tm 1056 (by decide +kernel) (by decide +kernel)), (tm 43 (by decide +kernel) (by decide +kernel)), by decide +kernel, by decide +kernel, by decide +kernel⟩
theorem mh_L_setZone : Mw yL_setZone cL_setZone 5 (some .int) [(0, 10, 13, 19), (0, 10, 17, 21)] 4 := ⟨(tm 1064 (by decide +kernel) (by decide +kernel)), (tm 43 (by decide +kernel) (by decide +kernel)), by decide +kernel, by decide +kernel, by decide +kernel⟩
theorem mh_L_setFares : Mw yL_setFares cL_setFares 5 (some .int) [(0, 10, 13, 21)] 4 := ⟨(tm 1071 (by decide +kernel) (by decide +kernel)), (tm 43 (by decide +kernel) (by decide +kernel)), by decide +kernel, by decide +kernel, by decide +kernel⟩
theorem mh_L_advance : Mw yL_advance cL_advance 4 (some .int) [(0, 9, 12, 21)] 3 := ⟨(tm 1078 (by decide +kernel) (by decide +kernel)), (tm 43 (by decide +kernel) (by decide +kernel)), by decide +kernel, by decide +kernel, by decide +kernel⟩
theorem mh_L_zone : Mw yL_zone cL_zone 4 (some .int) [(0, 9, 12, 19)] 3 := ⟨(tm 1085 (by decide +kernel) (by decide +kernel)), (tm 43 (by decide +kernel) (by decide +kernel)), by decide +kernel, by decide +kernel, by decide +kernel⟩
theorem mh_L_zoneCount : Mw yL_zoneCount cL_zoneCount 5 (some .int) [(0, 10, 13, 19)] 4 := ⟨(tm 1097 (by decide +kernel) (by decide +kernel)), (tm 43 (by decide +kernel) (by decide +kernel)), by decide +kernel, by decide +kernel, by decide +kernel⟩
theorem mh_L_zoneCountByComparing : Mw yL_zoneCountByComparing cL_zoneCountByComparing 5 (some .int) [(0, 10, 13, 19)] 4 := ⟨(tm 1105 (by decide +kernel) (by decide +kernel)), (tm 43 (by decide +kernel) (by decide +kernel)), by decide +kernel, by decide +kernel, by decide +kernel⟩
theorem mh_L_fare : Mw yL_fare cL_fare 5 (some .int) [(0, 10, 13, 19)] 4 := ⟨(tm 1113 (by decide +kernel) (by decide +kernel)), (tm 43 (by decide +kernel) (by decide +kernel)), by decide +kernel, by decide +kernel, by decide +kernel⟩
theorem mh_L_taps : Mw yL_taps cL_taps 4 (some .int) [(0, 9, 12, 19)] 3 := ⟨(tm 1121 (by decide +kernel) (by decide +kernel)), (tm 43 (by decide +kernel) (by decide +kernel)), by decide +kernel, by decide +kernel, by decide +kernel⟩
theorem mh_L_stationByTaps : Mw yL_stationByTaps cL_stationByTaps 4 (some .int) [(0, 9, 12, 35)] 3 := ⟨(tm 1128 (by decide +kernel) (by decide +kernel)), (tm 43 (by decide +kernel) (by decide +kernel)), by decide +kernel, by decide +kernel, by decide +kernel⟩
theorem mh_L_isReduced : Mw yL_isReduced cL_isReduced 4 (some .int) [(0, 16, 19, 19)] 3 := ⟨(tm 1140 (by decide +kernel) (by decide +kernel)), (tm 43 (by decide +kernel) (by decide +kernel)), by decide +kernel, by decide +kernel, by decide +kernel⟩
theorem mh_L_balance : Mw yL_balance cL_balance 4 (some .int) [(0, 9, 12, 19)] 3 := ⟨(tm 1153 (by decide +kernel) (by decide +kernel)), (tm 43 (by decide +kernel) (by decide +kernel)), by decide +kernel, by decide +kernel, by decide +kernel⟩
theorem mh_L_isOnTrip : Mw yL_isOnTrip cL_isOnTrip 4 (some .int) [(0, 16, 19, 19)] 3 := ⟨(tm 1160 (by decide +kernel) (by decide +kernel)), (tm 43 (by decide +kernel) (by decide +kernel)), by decide +kernel, by decide +kernel, by decide +kernel⟩
theorem mh_L_tripStart : Mw yL_tripStart cL_tripStart 4 (some .int) [(0, 9, 12, 19), (0, 9, 15, 35)] 3 := ⟨(tm 1167 (by decide +kernel) (by decide +kernel)), (tm 43 (by decide +kernel) (by decide +kernel)), by decide +kernel, by decide +kernel, by decide +kernel⟩
theorem mh_L_journeyStart : Mw yL_journeyStart cL_journeyStart 4 (some .int) [(0, 9, 12, 19), (0, 9, 15, 35)] 3 := ⟨(tm 1179 (by decide +kernel) (by decide +kernel)), (tm 43 (by decide +kernel) (by decide +kernel)), by decide +kernel, by decide +kernel, by decide +kernel⟩
theorem mh_L_minutesLeft : Mw yL_minutesLeft cL_minutesLeft 4 (some .int) [(0, 9, 12, 19), (0, 9, 15, 35)] 3 := ⟨(tm 1186 (by decide +kernel) (by decide +kernel)), (tm 43 (by decide +kernel) (by decide +kernel)), by decide +kernel, by decide +kernel, by decide +kernel⟩
theorem mh_L_wouldContinue : Mw yL_wouldContinue cL_wouldContinue 5 (some .int) [(0, 17, 20, 19)] 4 := ⟨(tm 1194 (by decide +kernel) (by decide +kernel)), (tm 43 (by decide +kernel) (by decide +kernel)), by decide +kernel, by decide +kernel, by decide +kernel⟩
theorem mh_L_chargeIfTappedOut : Mw yL_chargeIfTappedOut cL_chargeIfTappedOut 5 (some .int) [(0, 10, 13, 19), (0, 10, 17, 35)] 4 := ⟨(tm 1202 (by decide +kernel) (by decide +kernel)), (tm 43 (by decide +kernel) (by decide +kernel)), by decide +kernel, by decide +kernel, by decide +kernel⟩
theorem mh_L_chargedOn : Mw yL_chargedOn cL_chargedOn 5 (some .int) [(0, 10, 13, 19), (0, 10, 17, 21)] 4 := ⟨(tm 1210 (by decide +kernel) (by decide +kernel)), (tm 43 (by decide +kernel) (by decide +kernel)), by decide +kernel, by decide +kernel, by decide +kernel⟩
theorem mh_L_chargedOnByRecords : Mw yL_chargedOnByRecords cL_chargedOnByRecords 5 (some .int) [(0, 10, 13, 19), (0, 10, 17, 21)] 4 := ⟨(tm 1223 (by decide +kernel) (by decide +kernel)), (tm 43 (by decide +kernel) (by decide +kernel)), by decide +kernel, by decide +kernel, by decide +kernel⟩
theorem mh_L_leftUnderCap : Mw yL_leftUnderCap cL_leftUnderCap 4 (some .int) [(0, 9, 12, 19)] 3 := ⟨(tm 1231 (by decide +kernel) (by decide +kernel)), (tm 43 (by decide +kernel) (by decide +kernel)), by decide +kernel, by decide +kernel, by decide +kernel⟩
theorem mh_L_isRepairable : Mw yL_isRepairable cL_isRepairable 4 (some .int) [(0, 16, 19, 19)] 3 := ⟨(tm 1239 (by decide +kernel) (by decide +kernel)), (tm 43 (by decide +kernel) (by decide +kernel)), by decide +kernel, by decide +kernel, by decide +kernel⟩
theorem mh_L_cardBySpending : Mw yL_cardBySpending cL_cardBySpending 4 (some .int) [(0, 9, 12, 35)] 3 := ⟨(tm 1247 (by decide +kernel) (by decide +kernel)), (tm 43 (by decide +kernel) (by decide +kernel)), by decide +kernel, by decide +kernel, by decide +kernel⟩
theorem mh_L_meanCharge : Mw yL_meanCharge cL_meanCharge 3 (some .int) [(0, 7, 10, 109)] 2 := ⟨(tm 1262 (by decide +kernel) (by decide +kernel)), (tm 43 (by decide +kernel) (by decide +kernel)), by decide +kernel, by decide +kernel, by decide +kernel⟩
theorem mh_L_incompleteShare : Mw yL_incompleteShare cL_incompleteShare 3 (some .int) [(0, 8, 11, 109)] 2 := ⟨(tm 1299 (by decide +kernel) (by decide +kernel)), (tm 43 (by decide +kernel) (by decide +kernel)), by decide +kernel, by decide +kernel, by decide +kernel⟩
theorem mh_L_renderCard : Mw yL_renderCard cL_renderCard 4 (some .int) [(0, 9, 12, 19)] 3 := ⟨(tm 1318 (by decide +kernel) (by decide +kernel)), (tm 43 (by decide +kernel) (by decide +kernel)), by decide +kernel, by decide +kernel, by decide +kernel⟩
theorem mh_L_outputAt : Mw yL_outputAt cL_outputAt 4 (some .int) [(0, 9, 12, 19)] 3 := ⟨(tm 1347 (by decide +kernel) (by decide +kernel)), (tm 43 (by decide +kernel) (by decide +kernel)), by decide +kernel, by decide +kernel, by decide +kernel⟩
theorem mh_L_type : Mw yL_type cL_type 4 (some .int) [(0, 9, 12, 21), (0, 9, 15, 13)] 3 := ⟨(tm 1365 (by decide +kernel) (by decide +kernel)), (tm 43 (by decide +kernel) (by decide +kernel)), by decide +kernel, by decide +kernel, by decide +kernel⟩
theorem mh_L_runScript : Mw yL_runScript cL_runScript 3 (some .int) [(0, 8, 11, 21), (0, 8, 14, 13)] 2 := ⟨(tm 1374 (by decide +kernel) (by decide +kernel)), (tm 43 (by decide +kernel) (by decide +kernel)), by decide +kernel, by decide +kernel, by decide +kernel⟩
theorem mh_L_errorPosition : Mw yL_errorPosition cL_errorPosition 3 (some .int) [(0, 8, 11, 35)] 2 := ⟨(tm 1460 (by decide +kernel) (by decide +kernel)), (tm 43 (by decide +kernel) (by decide +kernel)), by decide +kernel, by decide +kernel, by decide +kernel⟩
theorem mh_L_failedCommand : Mw yL_failedCommand cL_failedCommand 3 (some .int) [(0, 8, 11, 35)] 2 := ⟨(tm 1468 (by decide +kernel) (by decide +kernel)), (tm 43 (by decide +kernel) (by decide +kernel)), by decide +kernel, by decide +kernel, by decide +kernel⟩
theorem mh_L_undo : Mw yL_undo cL_undo 3 (some .int) [(0, 8, 11, 35)] 2 := ⟨(tm 1476 (by decide +kernel) (by decide +kernel)), (tm 43 (by decide +kernel) (by decide +kernel)), by decide +kernel, by decide +kernel, by decide +kernel⟩
theorem mh_L_restore : Mw yL_restore cL_restore 3 (some .int) [(0, 8, 11, 13)] 2 := ⟨(tm 1484 (by decide +kernel) (by decide +kernel)), (tm 43 (by decide +kernel) (by decide +kernel)), by decide +kernel, by decide +kernel, by decide +kernel⟩
theorem xk_0 {M : MS} {x y : Int32} {E : String} (h : E = xcl (m_prob M 0 x y)) (h2 : ¬ m_prob M 0 x y = 0) : E = "java/lang/IllegalStateException" := by
  have h3 : m_prob M 0 x y = 0 ∨ m_prob M 0 x y = 3 := by
    show (if M.1 0 < 8 then (0 : Int32) else 3) = 0 ∨ (if M.1 0 < 8 then (0 : Int32) else 3) = 3
    (repeat' split) <;> simp
  rcases h3 with e | e
  · exact absurd e h2
  · rw [e] at h; subst h; exact rfl

theorem xk_1 {M : MS} {x y : Int32} {E : String} (h : E = xcl (m_prob M 1 x y)) (h2 : ¬ m_prob M 1 x y = 0) : E = "java/lang/IndexOutOfBoundsException" ∨ E = "java/lang/IllegalArgumentException" ∨ E = "java/lang/UnsupportedOperationException" := by
  have h3 : m_prob M 1 x y = 0 ∨ m_prob M 1 x y = 1 ∨ m_prob M 1 x y = 2 ∨ m_prob M 1 x y = 5 := by
    show m_pLoad M x y = 0 ∨ m_pLoad M x y = 1 ∨ m_pLoad M x y = 2 ∨ m_pLoad M x y = 5
    unfold m_pLoad
    (repeat' split) <;> simp
  rcases h3 with e | e | e | e
  · exact absurd e h2
  · rw [e] at h; subst h; exact Or.inl rfl
  · rw [e] at h; subst h; exact Or.inr (Or.inl rfl)
  · rw [e] at h; subst h; exact Or.inr (Or.inr (rfl))

theorem xk_2 {M : MS} {x y : Int32} {E : String} (h : E = xcl (m_prob M 2 x y)) (h2 : ¬ m_prob M 2 x y = 0) : E = "java/lang/IndexOutOfBoundsException" ∨ E = "java/lang/IllegalStateException" := by
  have h3 : m_prob M 2 x y = 0 ∨ m_prob M 2 x y = 1 ∨ m_prob M 2 x y = 3 := by
    show m_pIn M x y = 0 ∨ m_pIn M x y = 1 ∨ m_pIn M x y = 3
    unfold m_pIn
    (repeat' split) <;> simp
  rcases h3 with e | e | e
  · exact absurd e h2
  · rw [e] at h; subst h; exact Or.inl rfl
  · rw [e] at h; subst h; exact Or.inr (rfl)

theorem xk_3 {M : MS} {x y : Int32} {E : String} (h : E = xcl (m_prob M 3 x y)) (h2 : ¬ m_prob M 3 x y = 0) : E = "java/lang/IndexOutOfBoundsException" ∨ E = "java/lang/IllegalStateException" := by
  have h3 : m_prob M 3 x y = 0 ∨ m_prob M 3 x y = 1 ∨ m_prob M 3 x y = 3 := by
    show m_pOut M x y = 0 ∨ m_pOut M x y = 1 ∨ m_pOut M x y = 3
    unfold m_pOut
    (repeat' split) <;> simp
  rcases h3 with e | e | e
  · exact absurd e h2
  · rw [e] at h; subst h; exact Or.inl rfl
  · rw [e] at h; subst h; exact Or.inr (rfl)

theorem xk_4 {M : MS} {x y : Int32} {E : String} (h : E = xcl (m_prob M 4 x y)) (h2 : ¬ m_prob M 4 x y = 0) : E = "java/lang/IndexOutOfBoundsException" ∨ E = "java/util/NoSuchElementException" ∨ E = "java/lang/IllegalStateException" := by
  have h3 : m_prob M 4 x y = 0 ∨ m_prob M 4 x y = 1 ∨ m_prob M 4 x y = 4 ∨ m_prob M 4 x y = 3 := by
    show m_pRep M x y = 0 ∨ m_pRep M x y = 1 ∨ m_pRep M x y = 4 ∨ m_pRep M x y = 3
    unfold m_pRep
    (repeat' split) <;> simp
  rcases h3 with e | e | e | e
  · exact absurd e h2
  · rw [e] at h; subst h; exact Or.inl rfl
  · rw [e] at h; subst h; exact Or.inr (Or.inl rfl)
  · rw [e] at h; subst h; exact Or.inr (Or.inr (rfl))

theorem xk_5 {M : MS} {x y : Int32} {E : String} (h : E = xcl (m_prob M 5 x y)) (h2 : ¬ m_prob M 5 x y = 0) : E = "java/lang/IndexOutOfBoundsException" ∨ E = "java/lang/IllegalArgumentException" := by
  have h3 : m_prob M 5 x y = 0 ∨ m_prob M 5 x y = 1 ∨ m_prob M 5 x y = 2 := by
    show m_pZone x y = 0 ∨ m_pZone x y = 1 ∨ m_pZone x y = 2
    unfold m_pZone
    (repeat' split) <;> simp
  rcases h3 with e | e | e
  · exact absurd e h2
  · rw [e] at h; subst h; exact Or.inl rfl
  · rw [e] at h; subst h; exact Or.inr (rfl)

theorem xk_6 {M : MS} {x y : Int32} {E : String} (h : E = xcl (m_prob M 6 x y)) (h2 : ¬ m_prob M 6 x y = 0) : E = "java/lang/IllegalArgumentException" := by
  have h3 : m_prob M 6 x y = 0 ∨ m_prob M 6 x y = 2 := by
    show m_pFares x y = 0 ∨ m_pFares x y = 2
    unfold m_pFares
    (repeat' split) <;> simp
  rcases h3 with e | e
  · exact absurd e h2
  · rw [e] at h; subst h; exact rfl

theorem xk_7 {M : MS} {x y : Int32} {E : String} (h : E = xcl (m_prob M 7 x y)) (h2 : ¬ m_prob M 7 x y = 0) : E = "java/lang/IllegalArgumentException" := by
  have h3 : m_prob M 7 x y = 0 ∨ m_prob M 7 x y = 2 := by
    show (if x < 1 ∨ ¬ x ≤ 2000 then (2 : Int32) else 0) = 0 ∨ (if x < 1 ∨ ¬ x ≤ 2000 then (2 : Int32) else 0) = 2
    (repeat' split) <;> simp
  rcases h3 with e | e
  · exact absurd e h2
  · rw [e] at h; subst h; exact rfl

set_option maxRecDepth 100000 in
set_option maxHeartbeats 4000000 in
theorem c_L_issueCard (l : Launch) (D : va_G) (kA : Nat → ClassId) (Hs : Heap) (σ : SG) (H0 : Heap) (hg : Ag Hs H0) (a : Nat) (W : Nat → MS) (π : Nat → Nat) (ES : Nat → Prop) (u : Nat) (hs ep fc : Int32) (no : Nat) (go : Nat → Int32) (vs cs ns : Nat) (gs : Nat → Int32) (x : Int32) (n d : Nat) (o : Nat) (w0 : Nat → Int64) (hF : Fs D kA H0 a W π ES u hs ep fc no go vs cs ns gs) (hnt : l.stackTraces = false) (hI : MI (W (π 0)) n d) (hbs : Hs.size ≤ a) (hx : x = 0 ∨ x = 1) (ho : hp D H0 o (eL kA 1 w0)) (ho1 : a + 329 ≤ o) (ho2 : o ≠ vs) (ho3 : Hs.size ≤ o) : CtW l D kA Hs σ yL_issueCard cL_issueCard 4 (some .int) [(0, 9, 12, 13)] 11 186 9 30 H0 [.ref a, .int x, .ref o] (fun q => (blk a 329) q ∨ q = o) (pI fun k9 H9 => (k9 = 0 ∧ ∃ r H1 w, (fun (v9 : Int32) (H : Heap) => m_prob (W (π 0)) 0 x 0 = 0 ∧ v9 = (m_do (W (π 0)) d n 0 x 0).1 ∧ Fs D kA H a (va_up (va_up W (π 1) (m_copy (W (π 1)) (W (π 0)) n)) (π 0) (m_do (W (π 0)) d n 0 x 0).2) (p_push π u) (gro ES H0 H) (if u < 8 then u + 1 else 8) hs ep fc no go vs cs ns gs) r H1 ∧ sto o H1 H9 ∧ hp D H9 o (eL kA 1 w) ∧ w 0 = r.toInt64) ∨ (∃ E, (fun (E : String) (H : Heap) => E = xcl (m_prob (W (π 0)) 0 x 0) ∧ ¬ m_prob (W (π 0)) 0 x 0 = 0 ∧ Fs D kA H a W π ES u hs ep fc no go vs cs ns gs) E H9 ∧ k9 = (1) ∧ hp D H9 o (eL kA 1 w0))) := by
  refine CtW.of mh_L_issueCard (Nat.le_of_ble_eq_true rfl) (ls0 := [(0, _), (1, _), (2, _)]) rfl hg (fun q z => z.elim (fun z => (show ∀ q, (blk a 329) q → Hs.size ≤ q from (fun q z => Nat.le_trans hbs z.1)) q z) (fun z => z ▸ ho3)) ?_
  intro Pp Ee Ss Mm Ar Bl Me Cc Z hsH htab
  have Y := Z.1
  refine V_aload_n Y.1 2 dL_issueCard_0 (rfl : _ = 1) rfl rfl ?_
  refine V_iconst Y.1 (v := 0) dL_issueCard_1 (rfl : _ = 2) (by decide) ?_
  refine V_aload_n Y.1 0 dL_issueCard_2 (rfl : _ = 3) rfl rfl ?_
  refine V_iload_n Y.1 1 dL_issueCard_3 (rfl : _ = 4) rfl rfl ?_
  refine V_xI Y (sxV Z (c_X5_issueCard l D kA Hs σ _ hg a W π ES u hs ep fc no go vs cs ns gs x n d hF hnt hI hbs hx) mi_X5_issueCard vi_L_7 rfl hF.1.1 rfl rfl (Nat.le_of_ble_eq_true rfl) ⟨Nat.le_of_ble_eq_true rfl, Nat.le_of_ble_eq_true rfl⟩ (Nat.le_of_ble_eq_true rfl) (Nat.le_of_ble_eq_true rfl) dL_issueCard_4) (fun q z => Or.inl (Or.inl z)) (rfl : _ = 7) (fun E_4 H4_4 hx_4 o_4 => ?_) (fun v_4 H4_4 hq_4 o_4 => ?_)
  · have ho := ho.off o_4 (fun z => by have := z.2; omega)
    obtain rfl : E_4 = "java/lang/IllegalStateException" := xk_0 hx_4.1 hx_4.2.1
    refine VX_catch Z (pre := []) (x := ⟨0, 9, 12, 13⟩) (suf := []) (htab.trans rfl) (fun z hz => nomatch hz) (by decide) (by decide) (by decide) (tm 799 (by decide +kernel) (by decide +kernel)) (by decide +kernel) rfl (fun q9 => ?_)
    refine V_astore_n Y.1 (ls' := [(3, _), (0, _), (1, _), (2, _)]) dL_issueCard_12 (rfl : _ = 13) rfl (by decide) rfl ?_
    refine V_iconst Y.1 (v := 1) dL_issueCard_13 (rfl : _ = 14) (by decide) ?_
    exact V_ret Y.1 dL_issueCard_14 rfl (Nat.le_of_ble_eq_true rfl) (Nat.le_of_ble_eq_true rfl) (Or.inr ⟨_, hx_4, by rfl, ho⟩)
  have ho := ho.off o_4 (fun z => by have := z.2; omega)
  refine V_i2l Y.1 dL_issueCard_7 (rfl : _ = 8) rfl ?_
  refine V_last Y.1 ho (Or.inl (Or.inr rfl)) (show ¬ ((0 : Int32) < 0 ∨ 1 ≤ (0 : Int32).toNatClampNeg) by decide) dL_issueCard_8 (rfl : _ = 9) (fun H8_8 h_new o_8 => ?_)
  have ho := h_new
  clear h_new
  refine V_goto Y.1 (tgt := 15) dL_issueCard_9 (by decide) ?_
  refine V_iconst Y.1 (v := 0) dL_issueCard_15 (rfl : _ = 16) (by decide) ?_
  exact V_ret Y.1 dL_issueCard_16 rfl (Nat.le_of_ble_eq_true rfl) (Nat.le_of_ble_eq_true rfl) (Or.inl ⟨rfl, _, _, _, hq_4, o_8, ho, rfl⟩)

set_option maxRecDepth 100000 in
set_option maxHeartbeats 4000000 in
theorem c_L_load (l : Launch) (D : va_G) (kA : Nat → ClassId) (Hs : Heap) (σ : SG) (H0 : Heap) (hg : Ag Hs H0) (a : Nat) (W : Nat → MS) (π : Nat → Nat) (ES : Nat → Prop) (u : Nat) (hs ep fc : Int32) (no : Nat) (go : Nat → Int32) (vs cs ns : Nat) (gs : Nat → Int32) (x y : Int32) (n d : Nat) (o : Nat) (w0 : Nat → Int64) (hF : Fs D kA H0 a W π ES u hs ep fc no go vs cs ns gs) (hnt : l.stackTraces = false) (hI : MI (W (π 0)) n d) (hbs : Hs.size ≤ a) (ho : hp D H0 o (eL kA 1 w0)) (ho1 : a + 329 ≤ o) (ho2 : o ≠ vs) (ho3 : Hs.size ≤ o) : CtW l D kA Hs σ yL_load cL_load 5 (some .int) [(0, 10, 13, 19), (0, 10, 17, 21), (0, 10, 21, 23)] 11 187 9 30 H0 [.ref a, .int x, .int y, .ref o] (fun q => (blk a 329) q ∨ q = o) (pI fun k9 H9 => (k9 = 0 ∧ ∃ r H1 w, (fun (v9 : Int32) (H : Heap) => m_prob (W (π 0)) 1 x y = 0 ∧ v9 = (m_do (W (π 0)) d n 1 x y).1 ∧ Fs D kA H a (va_up (va_up W (π 1) (m_copy (W (π 1)) (W (π 0)) n)) (π 0) (m_do (W (π 0)) d n 1 x y).2) (p_push π u) (gro ES H0 H) (if u < 8 then u + 1 else 8) hs ep fc no go vs cs ns gs) r H1 ∧ sto o H1 H9 ∧ hp D H9 o (eL kA 1 w) ∧ w 0 = r.toInt64) ∨ (∃ E, (fun (E : String) (H : Heap) => E = xcl (m_prob (W (π 0)) 1 x y) ∧ ¬ m_prob (W (π 0)) 1 x y = 0 ∧ Fs D kA H a W π ES u hs ep fc no go vs cs ns gs) E H9 ∧ k9 = (if E = "java/lang/IndexOutOfBoundsException" then 1 else if E = "java/lang/IllegalArgumentException" then 2 else 3) ∧ hp D H9 o (eL kA 1 w0))) := by
  refine CtW.of mh_L_load (Nat.le_of_ble_eq_true rfl) (ls0 := [(0, _), (1, _), (2, _), (3, _)]) rfl hg (fun q z => z.elim (fun z => (show ∀ q, (blk a 329) q → Hs.size ≤ q from (fun q z => Nat.le_trans hbs z.1)) q z) (fun z => z ▸ ho3)) ?_
  intro Pp Ee Ss Mm Ar Bl Me Cc Z hsH htab
  have Y := Z.1
  refine V_aload_n Y.1 3 dL_load_0 (rfl : _ = 1) rfl rfl ?_
  refine V_iconst Y.1 (v := 0) dL_load_1 (rfl : _ = 2) (by decide) ?_
  refine V_aload_n Y.1 0 dL_load_2 (rfl : _ = 3) rfl rfl ?_
  refine V_iload_n Y.1 1 dL_load_3 (rfl : _ = 4) rfl rfl ?_
  refine V_iload_n Y.1 2 dL_load_4 (rfl : _ = 5) rfl rfl ?_
  refine V_xI Y (sxV Z (c_X5_load l D kA Hs σ _ hg a W π ES u hs ep fc no go vs cs ns gs x y n d hF hnt hI hbs) mi_X5_load vi_L_15 rfl hF.1.1 rfl rfl (Nat.le_of_ble_eq_true rfl) ⟨Nat.le_of_ble_eq_true rfl, Nat.le_of_ble_eq_true rfl⟩ (Nat.le_of_ble_eq_true rfl) (Nat.le_of_ble_eq_true rfl) dL_load_5) (fun q z => Or.inl (Or.inl z)) (rfl : _ = 8) (fun E_5 H5_5 hx_5 o_5 => ?_) (fun v_5 H5_5 hq_5 o_5 => ?_)
  · have ho := ho.off o_5 (fun z => by have := z.2; omega)
    have hE9 : E_5 = "java/lang/IndexOutOfBoundsException" ∨ E_5 = "java/lang/IllegalArgumentException" ∨ E_5 = "java/lang/UnsupportedOperationException" := xk_1 hx_5.1 hx_5.2.1
    rcases hE9 with rfl | rfl | rfl
    · refine VX_catch Z (pre := []) (x := ⟨0, 10, 13, 19⟩) (suf := [⟨0, 10, 17, 21⟩, ⟨0, 10, 21, 23⟩]) (htab.trans rfl) (fun z hz => nomatch hz) (by decide) (by decide) (by decide) (tm 1031 (by decide +kernel) (by decide +kernel)) (by decide +kernel) rfl (fun q9 => ?_)
      refine V_astore Y.1 (ls' := [(4, _), (0, _), (1, _), (2, _), (3, _)]) dL_load_13 (rfl : _ = 15) (by decide) rfl ?_
      refine V_iconst Y.1 (v := 1) dL_load_15 (rfl : _ = 16) (by decide) ?_
      exact V_ret Y.1 dL_load_16 rfl (Nat.le_of_ble_eq_true rfl) (Nat.le_of_ble_eq_true rfl) (Or.inr ⟨_, hx_5, by rw [if_pos rfl], ho⟩)
    · refine VX_catch Z (pre := [⟨0, 10, 13, 19⟩]) (x := ⟨0, 10, 17, 21⟩) (suf := [⟨0, 10, 21, 23⟩]) (htab.trans rfl) (fun z hz => by obtain rfl := List.mem_singleton.mp hz; exact Or.inr ⟨by decide, "java/lang/IndexOutOfBoundsException", (tm 1031 (by decide +kernel) (by decide +kernel)), by decide, by decide⟩) (by decide) (by decide) (by decide) (tm 1034 (by decide +kernel) (by decide +kernel)) (by decide +kernel) rfl (fun q9 => ?_)
      refine V_astore Y.1 (ls' := [(4, _), (0, _), (1, _), (2, _), (3, _)]) dL_load_17 (rfl : _ = 19) (by decide) rfl ?_
      refine V_iconst Y.1 (v := 2) dL_load_19 (rfl : _ = 20) (by decide) ?_
      exact V_ret Y.1 dL_load_20 rfl (Nat.le_of_ble_eq_true rfl) (Nat.le_of_ble_eq_true rfl) (Or.inr ⟨_, hx_5, by rw [if_neg (by decide), if_pos rfl], ho⟩)
    · refine VX_catch Z (pre := [⟨0, 10, 13, 19⟩, ⟨0, 10, 17, 21⟩]) (x := ⟨0, 10, 21, 23⟩) (suf := []) (htab.trans rfl) (fun z hz => by rcases List.mem_cons.mp hz with rfl | hz; exact Or.inr ⟨by decide, "java/lang/IndexOutOfBoundsException", (tm 1031 (by decide +kernel) (by decide +kernel)), by decide, by decide⟩; obtain rfl := List.mem_singleton.mp hz; exact Or.inr ⟨by decide, "java/lang/IllegalArgumentException", (tm 1034 (by decide +kernel) (by decide +kernel)), by decide, by decide⟩) (by decide) (by decide) (by decide) (tm 1035 (by decide +kernel) (by decide +kernel)) (by decide +kernel) rfl (fun q9 => ?_)
      refine V_astore Y.1 (ls' := [(4, _), (0, _), (1, _), (2, _), (3, _)]) dL_load_21 (rfl : _ = 23) (by decide) rfl ?_
      refine V_iconst Y.1 (v := 3) dL_load_23 (rfl : _ = 24) (by decide) ?_
      exact V_ret Y.1 dL_load_24 rfl (Nat.le_of_ble_eq_true rfl) (Nat.le_of_ble_eq_true rfl) (Or.inr ⟨_, hx_5, by rw [if_neg (by decide), if_neg (by decide)], ho⟩)
  have ho := ho.off o_5 (fun z => by have := z.2; omega)
  refine V_i2l Y.1 dL_load_8 (rfl : _ = 9) rfl ?_
  refine V_last Y.1 ho (Or.inl (Or.inr rfl)) (show ¬ ((0 : Int32) < 0 ∨ 1 ≤ (0 : Int32).toNatClampNeg) by decide) dL_load_9 (rfl : _ = 10) (fun H9_9 h_new o_9 => ?_)
  have ho := h_new
  clear h_new
  refine V_goto Y.1 (tgt := 25) dL_load_10 (by decide) ?_
  refine V_iconst Y.1 (v := 0) dL_load_25 (rfl : _ = 26) (by decide) ?_
  exact V_ret Y.1 dL_load_26 rfl (Nat.le_of_ble_eq_true rfl) (Nat.le_of_ble_eq_true rfl) (Or.inl ⟨rfl, _, _, _, hq_5, o_9, ho, rfl⟩)

set_option maxRecDepth 100000 in
set_option maxHeartbeats 4000000 in
theorem c_L_tapIn (l : Launch) (D : va_G) (kA : Nat → ClassId) (Hs : Heap) (σ : SG) (H0 : Heap) (hg : Ag Hs H0) (a : Nat) (W : Nat → MS) (π : Nat → Nat) (ES : Nat → Prop) (u : Nat) (hs ep fc : Int32) (no : Nat) (go : Nat → Int32) (vs cs ns : Nat) (gs : Nat → Int32) (x y : Int32) (n d : Nat) (o : Nat) (w0 : Nat → Int64) (hF : Fs D kA H0 a W π ES u hs ep fc no go vs cs ns gs) (hnt : l.stackTraces = false) (hI : MI (W (π 0)) n d) (hbs : Hs.size ≤ a) (ho : hp D H0 o (eL kA 1 w0)) (ho1 : a + 329 ≤ o) (ho2 : o ≠ vs) (ho3 : Hs.size ≤ o) : CtW l D kA Hs σ yL_tapIn cL_tapIn 5 (some .int) [(0, 17, 20, 19), (0, 17, 24, 13)] 11 187 9 30 H0 [.ref a, .int x, .int y, .ref o] (fun q => (blk a 329) q ∨ q = o) (pI fun k9 H9 => (k9 = 0 ∧ ∃ r H1 w, (fun (v9 : Int32) (H : Heap) => m_prob (W (π 0)) 2 x y = 0 ∧ v9 = (if (m_do (W (π 0)) d n 2 x y).1 = 1 then 1 else 0) ∧ Fs D kA H a (va_up (va_up W (π 1) (m_copy (W (π 1)) (W (π 0)) n)) (π 0) (m_do (W (π 0)) d n 2 x y).2) (p_push π u) (gro ES H0 H) (if u < 8 then u + 1 else 8) hs ep fc no go vs cs ns gs) r H1 ∧ sto o H1 H9 ∧ hp D H9 o (eL kA 1 w) ∧ w 0 = (if r = 0 then 0 else 1)) ∨ (∃ E, (fun (E : String) (H : Heap) => E = xcl (m_prob (W (π 0)) 2 x y) ∧ ¬ m_prob (W (π 0)) 2 x y = 0 ∧ Fs D kA H a W π ES u hs ep fc no go vs cs ns gs) E H9 ∧ k9 = (if E = "java/lang/IndexOutOfBoundsException" then 1 else 2) ∧ hp D H9 o (eL kA 1 w0))) := by
  refine CtW.of mh_L_tapIn (Nat.le_of_ble_eq_true rfl) (ls0 := [(0, _), (1, _), (2, _), (3, _)]) rfl hg (fun q z => z.elim (fun z => (show ∀ q, (blk a 329) q → Hs.size ≤ q from (fun q z => Nat.le_trans hbs z.1)) q z) (fun z => z ▸ ho3)) ?_
  intro Pp Ee Ss Mm Ar Bl Me Cc Z hsH htab
  have Y := Z.1
  refine V_aload_n Y.1 3 dL_tapIn_0 (rfl : _ = 1) rfl rfl ?_
  refine V_iconst Y.1 (v := 0) dL_tapIn_1 (rfl : _ = 2) (by decide) ?_
  refine V_aload_n Y.1 0 dL_tapIn_2 (rfl : _ = 3) rfl rfl ?_
  refine V_iload_n Y.1 1 dL_tapIn_3 (rfl : _ = 4) rfl rfl ?_
  refine V_iload_n Y.1 2 dL_tapIn_4 (rfl : _ = 5) rfl rfl ?_
  refine V_xI Y (sxV Z (c_X5_tapIn l D kA Hs σ _ hg a W π ES u hs ep fc no go vs cs ns gs x y n d hF hnt hI hbs) mi_X5_tapIn vi_L_25 rfl hF.1.1 rfl rfl (Nat.le_of_ble_eq_true rfl) ⟨Nat.le_of_ble_eq_true rfl, Nat.le_of_ble_eq_true rfl⟩ (Nat.le_of_ble_eq_true rfl) (Nat.le_of_ble_eq_true rfl) dL_tapIn_5) (fun q z => Or.inl (Or.inl z)) (rfl : _ = 8) (fun E_5 H5_5 hx_5 o_5 => ?_) (fun v_5 H5_5 hq_5 o_5 => ?_)
  · have ho := ho.off o_5 (fun z => by have := z.2; omega)
    have hE9 : E_5 = "java/lang/IndexOutOfBoundsException" ∨ E_5 = "java/lang/IllegalStateException" := xk_2 hx_5.1 hx_5.2.1
    rcases hE9 with rfl | rfl
    · refine VX_catch Z (pre := []) (x := ⟨0, 17, 20, 19⟩) (suf := [⟨0, 17, 24, 13⟩]) (htab.trans rfl) (fun z hz => nomatch hz) (by decide) (by decide) (by decide) (tm 1031 (by decide +kernel) (by decide +kernel)) (by decide +kernel) rfl (fun q9 => ?_)
      refine V_astore Y.1 (ls' := [(4, _), (0, _), (1, _), (2, _), (3, _)]) dL_tapIn_20 (rfl : _ = 22) (by decide) rfl ?_
      refine V_iconst Y.1 (v := 1) dL_tapIn_22 (rfl : _ = 23) (by decide) ?_
      exact V_ret Y.1 dL_tapIn_23 rfl (Nat.le_of_ble_eq_true rfl) (Nat.le_of_ble_eq_true rfl) (Or.inr ⟨_, hx_5, by rw [if_pos rfl], ho⟩)
    · refine VX_catch Z (pre := [⟨0, 17, 20, 19⟩]) (x := ⟨0, 17, 24, 13⟩) (suf := []) (htab.trans rfl) (fun z hz => by obtain rfl := List.mem_singleton.mp hz; exact Or.inr ⟨by decide, "java/lang/IndexOutOfBoundsException", (tm 1031 (by decide +kernel) (by decide +kernel)), by decide, by decide⟩) (by decide) (by decide) (by decide) (tm 799 (by decide +kernel) (by decide +kernel)) (by decide +kernel) rfl (fun q9 => ?_)
      refine V_astore Y.1 (ls' := [(4, _), (0, _), (1, _), (2, _), (3, _)]) dL_tapIn_24 (rfl : _ = 26) (by decide) rfl ?_
      refine V_iconst Y.1 (v := 2) dL_tapIn_26 (rfl : _ = 27) (by decide) ?_
      exact V_ret Y.1 dL_tapIn_27 rfl (Nat.le_of_ble_eq_true rfl) (Nat.le_of_ble_eq_true rfl) (Or.inr ⟨_, hx_5, by rw [if_neg (by decide)], ho⟩)
  have ho := ho.off o_5 (fun z => by have := z.2; omega)
  refine V_if_eq Y.1 (tgt := 15) dL_tapIn_8 (by decide) (rfl : _ = 11) (fun c_8 => ?_) (fun c_8 => ?_)
  · refine V_lconst Y.1 (v := 0) dL_tapIn_15 (rfl : _ = 16) (by decide) ?_
    refine V_last Y.1 ho (Or.inl (Or.inr rfl)) (show ¬ ((0 : Int32) < 0 ∨ 1 ≤ (0 : Int32).toNatClampNeg) by decide) dL_tapIn_16 (rfl : _ = 17) (fun H16_10 h_new o_16 => ?_)
    have ho := h_new
    clear h_new
    refine V_goto Y.1 (tgt := 28) dL_tapIn_17 (by decide) ?_
    refine V_iconst Y.1 (v := 0) dL_tapIn_28 (rfl : _ = 29) (by decide) ?_
    exact V_ret Y.1 dL_tapIn_29 rfl (Nat.le_of_ble_eq_true rfl) (Nat.le_of_ble_eq_true rfl) (Or.inl ⟨rfl, _, _, _, hq_5, o_16, ho, by first | exact (if_pos ‹_›).symm | exact (if_neg ‹_›).symm⟩)
  · refine V_lconst Y.1 (v := 1) dL_tapIn_11 (rfl : _ = 12) (by decide) ?_
    refine V_goto Y.1 (tgt := 16) dL_tapIn_12 (by decide) ?_
    refine V_last Y.1 ho (Or.inl (Or.inr rfl)) (show ¬ ((0 : Int32) < 0 ∨ 1 ≤ (0 : Int32).toNatClampNeg) by decide) dL_tapIn_16 (rfl : _ = 17) (fun H16_18 h_new o_16 => ?_)
    have ho := h_new
    clear h_new
    refine V_goto Y.1 (tgt := 28) dL_tapIn_17 (by decide) ?_
    refine V_iconst Y.1 (v := 0) dL_tapIn_28 (rfl : _ = 29) (by decide) ?_
    exact V_ret Y.1 dL_tapIn_29 rfl (Nat.le_of_ble_eq_true rfl) (Nat.le_of_ble_eq_true rfl) (Or.inl ⟨rfl, _, _, _, hq_5, o_16, ho, by first | exact (if_pos ‹_›).symm | exact (if_neg ‹_›).symm⟩)

set_option maxRecDepth 100000 in
set_option maxHeartbeats 4000000 in
theorem c_L_tapOut (l : Launch) (D : va_G) (kA : Nat → ClassId) (Hs : Heap) (σ : SG) (H0 : Heap) (hg : Ag Hs H0) (a : Nat) (W : Nat → MS) (π : Nat → Nat) (ES : Nat → Prop) (u : Nat) (hs ep fc : Int32) (no : Nat) (go : Nat → Int32) (vs cs ns : Nat) (gs : Nat → Int32) (x y : Int32) (n d : Nat) (o : Nat) (w0 : Nat → Int64) (hF : Fs D kA H0 a W π ES u hs ep fc no go vs cs ns gs) (hnt : l.stackTraces = false) (hI : MI (W (π 0)) n d) (hbs : Hs.size ≤ a) (ho : hp D H0 o (eL kA 1 w0)) (ho1 : a + 329 ≤ o) (ho2 : o ≠ vs) (ho3 : Hs.size ≤ o) : CtW l D kA Hs σ yL_tapOut cL_tapOut 5 (some .int) [(0, 10, 13, 19), (0, 10, 17, 13)] 11 187 9 30 H0 [.ref a, .int x, .int y, .ref o] (fun q => (blk a 329) q ∨ q = o) (pI fun k9 H9 => (k9 = 0 ∧ ∃ r H1 w, (fun (v9 : Int32) (H : Heap) => m_prob (W (π 0)) 3 x y = 0 ∧ v9 = (m_do (W (π 0)) d n 3 x y).1 ∧ Fs D kA H a (va_up (va_up W (π 1) (m_copy (W (π 1)) (W (π 0)) n)) (π 0) (m_do (W (π 0)) d n 3 x y).2) (p_push π u) (gro ES H0 H) (if u < 8 then u + 1 else 8) hs ep fc no go vs cs ns gs) r H1 ∧ sto o H1 H9 ∧ hp D H9 o (eL kA 1 w) ∧ w 0 = r.toInt64) ∨ (∃ E, (fun (E : String) (H : Heap) => E = xcl (m_prob (W (π 0)) 3 x y) ∧ ¬ m_prob (W (π 0)) 3 x y = 0 ∧ Fs D kA H a W π ES u hs ep fc no go vs cs ns gs) E H9 ∧ k9 = (if E = "java/lang/IndexOutOfBoundsException" then 1 else 2) ∧ hp D H9 o (eL kA 1 w0))) := by
  refine CtW.of mh_L_tapOut (Nat.le_of_ble_eq_true rfl) (ls0 := [(0, _), (1, _), (2, _), (3, _)]) rfl hg (fun q z => z.elim (fun z => (show ∀ q, (blk a 329) q → Hs.size ≤ q from (fun q z => Nat.le_trans hbs z.1)) q z) (fun z => z ▸ ho3)) ?_
  intro Pp Ee Ss Mm Ar Bl Me Cc Z hsH htab
  have Y := Z.1
  refine V_aload_n Y.1 3 dL_tapOut_0 (rfl : _ = 1) rfl rfl ?_
  refine V_iconst Y.1 (v := 0) dL_tapOut_1 (rfl : _ = 2) (by decide) ?_
  refine V_aload_n Y.1 0 dL_tapOut_2 (rfl : _ = 3) rfl rfl ?_
  refine V_iload_n Y.1 1 dL_tapOut_3 (rfl : _ = 4) rfl rfl ?_
  refine V_iload_n Y.1 2 dL_tapOut_4 (rfl : _ = 5) rfl rfl ?_
  refine V_xI Y (sxV Z (c_X5_tapOut l D kA Hs σ _ hg a W π ES u hs ep fc no go vs cs ns gs x y n d hF hnt hI hbs) mi_X5_tapOut vi_L_29 rfl hF.1.1 rfl rfl (Nat.le_of_ble_eq_true rfl) ⟨Nat.le_of_ble_eq_true rfl, Nat.le_of_ble_eq_true rfl⟩ (Nat.le_of_ble_eq_true rfl) (Nat.le_of_ble_eq_true rfl) dL_tapOut_5) (fun q z => Or.inl (Or.inl z)) (rfl : _ = 8) (fun E_5 H5_5 hx_5 o_5 => ?_) (fun v_5 H5_5 hq_5 o_5 => ?_)
  · have ho := ho.off o_5 (fun z => by have := z.2; omega)
    have hE9 : E_5 = "java/lang/IndexOutOfBoundsException" ∨ E_5 = "java/lang/IllegalStateException" := xk_3 hx_5.1 hx_5.2.1
    rcases hE9 with rfl | rfl
    · refine VX_catch Z (pre := []) (x := ⟨0, 10, 13, 19⟩) (suf := [⟨0, 10, 17, 13⟩]) (htab.trans rfl) (fun z hz => nomatch hz) (by decide) (by decide) (by decide) (tm 1031 (by decide +kernel) (by decide +kernel)) (by decide +kernel) rfl (fun q9 => ?_)
      refine V_astore Y.1 (ls' := [(4, _), (0, _), (1, _), (2, _), (3, _)]) dL_tapOut_13 (rfl : _ = 15) (by decide) rfl ?_
      refine V_iconst Y.1 (v := 1) dL_tapOut_15 (rfl : _ = 16) (by decide) ?_
      exact V_ret Y.1 dL_tapOut_16 rfl (Nat.le_of_ble_eq_true rfl) (Nat.le_of_ble_eq_true rfl) (Or.inr ⟨_, hx_5, by rw [if_pos rfl], ho⟩)
    · refine VX_catch Z (pre := [⟨0, 10, 13, 19⟩]) (x := ⟨0, 10, 17, 13⟩) (suf := []) (htab.trans rfl) (fun z hz => by obtain rfl := List.mem_singleton.mp hz; exact Or.inr ⟨by decide, "java/lang/IndexOutOfBoundsException", (tm 1031 (by decide +kernel) (by decide +kernel)), by decide, by decide⟩) (by decide) (by decide) (by decide) (tm 799 (by decide +kernel) (by decide +kernel)) (by decide +kernel) rfl (fun q9 => ?_)
      refine V_astore Y.1 (ls' := [(4, _), (0, _), (1, _), (2, _), (3, _)]) dL_tapOut_17 (rfl : _ = 19) (by decide) rfl ?_
      refine V_iconst Y.1 (v := 2) dL_tapOut_19 (rfl : _ = 20) (by decide) ?_
      exact V_ret Y.1 dL_tapOut_20 rfl (Nat.le_of_ble_eq_true rfl) (Nat.le_of_ble_eq_true rfl) (Or.inr ⟨_, hx_5, by rw [if_neg (by decide)], ho⟩)
  have ho := ho.off o_5 (fun z => by have := z.2; omega)
  refine V_i2l Y.1 dL_tapOut_8 (rfl : _ = 9) rfl ?_
  refine V_last Y.1 ho (Or.inl (Or.inr rfl)) (show ¬ ((0 : Int32) < 0 ∨ 1 ≤ (0 : Int32).toNatClampNeg) by decide) dL_tapOut_9 (rfl : _ = 10) (fun H9_9 h_new o_9 => ?_)
  have ho := h_new
  clear h_new
  refine V_goto Y.1 (tgt := 21) dL_tapOut_10 (by decide) ?_
  refine V_iconst Y.1 (v := 0) dL_tapOut_21 (rfl : _ = 22) (by decide) ?_
  exact V_ret Y.1 dL_tapOut_22 rfl (Nat.le_of_ble_eq_true rfl) (Nat.le_of_ble_eq_true rfl) (Or.inl ⟨rfl, _, _, _, hq_5, o_9, ho, rfl⟩)

set_option maxRecDepth 100000 in
set_option maxHeartbeats 4000000 in
theorem c_L_repair (l : Launch) (D : va_G) (kA : Nat → ClassId) (Hs : Heap) (σ : SG) (H0 : Heap) (hg : Ag Hs H0) (a : Nat) (W : Nat → MS) (π : Nat → Nat) (ES : Nat → Prop) (u : Nat) (hs ep fc : Int32) (no : Nat) (go : Nat → Int32) (vs cs ns : Nat) (gs : Nat → Int32) (x y : Int32) (n d : Nat) (o : Nat) (w0 : Nat → Int64) (hF : Fs D kA H0 a W π ES u hs ep fc no go vs cs ns gs) (hnt : l.stackTraces = false) (hI : MI (W (π 0)) n d) (hbs : Hs.size ≤ a) (ho : hp D H0 o (eL kA 1 w0)) (ho1 : a + 329 ≤ o) (ho2 : o ≠ vs) (ho3 : Hs.size ≤ o) : CtW l D kA Hs σ yL_repair cL_repair 5 (some .int) [(0, 10, 13, 19), (0, 10, 17, 35), (0, 10, 21, 13)] 11 187 9 30 H0 [.ref a, .int x, .int y, .ref o] (fun q => (blk a 329) q ∨ q = o) (pI fun k9 H9 => (k9 = 0 ∧ ∃ r H1 w, (fun (v9 : Int32) (H : Heap) => m_prob (W (π 0)) 4 x y = 0 ∧ v9 = (m_do (W (π 0)) d n 4 x y).1 ∧ Fs D kA H a (va_up (va_up W (π 1) (m_copy (W (π 1)) (W (π 0)) n)) (π 0) (m_do (W (π 0)) d n 4 x y).2) (p_push π u) (gro ES H0 H) (if u < 8 then u + 1 else 8) hs ep fc no go vs cs ns gs) r H1 ∧ sto o H1 H9 ∧ hp D H9 o (eL kA 1 w) ∧ w 0 = r.toInt64) ∨ (∃ E, (fun (E : String) (H : Heap) => E = xcl (m_prob (W (π 0)) 4 x y) ∧ ¬ m_prob (W (π 0)) 4 x y = 0 ∧ Fs D kA H a W π ES u hs ep fc no go vs cs ns gs) E H9 ∧ k9 = (if E = "java/lang/IndexOutOfBoundsException" then 1 else if E = "java/util/NoSuchElementException" then 2 else 3) ∧ hp D H9 o (eL kA 1 w0))) := by
  refine CtW.of mh_L_repair (Nat.le_of_ble_eq_true rfl) (ls0 := [(0, _), (1, _), (2, _), (3, _)]) rfl hg (fun q z => z.elim (fun z => (show ∀ q, (blk a 329) q → Hs.size ≤ q from (fun q z => Nat.le_trans hbs z.1)) q z) (fun z => z ▸ ho3)) ?_
  intro Pp Ee Ss Mm Ar Bl Me Cc Z hsH htab
  have Y := Z.1
  refine V_aload_n Y.1 3 dL_repair_0 (rfl : _ = 1) rfl rfl ?_
  refine V_iconst Y.1 (v := 0) dL_repair_1 (rfl : _ = 2) (by decide) ?_
  refine V_aload_n Y.1 0 dL_repair_2 (rfl : _ = 3) rfl rfl ?_
  refine V_iload_n Y.1 1 dL_repair_3 (rfl : _ = 4) rfl rfl ?_
  refine V_iload_n Y.1 2 dL_repair_4 (rfl : _ = 5) rfl rfl ?_
  refine V_xI Y (sxV Z (c_X5_repair l D kA Hs σ _ hg a W π ES u hs ep fc no go vs cs ns gs x y n d hF hnt hI hbs) mi_X5_repair vi_L_32 rfl hF.1.1 rfl rfl (Nat.le_of_ble_eq_true rfl) ⟨Nat.le_of_ble_eq_true rfl, Nat.le_of_ble_eq_true rfl⟩ (Nat.le_of_ble_eq_true rfl) (Nat.le_of_ble_eq_true rfl) dL_repair_5) (fun q z => Or.inl (Or.inl z)) (rfl : _ = 8) (fun E_5 H5_5 hx_5 o_5 => ?_) (fun v_5 H5_5 hq_5 o_5 => ?_)
  · have ho := ho.off o_5 (fun z => by have := z.2; omega)
    have hE9 : E_5 = "java/lang/IndexOutOfBoundsException" ∨ E_5 = "java/util/NoSuchElementException" ∨ E_5 = "java/lang/IllegalStateException" := xk_4 hx_5.1 hx_5.2.1
    rcases hE9 with rfl | rfl | rfl
    · refine VX_catch Z (pre := []) (x := ⟨0, 10, 13, 19⟩) (suf := [⟨0, 10, 17, 35⟩, ⟨0, 10, 21, 13⟩]) (htab.trans rfl) (fun z hz => nomatch hz) (by decide) (by decide) (by decide) (tm 1031 (by decide +kernel) (by decide +kernel)) (by decide +kernel) rfl (fun q9 => ?_)
      refine V_astore Y.1 (ls' := [(4, _), (0, _), (1, _), (2, _), (3, _)]) dL_repair_13 (rfl : _ = 15) (by decide) rfl ?_
      refine V_iconst Y.1 (v := 1) dL_repair_15 (rfl : _ = 16) (by decide) ?_
      exact V_ret Y.1 dL_repair_16 rfl (Nat.le_of_ble_eq_true rfl) (Nat.le_of_ble_eq_true rfl) (Or.inr ⟨_, hx_5, by rw [if_pos rfl], ho⟩)
    · refine VX_catch Z (pre := [⟨0, 10, 13, 19⟩]) (x := ⟨0, 10, 17, 35⟩) (suf := [⟨0, 10, 21, 13⟩]) (htab.trans rfl) (fun z hz => by obtain rfl := List.mem_singleton.mp hz; exact Or.inr ⟨by decide, "java/lang/IndexOutOfBoundsException", (tm 1031 (by decide +kernel) (by decide +kernel)), by decide, by decide⟩) (by decide) (by decide) (by decide) (tm 1057 (by decide +kernel) (by decide +kernel)) (by decide +kernel) rfl (fun q9 => ?_)
      refine V_astore Y.1 (ls' := [(4, _), (0, _), (1, _), (2, _), (3, _)]) dL_repair_17 (rfl : _ = 19) (by decide) rfl ?_
      refine V_iconst Y.1 (v := 2) dL_repair_19 (rfl : _ = 20) (by decide) ?_
      exact V_ret Y.1 dL_repair_20 rfl (Nat.le_of_ble_eq_true rfl) (Nat.le_of_ble_eq_true rfl) (Or.inr ⟨_, hx_5, by rw [if_neg (by decide), if_pos rfl], ho⟩)
    · refine VX_catch Z (pre := [⟨0, 10, 13, 19⟩, ⟨0, 10, 17, 35⟩]) (x := ⟨0, 10, 21, 13⟩) (suf := []) (htab.trans rfl) (fun z hz => by rcases List.mem_cons.mp hz with rfl | hz; exact Or.inr ⟨by decide, "java/lang/IndexOutOfBoundsException", (tm 1031 (by decide +kernel) (by decide +kernel)), by decide, by decide⟩; obtain rfl := List.mem_singleton.mp hz; exact Or.inr ⟨by decide, "java/util/NoSuchElementException", (tm 1057 (by decide +kernel) (by decide +kernel)), by decide, by decide⟩) (by decide) (by decide) (by decide) (tm 799 (by decide +kernel) (by decide +kernel)) (by decide +kernel) rfl (fun q9 => ?_)
      refine V_astore Y.1 (ls' := [(4, _), (0, _), (1, _), (2, _), (3, _)]) dL_repair_21 (rfl : _ = 23) (by decide) rfl ?_
      refine V_iconst Y.1 (v := 3) dL_repair_23 (rfl : _ = 24) (by decide) ?_
      exact V_ret Y.1 dL_repair_24 rfl (Nat.le_of_ble_eq_true rfl) (Nat.le_of_ble_eq_true rfl) (Or.inr ⟨_, hx_5, by rw [if_neg (by decide), if_neg (by decide)], ho⟩)
  have ho := ho.off o_5 (fun z => by have := z.2; omega)
  refine V_i2l Y.1 dL_repair_8 (rfl : _ = 9) rfl ?_
  refine V_last Y.1 ho (Or.inl (Or.inr rfl)) (show ¬ ((0 : Int32) < 0 ∨ 1 ≤ (0 : Int32).toNatClampNeg) by decide) dL_repair_9 (rfl : _ = 10) (fun H9_9 h_new o_9 => ?_)
  have ho := h_new
  clear h_new
  refine V_goto Y.1 (tgt := 25) dL_repair_10 (by decide) ?_
  refine V_iconst Y.1 (v := 0) dL_repair_25 (rfl : _ = 26) (by decide) ?_
  exact V_ret Y.1 dL_repair_26 rfl (Nat.le_of_ble_eq_true rfl) (Nat.le_of_ble_eq_true rfl) (Or.inl ⟨rfl, _, _, _, hq_5, o_9, ho, rfl⟩)

set_option maxRecDepth 100000 in
set_option maxHeartbeats 4000000 in
theorem c_L_setZone (l : Launch) (D : va_G) (kA : Nat → ClassId) (Hs : Heap) (σ : SG) (H0 : Heap) (hg : Ag Hs H0) (a : Nat) (W : Nat → MS) (π : Nat → Nat) (ES : Nat → Prop) (u : Nat) (hs ep fc : Int32) (no : Nat) (go : Nat → Int32) (vs cs ns : Nat) (gs : Nat → Int32) (x y : Int32) (n d : Nat) (o : Nat) (w0 : Nat → Int64) (hF : Fs D kA H0 a W π ES u hs ep fc no go vs cs ns gs) (hnt : l.stackTraces = false) (hI : MI (W (π 0)) n d) (hbs : Hs.size ≤ a) (ho : hp D H0 o (eL kA 1 w0)) (ho1 : a + 329 ≤ o) (ho2 : o ≠ vs) (ho3 : Hs.size ≤ o) : CtW l D kA Hs σ yL_setZone cL_setZone 5 (some .int) [(0, 10, 13, 19), (0, 10, 17, 21)] 11 187 9 30 H0 [.ref a, .int x, .int y, .ref o] (fun q => (blk a 329) q ∨ q = o) (pI fun k9 H9 => (k9 = 0 ∧ ∃ r H1 w, (fun (v9 : Int32) (H : Heap) => m_prob (W (π 0)) 5 x y = 0 ∧ v9 = (m_do (W (π 0)) d n 5 x y).1 ∧ Fs D kA H a (va_up (va_up W (π 1) (m_copy (W (π 1)) (W (π 0)) n)) (π 0) (m_do (W (π 0)) d n 5 x y).2) (p_push π u) (gro ES H0 H) (if u < 8 then u + 1 else 8) hs ep fc no go vs cs ns gs) r H1 ∧ sto o H1 H9 ∧ hp D H9 o (eL kA 1 w) ∧ w 0 = r.toInt64) ∨ (∃ E, (fun (E : String) (H : Heap) => E = xcl (m_prob (W (π 0)) 5 x y) ∧ ¬ m_prob (W (π 0)) 5 x y = 0 ∧ Fs D kA H a W π ES u hs ep fc no go vs cs ns gs) E H9 ∧ k9 = (if E = "java/lang/IndexOutOfBoundsException" then 1 else 2) ∧ hp D H9 o (eL kA 1 w0))) := by
  refine CtW.of mh_L_setZone (Nat.le_of_ble_eq_true rfl) (ls0 := [(0, _), (1, _), (2, _), (3, _)]) rfl hg (fun q z => z.elim (fun z => (show ∀ q, (blk a 329) q → Hs.size ≤ q from (fun q z => Nat.le_trans hbs z.1)) q z) (fun z => z ▸ ho3)) ?_
  intro Pp Ee Ss Mm Ar Bl Me Cc Z hsH htab
  have Y := Z.1
  refine V_aload_n Y.1 3 dL_setZone_0 (rfl : _ = 1) rfl rfl ?_
  refine V_iconst Y.1 (v := 0) dL_setZone_1 (rfl : _ = 2) (by decide) ?_
  refine V_aload_n Y.1 0 dL_setZone_2 (rfl : _ = 3) rfl rfl ?_
  refine V_iload_n Y.1 1 dL_setZone_3 (rfl : _ = 4) rfl rfl ?_
  refine V_iload_n Y.1 2 dL_setZone_4 (rfl : _ = 5) rfl rfl ?_
  refine V_xI Y (sxV Z (c_X5_setZone l D kA Hs σ _ hg a W π ES u hs ep fc no go vs cs ns gs x y n d hF hnt hI hbs) mi_X5_setZone vi_L_37 rfl hF.1.1 rfl rfl (Nat.le_of_ble_eq_true rfl) ⟨Nat.le_of_ble_eq_true rfl, Nat.le_of_ble_eq_true rfl⟩ (Nat.le_of_ble_eq_true rfl) (Nat.le_of_ble_eq_true rfl) dL_setZone_5) (fun q z => Or.inl (Or.inl z)) (rfl : _ = 8) (fun E_5 H5_5 hx_5 o_5 => ?_) (fun v_5 H5_5 hq_5 o_5 => ?_)
  · have ho := ho.off o_5 (fun z => by have := z.2; omega)
    have hE9 : E_5 = "java/lang/IndexOutOfBoundsException" ∨ E_5 = "java/lang/IllegalArgumentException" := xk_5 hx_5.1 hx_5.2.1
    rcases hE9 with rfl | rfl
    · refine VX_catch Z (pre := []) (x := ⟨0, 10, 13, 19⟩) (suf := [⟨0, 10, 17, 21⟩]) (htab.trans rfl) (fun z hz => nomatch hz) (by decide) (by decide) (by decide) (tm 1031 (by decide +kernel) (by decide +kernel)) (by decide +kernel) rfl (fun q9 => ?_)
      refine V_astore Y.1 (ls' := [(4, _), (0, _), (1, _), (2, _), (3, _)]) dL_setZone_13 (rfl : _ = 15) (by decide) rfl ?_
      refine V_iconst Y.1 (v := 1) dL_setZone_15 (rfl : _ = 16) (by decide) ?_
      exact V_ret Y.1 dL_setZone_16 rfl (Nat.le_of_ble_eq_true rfl) (Nat.le_of_ble_eq_true rfl) (Or.inr ⟨_, hx_5, by rw [if_pos rfl], ho⟩)
    · refine VX_catch Z (pre := [⟨0, 10, 13, 19⟩]) (x := ⟨0, 10, 17, 21⟩) (suf := []) (htab.trans rfl) (fun z hz => by obtain rfl := List.mem_singleton.mp hz; exact Or.inr ⟨by decide, "java/lang/IndexOutOfBoundsException", (tm 1031 (by decide +kernel) (by decide +kernel)), by decide, by decide⟩) (by decide) (by decide) (by decide) (tm 1034 (by decide +kernel) (by decide +kernel)) (by decide +kernel) rfl (fun q9 => ?_)
      refine V_astore Y.1 (ls' := [(4, _), (0, _), (1, _), (2, _), (3, _)]) dL_setZone_17 (rfl : _ = 19) (by decide) rfl ?_
      refine V_iconst Y.1 (v := 2) dL_setZone_19 (rfl : _ = 20) (by decide) ?_
      exact V_ret Y.1 dL_setZone_20 rfl (Nat.le_of_ble_eq_true rfl) (Nat.le_of_ble_eq_true rfl) (Or.inr ⟨_, hx_5, by rw [if_neg (by decide)], ho⟩)
  have ho := ho.off o_5 (fun z => by have := z.2; omega)
  refine V_i2l Y.1 dL_setZone_8 (rfl : _ = 9) rfl ?_
  refine V_last Y.1 ho (Or.inl (Or.inr rfl)) (show ¬ ((0 : Int32) < 0 ∨ 1 ≤ (0 : Int32).toNatClampNeg) by decide) dL_setZone_9 (rfl : _ = 10) (fun H9_9 h_new o_9 => ?_)
  have ho := h_new
  clear h_new
  refine V_goto Y.1 (tgt := 21) dL_setZone_10 (by decide) ?_
  refine V_iconst Y.1 (v := 0) dL_setZone_21 (rfl : _ = 22) (by decide) ?_
  exact V_ret Y.1 dL_setZone_22 rfl (Nat.le_of_ble_eq_true rfl) (Nat.le_of_ble_eq_true rfl) (Or.inl ⟨rfl, _, _, _, hq_5, o_9, ho, rfl⟩)

set_option maxRecDepth 100000 in
set_option maxHeartbeats 4000000 in
theorem c_L_setFares (l : Launch) (D : va_G) (kA : Nat → ClassId) (Hs : Heap) (σ : SG) (H0 : Heap) (hg : Ag Hs H0) (a : Nat) (W : Nat → MS) (π : Nat → Nat) (ES : Nat → Prop) (u : Nat) (hs ep fc : Int32) (no : Nat) (go : Nat → Int32) (vs cs ns : Nat) (gs : Nat → Int32) (x y : Int32) (n d : Nat) (o : Nat) (w0 : Nat → Int64) (hF : Fs D kA H0 a W π ES u hs ep fc no go vs cs ns gs) (hnt : l.stackTraces = false) (hI : MI (W (π 0)) n d) (hbs : Hs.size ≤ a) (ho : hp D H0 o (eL kA 1 w0)) (ho1 : a + 329 ≤ o) (ho2 : o ≠ vs) (ho3 : Hs.size ≤ o) : CtW l D kA Hs σ yL_setFares cL_setFares 5 (some .int) [(0, 10, 13, 21)] 11 187 9 30 H0 [.ref a, .int x, .int y, .ref o] (fun q => (blk a 329) q ∨ q = o) (pI fun k9 H9 => (k9 = 0 ∧ ∃ r H1 w, (fun (v9 : Int32) (H : Heap) => m_prob (W (π 0)) 6 x y = 0 ∧ v9 = (m_do (W (π 0)) d n 6 x y).1 ∧ Fs D kA H a (va_up (va_up W (π 1) (m_copy (W (π 1)) (W (π 0)) n)) (π 0) (m_do (W (π 0)) d n 6 x y).2) (p_push π u) (gro ES H0 H) (if u < 8 then u + 1 else 8) hs ep fc no go vs cs ns gs) r H1 ∧ sto o H1 H9 ∧ hp D H9 o (eL kA 1 w) ∧ w 0 = r.toInt64) ∨ (∃ E, (fun (E : String) (H : Heap) => E = xcl (m_prob (W (π 0)) 6 x y) ∧ ¬ m_prob (W (π 0)) 6 x y = 0 ∧ Fs D kA H a W π ES u hs ep fc no go vs cs ns gs) E H9 ∧ k9 = (1) ∧ hp D H9 o (eL kA 1 w0))) := by
  refine CtW.of mh_L_setFares (Nat.le_of_ble_eq_true rfl) (ls0 := [(0, _), (1, _), (2, _), (3, _)]) rfl hg (fun q z => z.elim (fun z => (show ∀ q, (blk a 329) q → Hs.size ≤ q from (fun q z => Nat.le_trans hbs z.1)) q z) (fun z => z ▸ ho3)) ?_
  intro Pp Ee Ss Mm Ar Bl Me Cc Z hsH htab
  have Y := Z.1
  refine V_aload_n Y.1 3 dL_setFares_0 (rfl : _ = 1) rfl rfl ?_
  refine V_iconst Y.1 (v := 0) dL_setFares_1 (rfl : _ = 2) (by decide) ?_
  refine V_aload_n Y.1 0 dL_setFares_2 (rfl : _ = 3) rfl rfl ?_
  refine V_iload_n Y.1 1 dL_setFares_3 (rfl : _ = 4) rfl rfl ?_
  refine V_iload_n Y.1 2 dL_setFares_4 (rfl : _ = 5) rfl rfl ?_
  refine V_xI Y (sxV Z (c_X5_setFares l D kA Hs σ _ hg a W π ES u hs ep fc no go vs cs ns gs x y n d hF hnt hI hbs) mi_X5_setFares vi_L_40 rfl hF.1.1 rfl rfl (Nat.le_of_ble_eq_true rfl) ⟨Nat.le_of_ble_eq_true rfl, Nat.le_of_ble_eq_true rfl⟩ (Nat.le_of_ble_eq_true rfl) (Nat.le_of_ble_eq_true rfl) dL_setFares_5) (fun q z => Or.inl (Or.inl z)) (rfl : _ = 8) (fun E_5 H5_5 hx_5 o_5 => ?_) (fun v_5 H5_5 hq_5 o_5 => ?_)
  · have ho := ho.off o_5 (fun z => by have := z.2; omega)
    obtain rfl : E_5 = "java/lang/IllegalArgumentException" := xk_6 hx_5.1 hx_5.2.1
    refine VX_catch Z (pre := []) (x := ⟨0, 10, 13, 21⟩) (suf := []) (htab.trans rfl) (fun z hz => nomatch hz) (by decide) (by decide) (by decide) (tm 1034 (by decide +kernel) (by decide +kernel)) (by decide +kernel) rfl (fun q9 => ?_)
    refine V_astore Y.1 (ls' := [(4, _), (0, _), (1, _), (2, _), (3, _)]) dL_setFares_13 (rfl : _ = 15) (by decide) rfl ?_
    refine V_iconst Y.1 (v := 1) dL_setFares_15 (rfl : _ = 16) (by decide) ?_
    exact V_ret Y.1 dL_setFares_16 rfl (Nat.le_of_ble_eq_true rfl) (Nat.le_of_ble_eq_true rfl) (Or.inr ⟨_, hx_5, by rfl, ho⟩)
  have ho := ho.off o_5 (fun z => by have := z.2; omega)
  refine V_i2l Y.1 dL_setFares_8 (rfl : _ = 9) rfl ?_
  refine V_last Y.1 ho (Or.inl (Or.inr rfl)) (show ¬ ((0 : Int32) < 0 ∨ 1 ≤ (0 : Int32).toNatClampNeg) by decide) dL_setFares_9 (rfl : _ = 10) (fun H9_9 h_new o_9 => ?_)
  have ho := h_new
  clear h_new
  refine V_goto Y.1 (tgt := 17) dL_setFares_10 (by decide) ?_
  refine V_iconst Y.1 (v := 0) dL_setFares_17 (rfl : _ = 18) (by decide) ?_
  exact V_ret Y.1 dL_setFares_18 rfl (Nat.le_of_ble_eq_true rfl) (Nat.le_of_ble_eq_true rfl) (Or.inl ⟨rfl, _, _, _, hq_5, o_9, ho, rfl⟩)

set_option maxRecDepth 100000 in
set_option maxHeartbeats 4000000 in
theorem c_L_advance (l : Launch) (D : va_G) (kA : Nat → ClassId) (Hs : Heap) (σ : SG) (H0 : Heap) (hg : Ag Hs H0) (a : Nat) (W : Nat → MS) (π : Nat → Nat) (ES : Nat → Prop) (u : Nat) (hs ep fc : Int32) (no : Nat) (go : Nat → Int32) (vs cs ns : Nat) (gs : Nat → Int32) (x : Int32) (n d : Nat) (o : Nat) (w0 : Nat → Int64) (hF : Fs D kA H0 a W π ES u hs ep fc no go vs cs ns gs) (hnt : l.stackTraces = false) (hI : MI (W (π 0)) n d) (hbs : Hs.size ≤ a) (ho : hp D H0 o (eL kA 1 w0)) (ho1 : a + 329 ≤ o) (ho2 : o ≠ vs) (ho3 : Hs.size ≤ o) : CtW l D kA Hs σ yL_advance cL_advance 4 (some .int) [(0, 9, 12, 21)] 11 186 9 30 H0 [.ref a, .int x, .ref o] (fun q => (blk a 329) q ∨ q = o) (pI fun k9 H9 => (k9 = 0 ∧ ∃ r H1 w, (fun (v9 : Int32) (H : Heap) => m_prob (W (π 0)) 7 x 0 = 0 ∧ v9 = (m_do (W (π 0)) d n 7 x 0).1 ∧ Fs D kA H a (va_up (va_up W (π 1) (m_copy (W (π 1)) (W (π 0)) n)) (π 0) (m_do (W (π 0)) d n 7 x 0).2) (p_push π u) (gro ES H0 H) (if u < 8 then u + 1 else 8) hs ep fc no go vs cs ns gs) r H1 ∧ sto o H1 H9 ∧ hp D H9 o (eL kA 1 w) ∧ w 0 = r.toInt64) ∨ (∃ E, (fun (E : String) (H : Heap) => E = xcl (m_prob (W (π 0)) 7 x 0) ∧ ¬ m_prob (W (π 0)) 7 x 0 = 0 ∧ Fs D kA H a W π ES u hs ep fc no go vs cs ns gs) E H9 ∧ k9 = (1) ∧ hp D H9 o (eL kA 1 w0))) := by
  refine CtW.of mh_L_advance (Nat.le_of_ble_eq_true rfl) (ls0 := [(0, _), (1, _), (2, _)]) rfl hg (fun q z => z.elim (fun z => (show ∀ q, (blk a 329) q → Hs.size ≤ q from (fun q z => Nat.le_trans hbs z.1)) q z) (fun z => z ▸ ho3)) ?_
  intro Pp Ee Ss Mm Ar Bl Me Cc Z hsH htab
  have Y := Z.1
  refine V_aload_n Y.1 2 dL_advance_0 (rfl : _ = 1) rfl rfl ?_
  refine V_iconst Y.1 (v := 0) dL_advance_1 (rfl : _ = 2) (by decide) ?_
  refine V_aload_n Y.1 0 dL_advance_2 (rfl : _ = 3) rfl rfl ?_
  refine V_iload_n Y.1 1 dL_advance_3 (rfl : _ = 4) rfl rfl ?_
  refine V_xI Y (sxV Z (c_X5_advance l D kA Hs σ _ hg a W π ES u hs ep fc no go vs cs ns gs x n d hF hnt hI hbs) mi_X5_advance vi_L_43 rfl hF.1.1 rfl rfl (Nat.le_of_ble_eq_true rfl) ⟨Nat.le_of_ble_eq_true rfl, Nat.le_of_ble_eq_true rfl⟩ (Nat.le_of_ble_eq_true rfl) (Nat.le_of_ble_eq_true rfl) dL_advance_4) (fun q z => Or.inl (Or.inl z)) (rfl : _ = 7) (fun E_4 H4_4 hx_4 o_4 => ?_) (fun v_4 H4_4 hq_4 o_4 => ?_)
  · have ho := ho.off o_4 (fun z => by have := z.2; omega)
    obtain rfl : E_4 = "java/lang/IllegalArgumentException" := xk_7 hx_4.1 hx_4.2.1
    refine VX_catch Z (pre := []) (x := ⟨0, 9, 12, 21⟩) (suf := []) (htab.trans rfl) (fun z hz => nomatch hz) (by decide) (by decide) (by decide) (tm 1034 (by decide +kernel) (by decide +kernel)) (by decide +kernel) rfl (fun q9 => ?_)
    refine V_astore_n Y.1 (ls' := [(3, _), (0, _), (1, _), (2, _)]) dL_advance_12 (rfl : _ = 13) rfl (by decide) rfl ?_
    refine V_iconst Y.1 (v := 1) dL_advance_13 (rfl : _ = 14) (by decide) ?_
    exact V_ret Y.1 dL_advance_14 rfl (Nat.le_of_ble_eq_true rfl) (Nat.le_of_ble_eq_true rfl) (Or.inr ⟨_, hx_4, by rfl, ho⟩)
  have ho := ho.off o_4 (fun z => by have := z.2; omega)
  refine V_i2l Y.1 dL_advance_7 (rfl : _ = 8) rfl ?_
  refine V_last Y.1 ho (Or.inl (Or.inr rfl)) (show ¬ ((0 : Int32) < 0 ∨ 1 ≤ (0 : Int32).toNatClampNeg) by decide) dL_advance_8 (rfl : _ = 9) (fun H8_8 h_new o_8 => ?_)
  have ho := h_new
  clear h_new
  refine V_goto Y.1 (tgt := 15) dL_advance_9 (by decide) ?_
  refine V_iconst Y.1 (v := 0) dL_advance_15 (rfl : _ = 16) (by decide) ?_
  exact V_ret Y.1 dL_advance_16 rfl (Nat.le_of_ble_eq_true rfl) (Nat.le_of_ble_eq_true rfl) (Or.inl ⟨rfl, _, _, _, hq_4, o_8, ho, rfl⟩)

set_option maxRecDepth 100000 in
set_option maxHeartbeats 4000000 in
theorem c_L_zone (l : Launch) (D : va_G) (kA : Nat → ClassId) (Hs : Heap) (σ : SG) (H0 : Heap) (hg : Ag Hs H0) (a : Nat) (W : Nat → MS) (π : Nat → Nat) (ES : Nat → Prop) (u : Nat) (hs ep fc : Int32) (no : Nat) (go : Nat → Int32) (vs cs ns : Nat) (gs : Nat → Int32) (x : Int32) (o : Nat) (w0 : Nat → Int64) (hF : Fs D kA H0 a W π ES u hs ep fc no go vs cs ns gs) (hnt : l.stackTraces = false)  (ho : hp D H0 o (eL kA 1 w0)) (ho1 : a + 329 ≤ o) (ho2 : o ≠ vs) (ho3 : Hs.size ≤ o) : CtW l D kA Hs σ yL_zone cL_zone 4 (some .int) [(0, 9, 12, 19)] 10 161 4 24 H0 [.ref a, .int x, .ref o] (fun q => q = o) (pI fun k9 H9 => (k9 = 0 ∧ ∃ r H1 w, (fun (v9 : Int32) (H : Heap) => v9 = (W (π 0)).2.1 x.toNatClampNeg ∧ H = H0 ∧ ¬ b_st x = 0) r H1 ∧ sto o H1 H9 ∧ hp D H9 o (eL kA 1 w) ∧ w 0 = r.toInt64) ∨ (∃ E, (fun (E : String) (H : Heap) => (E = "java/lang/IndexOutOfBoundsException" ∧ b_st x = 0)) E H9 ∧ k9 = (1) ∧ hp D H9 o (eL kA 1 w0))) := by
  refine CtW.of mh_L_zone (Nat.le_of_ble_eq_true rfl) (ls0 := [(0, _), (1, _), (2, _)]) rfl hg (fun q z => z ▸ ho3) ?_
  intro Pp Ee Ss Mm Ar Bl Me Cc Z hsH htab
  have Y := Z.1
  refine V_aload_n Y.1 2 dL_zone_0 (rfl : _ = 1) rfl rfl ?_
  refine V_iconst Y.1 (v := 0) dL_zone_1 (rfl : _ = 2) (by decide) ?_
  refine V_aload_n Y.1 0 dL_zone_2 (rfl : _ = 3) rfl rfl ?_
  refine V_iload_n Y.1 1 dL_zone_3 (rfl : _ = 4) rfl rfl ?_
  refine V_xI Y (sxV Z (c_X5_zone l D kA Hs σ _ hg a W π ES u hs ep fc no go vs cs ns gs x hF hnt) mi_X5_zone vi_L_47 rfl hF.1.1 rfl rfl (Nat.le_of_ble_eq_true rfl) ⟨Nat.le_of_ble_eq_true rfl, Nat.le_of_ble_eq_true rfl⟩ (Nat.le_of_ble_eq_true rfl) (Nat.le_of_ble_eq_true rfl) dL_zone_4) (fun _ z => z.elim) (rfl : _ = 7) (fun E_4 H4_4 hx_4 o_4 => ?_) (fun v_4 H4_4 hq_4 o_4 => ?_)
  · have ho := ho.off o_4 (fun z => z)
    obtain rfl : E_4 = "java/lang/IndexOutOfBoundsException" := (by first | exact hx_4.1 | exact hx_4.elim (fun z => Or.inl z.1) (fun z => Or.inr z.1) | exact hx_4.1.elim (fun z => Or.inl z.1) (fun z => Or.inr z.1))
    refine VX_catch Z (pre := []) (x := ⟨0, 9, 12, 19⟩) (suf := []) (htab.trans rfl) (fun z hz => nomatch hz) (by decide) (by decide) (by decide) (tm 1031 (by decide +kernel) (by decide +kernel)) (by decide +kernel) rfl (fun q9 => ?_)
    refine V_astore_n Y.1 (ls' := [(3, _), (0, _), (1, _), (2, _)]) dL_zone_12 (rfl : _ = 13) rfl (by decide) rfl ?_
    refine V_iconst Y.1 (v := 1) dL_zone_13 (rfl : _ = 14) (by decide) ?_
    exact V_ret Y.1 dL_zone_14 rfl (Nat.le_of_ble_eq_true rfl) (Nat.le_of_ble_eq_true rfl) (Or.inr ⟨_, hx_4, by rfl, ho⟩)
  have ho := ho.off o_4 (fun z => z)
  refine V_i2l Y.1 dL_zone_7 (rfl : _ = 8) rfl ?_
  refine V_last Y.1 ho (Or.inl rfl) (show ¬ ((0 : Int32) < 0 ∨ 1 ≤ (0 : Int32).toNatClampNeg) by decide) dL_zone_8 (rfl : _ = 9) (fun H8_8 h_new o_8 => ?_)
  have ho := h_new
  clear h_new
  refine V_goto Y.1 (tgt := 15) dL_zone_9 (by decide) ?_
  refine V_iconst Y.1 (v := 0) dL_zone_15 (rfl : _ = 16) (by decide) ?_
  exact V_ret Y.1 dL_zone_16 rfl (Nat.le_of_ble_eq_true rfl) (Nat.le_of_ble_eq_true rfl) (Or.inl ⟨rfl, _, _, _, hq_4, o_8, ho, rfl⟩)

set_option maxRecDepth 100000 in
set_option maxHeartbeats 4000000 in
theorem c_L_zoneCount (l : Launch) (D : va_G) (kA : Nat → ClassId) (Hs : Heap) (σ : SG) (H0 : Heap) (hg : Ag Hs H0) (a : Nat) (W : Nat → MS) (π : Nat → Nat) (ES : Nat → Prop) (u : Nat) (hs ep fc : Int32) (no : Nat) (go : Nat → Int32) (vs cs ns : Nat) (gs : Nat → Int32) (x y : Int32) (o : Nat) (w0 : Nat → Int64) (hF : Fs D kA H0 a W π ES u hs ep fc no go vs cs ns gs) (hnt : l.stackTraces = false)  (ho : hp D H0 o (eL kA 1 w0)) (ho1 : a + 329 ≤ o) (ho2 : o ≠ vs) (ho3 : Hs.size ≤ o) : CtW l D kA Hs σ yL_zoneCount cL_zoneCount 5 (some .int) [(0, 10, 13, 19)] 10 162 4 24 H0 [.ref a, .int x, .int y, .ref o] (fun q => q = o) (pI fun k9 H9 => (k9 = 0 ∧ ∃ r H1 w, (fun (v9 : Int32) (H : Heap) => v9 = ln_cnt (W (π 0)).2.1 x.toNatClampNeg y.toNatClampNeg ∧ H = H0 ∧ ¬ b_st x = 0 ∧ ¬ b_st y = 0) r H1 ∧ sto o H1 H9 ∧ hp D H9 o (eL kA 1 w) ∧ w 0 = r.toInt64) ∨ (∃ E, (fun (E : String) (H : Heap) => (E = "java/lang/IndexOutOfBoundsException" ∧ (b_st x = 0 ∨ b_st y = 0))) E H9 ∧ k9 = (1) ∧ hp D H9 o (eL kA 1 w0))) := by
  refine CtW.of mh_L_zoneCount (Nat.le_of_ble_eq_true rfl) (ls0 := [(0, _), (1, _), (2, _), (3, _)]) rfl hg (fun q z => z ▸ ho3) ?_
  intro Pp Ee Ss Mm Ar Bl Me Cc Z hsH htab
  have Y := Z.1
  refine V_aload_n Y.1 3 dL_zoneCount_0 (rfl : _ = 1) rfl rfl ?_
  refine V_iconst Y.1 (v := 0) dL_zoneCount_1 (rfl : _ = 2) (by decide) ?_
  refine V_aload_n Y.1 0 dL_zoneCount_2 (rfl : _ = 3) rfl rfl ?_
  refine V_iload_n Y.1 1 dL_zoneCount_3 (rfl : _ = 4) rfl rfl ?_
  refine V_iload_n Y.1 2 dL_zoneCount_4 (rfl : _ = 5) rfl rfl ?_
  refine V_xI Y (sxV Z (c_X5_zoneCount l D kA Hs σ _ hg a W π ES u hs ep fc no go vs cs ns gs x y hF hnt) mi_X5_zoneCount vi_L_50 rfl hF.1.1 rfl rfl (Nat.le_of_ble_eq_true rfl) ⟨Nat.le_of_ble_eq_true rfl, Nat.le_of_ble_eq_true rfl⟩ (Nat.le_of_ble_eq_true rfl) (Nat.le_of_ble_eq_true rfl) dL_zoneCount_5) (fun _ z => z.elim) (rfl : _ = 8) (fun E_5 H5_5 hx_5 o_5 => ?_) (fun v_5 H5_5 hq_5 o_5 => ?_)
  · have ho := ho.off o_5 (fun z => z)
    obtain rfl : E_5 = "java/lang/IndexOutOfBoundsException" := (by first | exact hx_5.1 | exact hx_5.elim (fun z => Or.inl z.1) (fun z => Or.inr z.1) | exact hx_5.1.elim (fun z => Or.inl z.1) (fun z => Or.inr z.1))
    refine VX_catch Z (pre := []) (x := ⟨0, 10, 13, 19⟩) (suf := []) (htab.trans rfl) (fun z hz => nomatch hz) (by decide) (by decide) (by decide) (tm 1031 (by decide +kernel) (by decide +kernel)) (by decide +kernel) rfl (fun q9 => ?_)
    refine V_astore Y.1 (ls' := [(4, _), (0, _), (1, _), (2, _), (3, _)]) dL_zoneCount_13 (rfl : _ = 15) (by decide) rfl ?_
    refine V_iconst Y.1 (v := 1) dL_zoneCount_15 (rfl : _ = 16) (by decide) ?_
    exact V_ret Y.1 dL_zoneCount_16 rfl (Nat.le_of_ble_eq_true rfl) (Nat.le_of_ble_eq_true rfl) (Or.inr ⟨_, hx_5, by rfl, ho⟩)
  have ho := ho.off o_5 (fun z => z)
  refine V_i2l Y.1 dL_zoneCount_8 (rfl : _ = 9) rfl ?_
  refine V_last Y.1 ho (Or.inl rfl) (show ¬ ((0 : Int32) < 0 ∨ 1 ≤ (0 : Int32).toNatClampNeg) by decide) dL_zoneCount_9 (rfl : _ = 10) (fun H9_9 h_new o_9 => ?_)
  have ho := h_new
  clear h_new
  refine V_goto Y.1 (tgt := 17) dL_zoneCount_10 (by decide) ?_
  refine V_iconst Y.1 (v := 0) dL_zoneCount_17 (rfl : _ = 18) (by decide) ?_
  exact V_ret Y.1 dL_zoneCount_18 rfl (Nat.le_of_ble_eq_true rfl) (Nat.le_of_ble_eq_true rfl) (Or.inl ⟨rfl, _, _, _, hq_5, o_9, ho, rfl⟩)

set_option maxRecDepth 100000 in
set_option maxHeartbeats 4000000 in
theorem c_L_zoneCountByComparing (l : Launch) (D : va_G) (kA : Nat → ClassId) (Hs : Heap) (σ : SG) (H0 : Heap) (hg : Ag Hs H0) (a : Nat) (W : Nat → MS) (π : Nat → Nat) (ES : Nat → Prop) (u : Nat) (hs ep fc : Int32) (no : Nat) (go : Nat → Int32) (vs cs ns : Nat) (gs : Nat → Int32) (x y : Int32) (o : Nat) (w0 : Nat → Int64) (hF : Fs D kA H0 a W π ES u hs ep fc no go vs cs ns gs) (hnt : l.stackTraces = false)  (ho : hp D H0 o (eL kA 1 w0)) (ho1 : a + 329 ≤ o) (ho2 : o ≠ vs) (ho3 : Hs.size ≤ o) : CtW l D kA Hs σ yL_zoneCountByComparing cL_zoneCountByComparing 5 (some .int) [(0, 10, 13, 19)] 10 162 4 24 H0 [.ref a, .int x, .int y, .ref o] (fun q => q = o) (pI fun k9 H9 => (k9 = 0 ∧ ∃ r H1 w, (fun (v9 : Int32) (H : Heap) => v9 = nI (ln_pairs (W (π 0)).2.1 x.toNatClampNeg y.toNatClampNeg) ∧ H = H0 ∧ ¬ b_st x = 0 ∧ ¬ b_st y = 0) r H1 ∧ sto o H1 H9 ∧ hp D H9 o (eL kA 1 w) ∧ w 0 = r.toInt64) ∨ (∃ E, (fun (E : String) (H : Heap) => (E = "java/lang/IndexOutOfBoundsException" ∧ (b_st x = 0 ∨ b_st y = 0))) E H9 ∧ k9 = (1) ∧ hp D H9 o (eL kA 1 w0))) := by
  refine CtW.of mh_L_zoneCountByComparing (Nat.le_of_ble_eq_true rfl) (ls0 := [(0, _), (1, _), (2, _), (3, _)]) rfl hg (fun q z => z ▸ ho3) ?_
  intro Pp Ee Ss Mm Ar Bl Me Cc Z hsH htab
  have Y := Z.1
  refine V_aload_n Y.1 3 dL_zoneCountByComparing_0 (rfl : _ = 1) rfl rfl ?_
  refine V_iconst Y.1 (v := 0) dL_zoneCountByComparing_1 (rfl : _ = 2) (by decide) ?_
  refine V_aload_n Y.1 0 dL_zoneCountByComparing_2 (rfl : _ = 3) rfl rfl ?_
  refine V_iload_n Y.1 1 dL_zoneCountByComparing_3 (rfl : _ = 4) rfl rfl ?_
  refine V_iload_n Y.1 2 dL_zoneCountByComparing_4 (rfl : _ = 5) rfl rfl ?_
  refine V_xI Y (sxV Z (c_X5_zoneCountByComparing l D kA Hs σ _ hg a W π ES u hs ep fc no go vs cs ns gs x y hF hnt) mi_X5_zoneCountByComparing vi_L_53 rfl hF.1.1 rfl rfl (Nat.le_of_ble_eq_true rfl) ⟨Nat.le_of_ble_eq_true rfl, Nat.le_of_ble_eq_true rfl⟩ (Nat.le_of_ble_eq_true rfl) (Nat.le_of_ble_eq_true rfl) dL_zoneCountByComparing_5) (fun _ z => z.elim) (rfl : _ = 8) (fun E_5 H5_5 hx_5 o_5 => ?_) (fun v_5 H5_5 hq_5 o_5 => ?_)
  · have ho := ho.off o_5 (fun z => z)
    obtain rfl : E_5 = "java/lang/IndexOutOfBoundsException" := (by first | exact hx_5.1 | exact hx_5.elim (fun z => Or.inl z.1) (fun z => Or.inr z.1) | exact hx_5.1.elim (fun z => Or.inl z.1) (fun z => Or.inr z.1))
    refine VX_catch Z (pre := []) (x := ⟨0, 10, 13, 19⟩) (suf := []) (htab.trans rfl) (fun z hz => nomatch hz) (by decide) (by decide) (by decide) (tm 1031 (by decide +kernel) (by decide +kernel)) (by decide +kernel) rfl (fun q9 => ?_)
    refine V_astore Y.1 (ls' := [(4, _), (0, _), (1, _), (2, _), (3, _)]) dL_zoneCountByComparing_13 (rfl : _ = 15) (by decide) rfl ?_
    refine V_iconst Y.1 (v := 1) dL_zoneCountByComparing_15 (rfl : _ = 16) (by decide) ?_
    exact V_ret Y.1 dL_zoneCountByComparing_16 rfl (Nat.le_of_ble_eq_true rfl) (Nat.le_of_ble_eq_true rfl) (Or.inr ⟨_, hx_5, by rfl, ho⟩)
  have ho := ho.off o_5 (fun z => z)
  refine V_i2l Y.1 dL_zoneCountByComparing_8 (rfl : _ = 9) rfl ?_
  refine V_last Y.1 ho (Or.inl rfl) (show ¬ ((0 : Int32) < 0 ∨ 1 ≤ (0 : Int32).toNatClampNeg) by decide) dL_zoneCountByComparing_9 (rfl : _ = 10) (fun H9_9 h_new o_9 => ?_)
  have ho := h_new
  clear h_new
  refine V_goto Y.1 (tgt := 17) dL_zoneCountByComparing_10 (by decide) ?_
  refine V_iconst Y.1 (v := 0) dL_zoneCountByComparing_17 (rfl : _ = 18) (by decide) ?_
  exact V_ret Y.1 dL_zoneCountByComparing_18 rfl (Nat.le_of_ble_eq_true rfl) (Nat.le_of_ble_eq_true rfl) (Or.inl ⟨rfl, _, _, _, hq_5, o_9, ho, rfl⟩)

set_option maxRecDepth 100000 in
set_option maxHeartbeats 4000000 in
theorem c_L_fare (l : Launch) (D : va_G) (kA : Nat → ClassId) (Hs : Heap) (σ : SG) (H0 : Heap) (hg : Ag Hs H0) (a : Nat) (W : Nat → MS) (π : Nat → Nat) (ES : Nat → Prop) (u : Nat) (hs ep fc : Int32) (no : Nat) (go : Nat → Int32) (vs cs ns : Nat) (gs : Nat → Int32) (x y : Int32) (o : Nat) (w0 : Nat → Int64) (hF : Fs D kA H0 a W π ES u hs ep fc no go vs cs ns gs) (hnt : l.stackTraces = false)  (ho : hp D H0 o (eL kA 1 w0)) (ho1 : a + 329 ≤ o) (ho2 : o ≠ vs) (ho3 : Hs.size ≤ o) : CtW l D kA Hs σ yL_fare cL_fare 5 (some .int) [(0, 10, 13, 19)] 10 162 4 24 H0 [.ref a, .int x, .int y, .ref o] (fun q => q = o) (pI fun k9 H9 => (k9 = 0 ∧ ∃ r H1 w, (fun (v9 : Int32) (H : Heap) => v9 = ln_fare (W (π 0)).2.1 ((W (π 0)).1 7) ((W (π 0)).1 8) x.toNatClampNeg y.toNatClampNeg ∧ H = H0 ∧ ¬ b_st x = 0 ∧ ¬ b_st y = 0) r H1 ∧ sto o H1 H9 ∧ hp D H9 o (eL kA 1 w) ∧ w 0 = r.toInt64) ∨ (∃ E, (fun (E : String) (H : Heap) => (E = "java/lang/IndexOutOfBoundsException" ∧ (b_st x = 0 ∨ b_st y = 0))) E H9 ∧ k9 = (1) ∧ hp D H9 o (eL kA 1 w0))) := by
  refine CtW.of mh_L_fare (Nat.le_of_ble_eq_true rfl) (ls0 := [(0, _), (1, _), (2, _), (3, _)]) rfl hg (fun q z => z ▸ ho3) ?_
  intro Pp Ee Ss Mm Ar Bl Me Cc Z hsH htab
  have Y := Z.1
  refine V_aload_n Y.1 3 dL_fare_0 (rfl : _ = 1) rfl rfl ?_
  refine V_iconst Y.1 (v := 0) dL_fare_1 (rfl : _ = 2) (by decide) ?_
  refine V_aload_n Y.1 0 dL_fare_2 (rfl : _ = 3) rfl rfl ?_
  refine V_iload_n Y.1 1 dL_fare_3 (rfl : _ = 4) rfl rfl ?_
  refine V_iload_n Y.1 2 dL_fare_4 (rfl : _ = 5) rfl rfl ?_
  refine V_xI Y (sxV Z (c_X5_fare l D kA Hs σ _ hg a W π ES u hs ep fc no go vs cs ns gs x y hF hnt) mi_X5_fare vi_L_56 rfl hF.1.1 rfl rfl (Nat.le_of_ble_eq_true rfl) ⟨Nat.le_of_ble_eq_true rfl, Nat.le_of_ble_eq_true rfl⟩ (Nat.le_of_ble_eq_true rfl) (Nat.le_of_ble_eq_true rfl) dL_fare_5) (fun _ z => z.elim) (rfl : _ = 8) (fun E_5 H5_5 hx_5 o_5 => ?_) (fun v_5 H5_5 hq_5 o_5 => ?_)
  · have ho := ho.off o_5 (fun z => z)
    obtain rfl : E_5 = "java/lang/IndexOutOfBoundsException" := (by first | exact hx_5.1 | exact hx_5.elim (fun z => Or.inl z.1) (fun z => Or.inr z.1) | exact hx_5.1.elim (fun z => Or.inl z.1) (fun z => Or.inr z.1))
    refine VX_catch Z (pre := []) (x := ⟨0, 10, 13, 19⟩) (suf := []) (htab.trans rfl) (fun z hz => nomatch hz) (by decide) (by decide) (by decide) (tm 1031 (by decide +kernel) (by decide +kernel)) (by decide +kernel) rfl (fun q9 => ?_)
    refine V_astore Y.1 (ls' := [(4, _), (0, _), (1, _), (2, _), (3, _)]) dL_fare_13 (rfl : _ = 15) (by decide) rfl ?_
    refine V_iconst Y.1 (v := 1) dL_fare_15 (rfl : _ = 16) (by decide) ?_
    exact V_ret Y.1 dL_fare_16 rfl (Nat.le_of_ble_eq_true rfl) (Nat.le_of_ble_eq_true rfl) (Or.inr ⟨_, hx_5, by rfl, ho⟩)
  have ho := ho.off o_5 (fun z => z)
  refine V_i2l Y.1 dL_fare_8 (rfl : _ = 9) rfl ?_
  refine V_last Y.1 ho (Or.inl rfl) (show ¬ ((0 : Int32) < 0 ∨ 1 ≤ (0 : Int32).toNatClampNeg) by decide) dL_fare_9 (rfl : _ = 10) (fun H9_9 h_new o_9 => ?_)
  have ho := h_new
  clear h_new
  refine V_goto Y.1 (tgt := 17) dL_fare_10 (by decide) ?_
  refine V_iconst Y.1 (v := 0) dL_fare_17 (rfl : _ = 18) (by decide) ?_
  exact V_ret Y.1 dL_fare_18 rfl (Nat.le_of_ble_eq_true rfl) (Nat.le_of_ble_eq_true rfl) (Or.inl ⟨rfl, _, _, _, hq_5, o_9, ho, rfl⟩)

set_option maxRecDepth 100000 in
set_option maxHeartbeats 4000000 in
theorem c_L_taps (l : Launch) (D : va_G) (kA : Nat → ClassId) (Hs : Heap) (σ : SG) (H0 : Heap) (hg : Ag Hs H0) (a : Nat) (W : Nat → MS) (π : Nat → Nat) (ES : Nat → Prop) (u : Nat) (hs ep fc : Int32) (no : Nat) (go : Nat → Int32) (vs cs ns : Nat) (gs : Nat → Int32) (x : Int32) (o : Nat) (w0 : Nat → Int64) (hF : Fs D kA H0 a W π ES u hs ep fc no go vs cs ns gs) (hnt : l.stackTraces = false)  (ho : hp D H0 o (eL kA 1 w0)) (ho1 : a + 329 ≤ o) (ho2 : o ≠ vs) (ho3 : Hs.size ≤ o) : CtW l D kA Hs σ yL_taps cL_taps 4 (some .int) [(0, 9, 12, 19)] 10 161 4 24 H0 [.ref a, .int x, .ref o] (fun q => q = o) (pI fun k9 H9 => (k9 = 0 ∧ ∃ r H1 w, (fun (v9 : Int32) (H : Heap) => v9 = (W (π 0)).2.2.1 x.toNatClampNeg ∧ H = H0 ∧ ¬ b_st x = 0) r H1 ∧ sto o H1 H9 ∧ hp D H9 o (eL kA 1 w) ∧ w 0 = r.toInt64) ∨ (∃ E, (fun (E : String) (H : Heap) => (E = "java/lang/IndexOutOfBoundsException" ∧ b_st x = 0)) E H9 ∧ k9 = (1) ∧ hp D H9 o (eL kA 1 w0))) := by
  refine CtW.of mh_L_taps (Nat.le_of_ble_eq_true rfl) (ls0 := [(0, _), (1, _), (2, _)]) rfl hg (fun q z => z ▸ ho3) ?_
  intro Pp Ee Ss Mm Ar Bl Me Cc Z hsH htab
  have Y := Z.1
  refine V_aload_n Y.1 2 dL_taps_0 (rfl : _ = 1) rfl rfl ?_
  refine V_iconst Y.1 (v := 0) dL_taps_1 (rfl : _ = 2) (by decide) ?_
  refine V_aload_n Y.1 0 dL_taps_2 (rfl : _ = 3) rfl rfl ?_
  refine V_iload_n Y.1 1 dL_taps_3 (rfl : _ = 4) rfl rfl ?_
  refine V_xI Y (sxV Z (c_X5_taps l D kA Hs σ _ hg a W π ES u hs ep fc no go vs cs ns gs x hF hnt) mi_X5_taps vi_L_59 rfl hF.1.1 rfl rfl (Nat.le_of_ble_eq_true rfl) ⟨Nat.le_of_ble_eq_true rfl, Nat.le_of_ble_eq_true rfl⟩ (Nat.le_of_ble_eq_true rfl) (Nat.le_of_ble_eq_true rfl) dL_taps_4) (fun _ z => z.elim) (rfl : _ = 7) (fun E_4 H4_4 hx_4 o_4 => ?_) (fun v_4 H4_4 hq_4 o_4 => ?_)
  · have ho := ho.off o_4 (fun z => z)
    obtain rfl : E_4 = "java/lang/IndexOutOfBoundsException" := (by first | exact hx_4.1 | exact hx_4.elim (fun z => Or.inl z.1) (fun z => Or.inr z.1) | exact hx_4.1.elim (fun z => Or.inl z.1) (fun z => Or.inr z.1))
    refine VX_catch Z (pre := []) (x := ⟨0, 9, 12, 19⟩) (suf := []) (htab.trans rfl) (fun z hz => nomatch hz) (by decide) (by decide) (by decide) (tm 1031 (by decide +kernel) (by decide +kernel)) (by decide +kernel) rfl (fun q9 => ?_)
    refine V_astore_n Y.1 (ls' := [(3, _), (0, _), (1, _), (2, _)]) dL_taps_12 (rfl : _ = 13) rfl (by decide) rfl ?_
    refine V_iconst Y.1 (v := 1) dL_taps_13 (rfl : _ = 14) (by decide) ?_
    exact V_ret Y.1 dL_taps_14 rfl (Nat.le_of_ble_eq_true rfl) (Nat.le_of_ble_eq_true rfl) (Or.inr ⟨_, hx_4, by rfl, ho⟩)
  have ho := ho.off o_4 (fun z => z)
  refine V_i2l Y.1 dL_taps_7 (rfl : _ = 8) rfl ?_
  refine V_last Y.1 ho (Or.inl rfl) (show ¬ ((0 : Int32) < 0 ∨ 1 ≤ (0 : Int32).toNatClampNeg) by decide) dL_taps_8 (rfl : _ = 9) (fun H8_8 h_new o_8 => ?_)
  have ho := h_new
  clear h_new
  refine V_goto Y.1 (tgt := 15) dL_taps_9 (by decide) ?_
  refine V_iconst Y.1 (v := 0) dL_taps_15 (rfl : _ = 16) (by decide) ?_
  exact V_ret Y.1 dL_taps_16 rfl (Nat.le_of_ble_eq_true rfl) (Nat.le_of_ble_eq_true rfl) (Or.inl ⟨rfl, _, _, _, hq_4, o_8, ho, rfl⟩)

set_option maxRecDepth 100000 in
set_option maxHeartbeats 4000000 in
theorem c_L_stationByTaps (l : Launch) (D : va_G) (kA : Nat → ClassId) (Hs : Heap) (σ : SG) (H0 : Heap) (hg : Ag Hs H0) (a : Nat) (W : Nat → MS) (π : Nat → Nat) (ES : Nat → Prop) (u : Nat) (hs ep fc : Int32) (no : Nat) (go : Nat → Int32) (vs cs ns : Nat) (gs : Nat → Int32) (x : Int32)  (o : Nat) (w0 : Nat → Int64) (hF : Fs D kA H0 a W π ES u hs ep fc no go vs cs ns gs) (hnt : l.stackTraces = false)  (ho : hp D H0 o (eL kA 1 w0)) (ho1 : a + 329 ≤ o) (ho2 : o ≠ vs) (ho3 : Hs.size ≤ o) : CtW l D kA Hs σ yL_stationByTaps cL_stationByTaps 4 (some .int) [(0, 9, 12, 35)] 9 142 4 24 H0 [.ref a, .int x, .ref o] (fun q => q = o) (pI fun k9 H9 => (k9 = 0 ∧ ∃ r H1 w, (fun (v9 : Int32) (H : Heap) => H = H0 ∧ ∃ i, i < 12 ∧ v9 = nI i ∧ nI (ln_rk (W (π 0)).2.2.1 i 12) = x ∧ ∀ j, j < i → ¬ nI (ln_rk (W (π 0)).2.2.1 j 12) = x) r H1 ∧ sto o H1 H9 ∧ hp D H9 o (eL kA 1 w) ∧ w 0 = r.toInt64) ∨ (∃ E, (fun (E : String) (H : Heap) => E = "java/util/NoSuchElementException" ∧ ∀ j, j < 12 → ¬ nI (ln_rk (W (π 0)).2.2.1 j 12) = x) E H9 ∧ k9 = (1) ∧ hp D H9 o (eL kA 1 w0))) := by
  refine CtW.of mh_L_stationByTaps (Nat.le_of_ble_eq_true rfl) (ls0 := [(0, _), (1, _), (2, _)]) rfl hg (fun q z => z ▸ ho3) ?_
  intro Pp Ee Ss Mm Ar Bl Me Cc Z hsH htab
  have Y := Z.1
  refine V_aload_n Y.1 2 dL_stationByTaps_0 (rfl : _ = 1) rfl rfl ?_
  refine V_iconst Y.1 (v := 0) dL_stationByTaps_1 (rfl : _ = 2) (by decide) ?_
  refine V_aload_n Y.1 0 dL_stationByTaps_2 (rfl : _ = 3) rfl rfl ?_
  refine V_iload_n Y.1 1 dL_stationByTaps_3 (rfl : _ = 4) rfl rfl ?_
  refine V_xI Y (sxV Z (c_X5_stationByTaps l D kA Hs σ _ hg a W π ES u hs ep fc no go vs cs ns gs x hF hnt) mi_X5_stationByTaps vi_L_62 rfl hF.1.1 rfl rfl (Nat.le_of_ble_eq_true rfl) ⟨Nat.le_of_ble_eq_true rfl, Nat.le_of_ble_eq_true rfl⟩ (Nat.le_of_ble_eq_true rfl) (Nat.le_of_ble_eq_true rfl) dL_stationByTaps_4) (fun _ z => z.elim) (rfl : _ = 7) (fun E_4 H4_4 hx_4 o_4 => ?_) (fun v_4 H4_4 hq_4 o_4 => ?_)
  · have ho := ho.off o_4 (fun z => z)
    obtain rfl : E_4 = "java/util/NoSuchElementException" := (by first | exact hx_4.1 | exact hx_4.elim (fun z => Or.inl z.1) (fun z => Or.inr z.1) | exact hx_4.1.elim (fun z => Or.inl z.1) (fun z => Or.inr z.1))
    refine VX_catch Z (pre := []) (x := ⟨0, 9, 12, 35⟩) (suf := []) (htab.trans rfl) (fun z hz => nomatch hz) (by decide) (by decide) (by decide) (tm 1057 (by decide +kernel) (by decide +kernel)) (by decide +kernel) rfl (fun q9 => ?_)
    refine V_astore_n Y.1 (ls' := [(3, _), (0, _), (1, _), (2, _)]) dL_stationByTaps_12 (rfl : _ = 13) rfl (by decide) rfl ?_
    refine V_iconst Y.1 (v := 1) dL_stationByTaps_13 (rfl : _ = 14) (by decide) ?_
    exact V_ret Y.1 dL_stationByTaps_14 rfl (Nat.le_of_ble_eq_true rfl) (Nat.le_of_ble_eq_true rfl) (Or.inr ⟨_, hx_4, by rfl, ho⟩)
  have ho := ho.off o_4 (fun z => z)
  refine V_i2l Y.1 dL_stationByTaps_7 (rfl : _ = 8) rfl ?_
  refine V_last Y.1 ho (Or.inl rfl) (show ¬ ((0 : Int32) < 0 ∨ 1 ≤ (0 : Int32).toNatClampNeg) by decide) dL_stationByTaps_8 (rfl : _ = 9) (fun H8_8 h_new o_8 => ?_)
  have ho := h_new
  clear h_new
  refine V_goto Y.1 (tgt := 15) dL_stationByTaps_9 (by decide) ?_
  refine V_iconst Y.1 (v := 0) dL_stationByTaps_15 (rfl : _ = 16) (by decide) ?_
  exact V_ret Y.1 dL_stationByTaps_16 rfl (Nat.le_of_ble_eq_true rfl) (Nat.le_of_ble_eq_true rfl) (Or.inl ⟨rfl, _, _, _, hq_4, o_8, ho, rfl⟩)

set_option maxRecDepth 100000 in
set_option maxHeartbeats 4000000 in
theorem c_L_isReduced (l : Launch) (D : va_G) (kA : Nat → ClassId) (Hs : Heap) (σ : SG) (H0 : Heap) (hg : Ag Hs H0) (a : Nat) (W : Nat → MS) (π : Nat → Nat) (ES : Nat → Prop) (u : Nat) (hs ep fc : Int32) (no : Nat) (go : Nat → Int32) (vs cs ns : Nat) (gs : Nat → Int32) (x : Int32)  (o : Nat) (w0 : Nat → Int64) (hF : Fs D kA H0 a W π ES u hs ep fc no go vs cs ns gs) (hnt : l.stackTraces = false) (hok : ∀ i : Nat, nI i < (W (π 0)).1 0 → i < 8 → k_ok ((W (π 0)).2.2.2.1 i)) (ho : hp D H0 o (eL kA 1 w0)) (ho1 : a + 329 ≤ o) (ho2 : o ≠ vs) (ho3 : Hs.size ≤ o) : CtW l D kA Hs σ yL_isReduced cL_isReduced 4 (some .int) [(0, 16, 19, 19)] 10 162 4 24 H0 [.ref a, .int x, .ref o] (fun q => q = o) (pI fun k9 H9 => (k9 = 0 ∧ ∃ r H1 w, (fun (v9 : Int32) (H : Heap) => v9 = (m_c (W (π 0)) x).1 0 ∧ H = H0 ∧ ¬ b_card (W (π 0)) x = 0) r H1 ∧ sto o H1 H9 ∧ hp D H9 o (eL kA 1 w) ∧ w 0 = (if r = 0 then 0 else 1)) ∨ (∃ E, (fun (E : String) (H : Heap) => (E = "java/lang/IndexOutOfBoundsException" ∧ b_card (W (π 0)) x = 0)) E H9 ∧ k9 = (1) ∧ hp D H9 o (eL kA 1 w0))) := by
  refine CtW.of mh_L_isReduced (Nat.le_of_ble_eq_true rfl) (ls0 := [(0, _), (1, _), (2, _)]) rfl hg (fun q z => z ▸ ho3) ?_
  intro Pp Ee Ss Mm Ar Bl Me Cc Z hsH htab
  have Y := Z.1
  refine V_aload_n Y.1 2 dL_isReduced_0 (rfl : _ = 1) rfl rfl ?_
  refine V_iconst Y.1 (v := 0) dL_isReduced_1 (rfl : _ = 2) (by decide) ?_
  refine V_aload_n Y.1 0 dL_isReduced_2 (rfl : _ = 3) rfl rfl ?_
  refine V_iload_n Y.1 1 dL_isReduced_3 (rfl : _ = 4) rfl rfl ?_
  refine V_xI Y (sxV Z (c_X5_isReduced l D kA Hs σ _ hg a W π ES u hs ep fc no go vs cs ns gs x hF hnt hok) mi_X5_isReduced vi_L_65 rfl hF.1.1 rfl rfl (Nat.le_of_ble_eq_true rfl) ⟨Nat.le_of_ble_eq_true rfl, Nat.le_of_ble_eq_true rfl⟩ (Nat.le_of_ble_eq_true rfl) (Nat.le_of_ble_eq_true rfl) dL_isReduced_4) (fun _ z => z.elim) (rfl : _ = 7) (fun E_4 H4_4 hx_4 o_4 => ?_) (fun v_4 H4_4 hq_4 o_4 => ?_)
  · have ho := ho.off o_4 (fun z => z)
    obtain rfl : E_4 = "java/lang/IndexOutOfBoundsException" := (by first | exact hx_4.1 | exact hx_4.elim (fun z => Or.inl z.1) (fun z => Or.inr z.1) | exact hx_4.1.elim (fun z => Or.inl z.1) (fun z => Or.inr z.1))
    refine VX_catch Z (pre := []) (x := ⟨0, 16, 19, 19⟩) (suf := []) (htab.trans rfl) (fun z hz => nomatch hz) (by decide) (by decide) (by decide) (tm 1031 (by decide +kernel) (by decide +kernel)) (by decide +kernel) rfl (fun q9 => ?_)
    refine V_astore_n Y.1 (ls' := [(3, _), (0, _), (1, _), (2, _)]) dL_isReduced_19 (rfl : _ = 20) rfl (by decide) rfl ?_
    refine V_iconst Y.1 (v := 1) dL_isReduced_20 (rfl : _ = 21) (by decide) ?_
    exact V_ret Y.1 dL_isReduced_21 rfl (Nat.le_of_ble_eq_true rfl) (Nat.le_of_ble_eq_true rfl) (Or.inr ⟨_, hx_4, by rfl, ho⟩)
  have ho := ho.off o_4 (fun z => z)
  refine V_if_eq Y.1 (tgt := 14) dL_isReduced_7 (by decide) (rfl : _ = 10) (fun c_7 => ?_) (fun c_7 => ?_)
  · refine V_lconst Y.1 (v := 0) dL_isReduced_14 (rfl : _ = 15) (by decide) ?_
    refine V_last Y.1 ho (Or.inl rfl) (show ¬ ((0 : Int32) < 0 ∨ 1 ≤ (0 : Int32).toNatClampNeg) by decide) dL_isReduced_15 (rfl : _ = 16) (fun H15_9 h_new o_15 => ?_)
    have ho := h_new
    clear h_new
    refine V_goto Y.1 (tgt := 22) dL_isReduced_16 (by decide) ?_
    refine V_iconst Y.1 (v := 0) dL_isReduced_22 (rfl : _ = 23) (by decide) ?_
    exact V_ret Y.1 dL_isReduced_23 rfl (Nat.le_of_ble_eq_true rfl) (Nat.le_of_ble_eq_true rfl) (Or.inl ⟨rfl, _, _, _, hq_4, o_15, ho, by first | exact (if_pos ‹_›).symm | exact (if_neg ‹_›).symm⟩)
  · refine V_lconst Y.1 (v := 1) dL_isReduced_10 (rfl : _ = 11) (by decide) ?_
    refine V_goto Y.1 (tgt := 15) dL_isReduced_11 (by decide) ?_
    refine V_last Y.1 ho (Or.inl rfl) (show ¬ ((0 : Int32) < 0 ∨ 1 ≤ (0 : Int32).toNatClampNeg) by decide) dL_isReduced_15 (rfl : _ = 16) (fun H15_17 h_new o_15 => ?_)
    have ho := h_new
    clear h_new
    refine V_goto Y.1 (tgt := 22) dL_isReduced_16 (by decide) ?_
    refine V_iconst Y.1 (v := 0) dL_isReduced_22 (rfl : _ = 23) (by decide) ?_
    exact V_ret Y.1 dL_isReduced_23 rfl (Nat.le_of_ble_eq_true rfl) (Nat.le_of_ble_eq_true rfl) (Or.inl ⟨rfl, _, _, _, hq_4, o_15, ho, by first | exact (if_pos ‹_›).symm | exact (if_neg ‹_›).symm⟩)

set_option maxRecDepth 100000 in
set_option maxHeartbeats 4000000 in
theorem c_L_balance (l : Launch) (D : va_G) (kA : Nat → ClassId) (Hs : Heap) (σ : SG) (H0 : Heap) (hg : Ag Hs H0) (a : Nat) (W : Nat → MS) (π : Nat → Nat) (ES : Nat → Prop) (u : Nat) (hs ep fc : Int32) (no : Nat) (go : Nat → Int32) (vs cs ns : Nat) (gs : Nat → Int32) (x : Int32)  (o : Nat) (w0 : Nat → Int64) (hF : Fs D kA H0 a W π ES u hs ep fc no go vs cs ns gs) (hnt : l.stackTraces = false)  (ho : hp D H0 o (eL kA 1 w0)) (ho1 : a + 329 ≤ o) (ho2 : o ≠ vs) (ho3 : Hs.size ≤ o) : CtW l D kA Hs σ yL_balance cL_balance 4 (some .int) [(0, 9, 12, 19)] 10 162 4 24 H0 [.ref a, .int x, .ref o] (fun q => q = o) (pI fun k9 H9 => (k9 = 0 ∧ ∃ r H1 w, (fun (v9 : Int32) (H : Heap) => v9 = (m_c (W (π 0)) x).1 1 ∧ H = H0 ∧ ¬ b_card (W (π 0)) x = 0) r H1 ∧ sto o H1 H9 ∧ hp D H9 o (eL kA 1 w) ∧ w 0 = r.toInt64) ∨ (∃ E, (fun (E : String) (H : Heap) => (E = "java/lang/IndexOutOfBoundsException" ∧ b_card (W (π 0)) x = 0)) E H9 ∧ k9 = (1) ∧ hp D H9 o (eL kA 1 w0))) := by
  refine CtW.of mh_L_balance (Nat.le_of_ble_eq_true rfl) (ls0 := [(0, _), (1, _), (2, _)]) rfl hg (fun q z => z ▸ ho3) ?_
  intro Pp Ee Ss Mm Ar Bl Me Cc Z hsH htab
  have Y := Z.1
  refine V_aload_n Y.1 2 dL_balance_0 (rfl : _ = 1) rfl rfl ?_
  refine V_iconst Y.1 (v := 0) dL_balance_1 (rfl : _ = 2) (by decide) ?_
  refine V_aload_n Y.1 0 dL_balance_2 (rfl : _ = 3) rfl rfl ?_
  refine V_iload_n Y.1 1 dL_balance_3 (rfl : _ = 4) rfl rfl ?_
  refine V_xI Y (sxV Z (c_X5_balance l D kA Hs σ _ hg a W π ES u hs ep fc no go vs cs ns gs x hF hnt) mi_X5_balance vi_L_69 rfl hF.1.1 rfl rfl (Nat.le_of_ble_eq_true rfl) ⟨Nat.le_of_ble_eq_true rfl, Nat.le_of_ble_eq_true rfl⟩ (Nat.le_of_ble_eq_true rfl) (Nat.le_of_ble_eq_true rfl) dL_balance_4) (fun _ z => z.elim) (rfl : _ = 7) (fun E_4 H4_4 hx_4 o_4 => ?_) (fun v_4 H4_4 hq_4 o_4 => ?_)
  · have ho := ho.off o_4 (fun z => z)
    obtain rfl : E_4 = "java/lang/IndexOutOfBoundsException" := (by first | exact hx_4.1 | exact hx_4.elim (fun z => Or.inl z.1) (fun z => Or.inr z.1) | exact hx_4.1.elim (fun z => Or.inl z.1) (fun z => Or.inr z.1))
    refine VX_catch Z (pre := []) (x := ⟨0, 9, 12, 19⟩) (suf := []) (htab.trans rfl) (fun z hz => nomatch hz) (by decide) (by decide) (by decide) (tm 1031 (by decide +kernel) (by decide +kernel)) (by decide +kernel) rfl (fun q9 => ?_)
    refine V_astore_n Y.1 (ls' := [(3, _), (0, _), (1, _), (2, _)]) dL_balance_12 (rfl : _ = 13) rfl (by decide) rfl ?_
    refine V_iconst Y.1 (v := 1) dL_balance_13 (rfl : _ = 14) (by decide) ?_
    exact V_ret Y.1 dL_balance_14 rfl (Nat.le_of_ble_eq_true rfl) (Nat.le_of_ble_eq_true rfl) (Or.inr ⟨_, hx_4, by rfl, ho⟩)
  have ho := ho.off o_4 (fun z => z)
  refine V_i2l Y.1 dL_balance_7 (rfl : _ = 8) rfl ?_
  refine V_last Y.1 ho (Or.inl rfl) (show ¬ ((0 : Int32) < 0 ∨ 1 ≤ (0 : Int32).toNatClampNeg) by decide) dL_balance_8 (rfl : _ = 9) (fun H8_8 h_new o_8 => ?_)
  have ho := h_new
  clear h_new
  refine V_goto Y.1 (tgt := 15) dL_balance_9 (by decide) ?_
  refine V_iconst Y.1 (v := 0) dL_balance_15 (rfl : _ = 16) (by decide) ?_
  exact V_ret Y.1 dL_balance_16 rfl (Nat.le_of_ble_eq_true rfl) (Nat.le_of_ble_eq_true rfl) (Or.inl ⟨rfl, _, _, _, hq_4, o_8, ho, rfl⟩)

set_option maxRecDepth 100000 in
set_option maxHeartbeats 4000000 in
theorem c_L_isOnTrip (l : Launch) (D : va_G) (kA : Nat → ClassId) (Hs : Heap) (σ : SG) (H0 : Heap) (hg : Ag Hs H0) (a : Nat) (W : Nat → MS) (π : Nat → Nat) (ES : Nat → Prop) (u : Nat) (hs ep fc : Int32) (no : Nat) (go : Nat → Int32) (vs cs ns : Nat) (gs : Nat → Int32) (x : Int32)  (o : Nat) (w0 : Nat → Int64) (hF : Fs D kA H0 a W π ES u hs ep fc no go vs cs ns gs) (hnt : l.stackTraces = false) (hok : ∀ i : Nat, nI i < (W (π 0)).1 0 → i < 8 → k_ok ((W (π 0)).2.2.2.1 i)) (ho : hp D H0 o (eL kA 1 w0)) (ho1 : a + 329 ≤ o) (ho2 : o ≠ vs) (ho3 : Hs.size ≤ o) : CtW l D kA Hs σ yL_isOnTrip cL_isOnTrip 4 (some .int) [(0, 16, 19, 19)] 10 162 4 24 H0 [.ref a, .int x, .ref o] (fun q => q = o) (pI fun k9 H9 => (k9 = 0 ∧ ∃ r H1 w, (fun (v9 : Int32) (H : Heap) => v9 = (m_c (W (π 0)) x).1 2 ∧ H = H0 ∧ ¬ b_card (W (π 0)) x = 0) r H1 ∧ sto o H1 H9 ∧ hp D H9 o (eL kA 1 w) ∧ w 0 = (if r = 0 then 0 else 1)) ∨ (∃ E, (fun (E : String) (H : Heap) => (E = "java/lang/IndexOutOfBoundsException" ∧ b_card (W (π 0)) x = 0)) E H9 ∧ k9 = (1) ∧ hp D H9 o (eL kA 1 w0))) := by
  refine CtW.of mh_L_isOnTrip (Nat.le_of_ble_eq_true rfl) (ls0 := [(0, _), (1, _), (2, _)]) rfl hg (fun q z => z ▸ ho3) ?_
  intro Pp Ee Ss Mm Ar Bl Me Cc Z hsH htab
  have Y := Z.1
  refine V_aload_n Y.1 2 dL_isOnTrip_0 (rfl : _ = 1) rfl rfl ?_
  refine V_iconst Y.1 (v := 0) dL_isOnTrip_1 (rfl : _ = 2) (by decide) ?_
  refine V_aload_n Y.1 0 dL_isOnTrip_2 (rfl : _ = 3) rfl rfl ?_
  refine V_iload_n Y.1 1 dL_isOnTrip_3 (rfl : _ = 4) rfl rfl ?_
  refine V_xI Y (sxV Z (c_X5_isOnTrip l D kA Hs σ _ hg a W π ES u hs ep fc no go vs cs ns gs x hF hnt hok) mi_X5_isOnTrip vi_L_72 rfl hF.1.1 rfl rfl (Nat.le_of_ble_eq_true rfl) ⟨Nat.le_of_ble_eq_true rfl, Nat.le_of_ble_eq_true rfl⟩ (Nat.le_of_ble_eq_true rfl) (Nat.le_of_ble_eq_true rfl) dL_isOnTrip_4) (fun _ z => z.elim) (rfl : _ = 7) (fun E_4 H4_4 hx_4 o_4 => ?_) (fun v_4 H4_4 hq_4 o_4 => ?_)
  · have ho := ho.off o_4 (fun z => z)
    obtain rfl : E_4 = "java/lang/IndexOutOfBoundsException" := (by first | exact hx_4.1 | exact hx_4.elim (fun z => Or.inl z.1) (fun z => Or.inr z.1) | exact hx_4.1.elim (fun z => Or.inl z.1) (fun z => Or.inr z.1))
    refine VX_catch Z (pre := []) (x := ⟨0, 16, 19, 19⟩) (suf := []) (htab.trans rfl) (fun z hz => nomatch hz) (by decide) (by decide) (by decide) (tm 1031 (by decide +kernel) (by decide +kernel)) (by decide +kernel) rfl (fun q9 => ?_)
    refine V_astore_n Y.1 (ls' := [(3, _), (0, _), (1, _), (2, _)]) dL_isOnTrip_19 (rfl : _ = 20) rfl (by decide) rfl ?_
    refine V_iconst Y.1 (v := 1) dL_isOnTrip_20 (rfl : _ = 21) (by decide) ?_
    exact V_ret Y.1 dL_isOnTrip_21 rfl (Nat.le_of_ble_eq_true rfl) (Nat.le_of_ble_eq_true rfl) (Or.inr ⟨_, hx_4, by rfl, ho⟩)
  have ho := ho.off o_4 (fun z => z)
  refine V_if_eq Y.1 (tgt := 14) dL_isOnTrip_7 (by decide) (rfl : _ = 10) (fun c_7 => ?_) (fun c_7 => ?_)
  · refine V_lconst Y.1 (v := 0) dL_isOnTrip_14 (rfl : _ = 15) (by decide) ?_
    refine V_last Y.1 ho (Or.inl rfl) (show ¬ ((0 : Int32) < 0 ∨ 1 ≤ (0 : Int32).toNatClampNeg) by decide) dL_isOnTrip_15 (rfl : _ = 16) (fun H15_9 h_new o_15 => ?_)
    have ho := h_new
    clear h_new
    refine V_goto Y.1 (tgt := 22) dL_isOnTrip_16 (by decide) ?_
    refine V_iconst Y.1 (v := 0) dL_isOnTrip_22 (rfl : _ = 23) (by decide) ?_
    exact V_ret Y.1 dL_isOnTrip_23 rfl (Nat.le_of_ble_eq_true rfl) (Nat.le_of_ble_eq_true rfl) (Or.inl ⟨rfl, _, _, _, hq_4, o_15, ho, by first | exact (if_pos ‹_›).symm | exact (if_neg ‹_›).symm⟩)
  · refine V_lconst Y.1 (v := 1) dL_isOnTrip_10 (rfl : _ = 11) (by decide) ?_
    refine V_goto Y.1 (tgt := 15) dL_isOnTrip_11 (by decide) ?_
    refine V_last Y.1 ho (Or.inl rfl) (show ¬ ((0 : Int32) < 0 ∨ 1 ≤ (0 : Int32).toNatClampNeg) by decide) dL_isOnTrip_15 (rfl : _ = 16) (fun H15_17 h_new o_15 => ?_)
    have ho := h_new
    clear h_new
    refine V_goto Y.1 (tgt := 22) dL_isOnTrip_16 (by decide) ?_
    refine V_iconst Y.1 (v := 0) dL_isOnTrip_22 (rfl : _ = 23) (by decide) ?_
    exact V_ret Y.1 dL_isOnTrip_23 rfl (Nat.le_of_ble_eq_true rfl) (Nat.le_of_ble_eq_true rfl) (Or.inl ⟨rfl, _, _, _, hq_4, o_15, ho, by first | exact (if_pos ‹_›).symm | exact (if_neg ‹_›).symm⟩)

set_option maxRecDepth 100000 in
set_option maxHeartbeats 4000000 in
theorem c_L_tripStart (l : Launch) (D : va_G) (kA : Nat → ClassId) (Hs : Heap) (σ : SG) (H0 : Heap) (hg : Ag Hs H0) (a : Nat) (W : Nat → MS) (π : Nat → Nat) (ES : Nat → Prop) (u : Nat) (hs ep fc : Int32) (no : Nat) (go : Nat → Int32) (vs cs ns : Nat) (gs : Nat → Int32) (x : Int32)  (o : Nat) (w0 : Nat → Int64) (hF : Fs D kA H0 a W π ES u hs ep fc no go vs cs ns gs) (hnt : l.stackTraces = false)  (ho : hp D H0 o (eL kA 1 w0)) (ho1 : a + 329 ≤ o) (ho2 : o ≠ vs) (ho3 : Hs.size ≤ o) : CtW l D kA Hs σ yL_tripStart cL_tripStart 4 (some .int) [(0, 9, 12, 19), (0, 9, 15, 35)] 11 183 4 24 H0 [.ref a, .int x, .ref o] (fun q => q = o) (pI fun k9 H9 => (k9 = 0 ∧ ∃ r H1 w, (fun (v9 : Int32) (H : Heap) => v9 = (m_c (W (π 0)) x).1 3 ∧ H = H0 ∧ ¬ b_card (W (π 0)) x = 0 ∧ ¬ (m_c (W (π 0)) x).1 2 = 0) r H1 ∧ sto o H1 H9 ∧ hp D H9 o (eL kA 1 w) ∧ w 0 = r.toInt64) ∨ (∃ E, (fun (E : String) (H : Heap) => (E = "java/lang/IndexOutOfBoundsException" ∧ b_card (W (π 0)) x = 0) ∨ (E = "java/util/NoSuchElementException" ∧ ¬ b_card (W (π 0)) x = 0 ∧ (m_c (W (π 0)) x).1 2 = 0)) E H9 ∧ k9 = (if E = "java/lang/IndexOutOfBoundsException" then 1 else 2) ∧ hp D H9 o (eL kA 1 w0))) := by
  refine CtW.of mh_L_tripStart (Nat.le_of_ble_eq_true rfl) (ls0 := [(0, _), (1, _), (2, _)]) rfl hg (fun q z => z ▸ ho3) ?_
  intro Pp Ee Ss Mm Ar Bl Me Cc Z hsH htab
  have Y := Z.1
  refine V_aload_n Y.1 2 dL_tripStart_0 (rfl : _ = 1) rfl rfl ?_
  refine V_iconst Y.1 (v := 0) dL_tripStart_1 (rfl : _ = 2) (by decide) ?_
  refine V_aload_n Y.1 0 dL_tripStart_2 (rfl : _ = 3) rfl rfl ?_
  refine V_iload_n Y.1 1 dL_tripStart_3 (rfl : _ = 4) rfl rfl ?_
  refine V_xI Y (sxV Z (c_X5_tripStart l D kA Hs σ _ hg a W π ES u hs ep fc no go vs cs ns gs x hF hnt) mi_X5_tripStart vi_L_75 rfl hF.1.1 rfl rfl (Nat.le_of_ble_eq_true rfl) ⟨Nat.le_of_ble_eq_true rfl, Nat.le_of_ble_eq_true rfl⟩ (Nat.le_of_ble_eq_true rfl) (Nat.le_of_ble_eq_true rfl) dL_tripStart_4) (fun _ z => z.elim) (rfl : _ = 7) (fun E_4 H4_4 hx_4 o_4 => ?_) (fun v_4 H4_4 hq_4 o_4 => ?_)
  · have ho := ho.off o_4 (fun z => z)
    have hE9 : E_4 = "java/lang/IndexOutOfBoundsException" ∨ E_4 = "java/util/NoSuchElementException" := (by first | exact hx_4.1 | exact hx_4.elim (fun z => Or.inl z.1) (fun z => Or.inr z.1) | exact hx_4.1.elim (fun z => Or.inl z.1) (fun z => Or.inr z.1))
    rcases hE9 with rfl | rfl
    · refine VX_catch Z (pre := []) (x := ⟨0, 9, 12, 19⟩) (suf := [⟨0, 9, 15, 35⟩]) (htab.trans rfl) (fun z hz => nomatch hz) (by decide) (by decide) (by decide) (tm 1031 (by decide +kernel) (by decide +kernel)) (by decide +kernel) rfl (fun q9 => ?_)
      refine V_astore_n Y.1 (ls' := [(3, _), (0, _), (1, _), (2, _)]) dL_tripStart_12 (rfl : _ = 13) rfl (by decide) rfl ?_
      refine V_iconst Y.1 (v := 1) dL_tripStart_13 (rfl : _ = 14) (by decide) ?_
      exact V_ret Y.1 dL_tripStart_14 rfl (Nat.le_of_ble_eq_true rfl) (Nat.le_of_ble_eq_true rfl) (Or.inr ⟨_, hx_4, by rw [if_pos rfl], ho⟩)
    · refine VX_catch Z (pre := [⟨0, 9, 12, 19⟩]) (x := ⟨0, 9, 15, 35⟩) (suf := []) (htab.trans rfl) (fun z hz => by obtain rfl := List.mem_singleton.mp hz; exact Or.inr ⟨by decide, "java/lang/IndexOutOfBoundsException", (tm 1031 (by decide +kernel) (by decide +kernel)), by decide, by decide⟩) (by decide) (by decide) (by decide) (tm 1057 (by decide +kernel) (by decide +kernel)) (by decide +kernel) rfl (fun q9 => ?_)
      refine V_astore_n Y.1 (ls' := [(3, _), (0, _), (1, _), (2, _)]) dL_tripStart_15 (rfl : _ = 16) rfl (by decide) rfl ?_
      refine V_iconst Y.1 (v := 2) dL_tripStart_16 (rfl : _ = 17) (by decide) ?_
      exact V_ret Y.1 dL_tripStart_17 rfl (Nat.le_of_ble_eq_true rfl) (Nat.le_of_ble_eq_true rfl) (Or.inr ⟨_, hx_4, by rw [if_neg (by decide)], ho⟩)
  have ho := ho.off o_4 (fun z => z)
  refine V_i2l Y.1 dL_tripStart_7 (rfl : _ = 8) rfl ?_
  refine V_last Y.1 ho (Or.inl rfl) (show ¬ ((0 : Int32) < 0 ∨ 1 ≤ (0 : Int32).toNatClampNeg) by decide) dL_tripStart_8 (rfl : _ = 9) (fun H8_8 h_new o_8 => ?_)
  have ho := h_new
  clear h_new
  refine V_goto Y.1 (tgt := 18) dL_tripStart_9 (by decide) ?_
  refine V_iconst Y.1 (v := 0) dL_tripStart_18 (rfl : _ = 19) (by decide) ?_
  exact V_ret Y.1 dL_tripStart_19 rfl (Nat.le_of_ble_eq_true rfl) (Nat.le_of_ble_eq_true rfl) (Or.inl ⟨rfl, _, _, _, hq_4, o_8, ho, rfl⟩)

set_option maxRecDepth 100000 in
set_option maxHeartbeats 4000000 in
theorem c_L_journeyStart (l : Launch) (D : va_G) (kA : Nat → ClassId) (Hs : Heap) (σ : SG) (H0 : Heap) (hg : Ag Hs H0) (a : Nat) (W : Nat → MS) (π : Nat → Nat) (ES : Nat → Prop) (u : Nat) (hs ep fc : Int32) (no : Nat) (go : Nat → Int32) (vs cs ns : Nat) (gs : Nat → Int32) (x : Int32)  (o : Nat) (w0 : Nat → Int64) (hF : Fs D kA H0 a W π ES u hs ep fc no go vs cs ns gs) (hnt : l.stackTraces = false)  (ho : hp D H0 o (eL kA 1 w0)) (ho1 : a + 329 ≤ o) (ho2 : o ≠ vs) (ho3 : Hs.size ≤ o) : CtW l D kA Hs σ yL_journeyStart cL_journeyStart 4 (some .int) [(0, 9, 12, 19), (0, 9, 15, 35)] 11 183 4 24 H0 [.ref a, .int x, .ref o] (fun q => q = o) (pI fun k9 H9 => (k9 = 0 ∧ ∃ r H1 w, (fun (v9 : Int32) (H : Heap) => v9 = (m_c (W (π 0)) x).1 5 ∧ H = H0 ∧ ¬ b_card (W (π 0)) x = 0 ∧ ¬ (m_c (W (π 0)) x).1 2 = 0) r H1 ∧ sto o H1 H9 ∧ hp D H9 o (eL kA 1 w) ∧ w 0 = r.toInt64) ∨ (∃ E, (fun (E : String) (H : Heap) => (E = "java/lang/IndexOutOfBoundsException" ∧ b_card (W (π 0)) x = 0) ∨ (E = "java/util/NoSuchElementException" ∧ ¬ b_card (W (π 0)) x = 0 ∧ (m_c (W (π 0)) x).1 2 = 0)) E H9 ∧ k9 = (if E = "java/lang/IndexOutOfBoundsException" then 1 else 2) ∧ hp D H9 o (eL kA 1 w0))) := by
  refine CtW.of mh_L_journeyStart (Nat.le_of_ble_eq_true rfl) (ls0 := [(0, _), (1, _), (2, _)]) rfl hg (fun q z => z ▸ ho3) ?_
  intro Pp Ee Ss Mm Ar Bl Me Cc Z hsH htab
  have Y := Z.1
  refine V_aload_n Y.1 2 dL_journeyStart_0 (rfl : _ = 1) rfl rfl ?_
  refine V_iconst Y.1 (v := 0) dL_journeyStart_1 (rfl : _ = 2) (by decide) ?_
  refine V_aload_n Y.1 0 dL_journeyStart_2 (rfl : _ = 3) rfl rfl ?_
  refine V_iload_n Y.1 1 dL_journeyStart_3 (rfl : _ = 4) rfl rfl ?_
  refine V_xI Y (sxV Z (c_X5_journeyStart l D kA Hs σ _ hg a W π ES u hs ep fc no go vs cs ns gs x hF hnt) mi_X5_journeyStart vi_L_78 rfl hF.1.1 rfl rfl (Nat.le_of_ble_eq_true rfl) ⟨Nat.le_of_ble_eq_true rfl, Nat.le_of_ble_eq_true rfl⟩ (Nat.le_of_ble_eq_true rfl) (Nat.le_of_ble_eq_true rfl) dL_journeyStart_4) (fun _ z => z.elim) (rfl : _ = 7) (fun E_4 H4_4 hx_4 o_4 => ?_) (fun v_4 H4_4 hq_4 o_4 => ?_)
  · have ho := ho.off o_4 (fun z => z)
    have hE9 : E_4 = "java/lang/IndexOutOfBoundsException" ∨ E_4 = "java/util/NoSuchElementException" := (by first | exact hx_4.1 | exact hx_4.elim (fun z => Or.inl z.1) (fun z => Or.inr z.1) | exact hx_4.1.elim (fun z => Or.inl z.1) (fun z => Or.inr z.1))
    rcases hE9 with rfl | rfl
    · refine VX_catch Z (pre := []) (x := ⟨0, 9, 12, 19⟩) (suf := [⟨0, 9, 15, 35⟩]) (htab.trans rfl) (fun z hz => nomatch hz) (by decide) (by decide) (by decide) (tm 1031 (by decide +kernel) (by decide +kernel)) (by decide +kernel) rfl (fun q9 => ?_)
      refine V_astore_n Y.1 (ls' := [(3, _), (0, _), (1, _), (2, _)]) dL_journeyStart_12 (rfl : _ = 13) rfl (by decide) rfl ?_
      refine V_iconst Y.1 (v := 1) dL_journeyStart_13 (rfl : _ = 14) (by decide) ?_
      exact V_ret Y.1 dL_journeyStart_14 rfl (Nat.le_of_ble_eq_true rfl) (Nat.le_of_ble_eq_true rfl) (Or.inr ⟨_, hx_4, by rw [if_pos rfl], ho⟩)
    · refine VX_catch Z (pre := [⟨0, 9, 12, 19⟩]) (x := ⟨0, 9, 15, 35⟩) (suf := []) (htab.trans rfl) (fun z hz => by obtain rfl := List.mem_singleton.mp hz; exact Or.inr ⟨by decide, "java/lang/IndexOutOfBoundsException", (tm 1031 (by decide +kernel) (by decide +kernel)), by decide, by decide⟩) (by decide) (by decide) (by decide) (tm 1057 (by decide +kernel) (by decide +kernel)) (by decide +kernel) rfl (fun q9 => ?_)
      refine V_astore_n Y.1 (ls' := [(3, _), (0, _), (1, _), (2, _)]) dL_journeyStart_15 (rfl : _ = 16) rfl (by decide) rfl ?_
      refine V_iconst Y.1 (v := 2) dL_journeyStart_16 (rfl : _ = 17) (by decide) ?_
      exact V_ret Y.1 dL_journeyStart_17 rfl (Nat.le_of_ble_eq_true rfl) (Nat.le_of_ble_eq_true rfl) (Or.inr ⟨_, hx_4, by rw [if_neg (by decide)], ho⟩)
  have ho := ho.off o_4 (fun z => z)
  refine V_i2l Y.1 dL_journeyStart_7 (rfl : _ = 8) rfl ?_
  refine V_last Y.1 ho (Or.inl rfl) (show ¬ ((0 : Int32) < 0 ∨ 1 ≤ (0 : Int32).toNatClampNeg) by decide) dL_journeyStart_8 (rfl : _ = 9) (fun H8_8 h_new o_8 => ?_)
  have ho := h_new
  clear h_new
  refine V_goto Y.1 (tgt := 18) dL_journeyStart_9 (by decide) ?_
  refine V_iconst Y.1 (v := 0) dL_journeyStart_18 (rfl : _ = 19) (by decide) ?_
  exact V_ret Y.1 dL_journeyStart_19 rfl (Nat.le_of_ble_eq_true rfl) (Nat.le_of_ble_eq_true rfl) (Or.inl ⟨rfl, _, _, _, hq_4, o_8, ho, rfl⟩)

set_option maxRecDepth 100000 in
set_option maxHeartbeats 4000000 in
theorem c_L_minutesLeft (l : Launch) (D : va_G) (kA : Nat → ClassId) (Hs : Heap) (σ : SG) (H0 : Heap) (hg : Ag Hs H0) (a : Nat) (W : Nat → MS) (π : Nat → Nat) (ES : Nat → Prop) (u : Nat) (hs ep fc : Int32) (no : Nat) (go : Nat → Int32) (vs cs ns : Nat) (gs : Nat → Int32) (x : Int32)  (o : Nat) (w0 : Nat → Int64) (hF : Fs D kA H0 a W π ES u hs ep fc no go vs cs ns gs) (hnt : l.stackTraces = false)  (ho : hp D H0 o (eL kA 1 w0)) (ho1 : a + 329 ≤ o) (ho2 : o ≠ vs) (ho3 : Hs.size ≤ o) : CtW l D kA Hs σ yL_minutesLeft cL_minutesLeft 4 (some .int) [(0, 9, 12, 19), (0, 9, 15, 35)] 11 183 4 24 H0 [.ref a, .int x, .ref o] (fun q => q = o) (pI fun k9 H9 => (k9 = 0 ∧ ∃ r H1 w, (fun (v9 : Int32) (H : Heap) => v9 = (m_c (W (π 0)) x).1 4 + 180 - (W (π 0)).1 1 ∧ H = H0 ∧ ¬ b_card (W (π 0)) x = 0 ∧ ¬ (m_c (W (π 0)) x).1 2 = 0) r H1 ∧ sto o H1 H9 ∧ hp D H9 o (eL kA 1 w) ∧ w 0 = r.toInt64) ∨ (∃ E, (fun (E : String) (H : Heap) => (E = "java/lang/IndexOutOfBoundsException" ∧ b_card (W (π 0)) x = 0) ∨ (E = "java/util/NoSuchElementException" ∧ ¬ b_card (W (π 0)) x = 0 ∧ (m_c (W (π 0)) x).1 2 = 0)) E H9 ∧ k9 = (if E = "java/lang/IndexOutOfBoundsException" then 1 else 2) ∧ hp D H9 o (eL kA 1 w0))) := by
  refine CtW.of mh_L_minutesLeft (Nat.le_of_ble_eq_true rfl) (ls0 := [(0, _), (1, _), (2, _)]) rfl hg (fun q z => z ▸ ho3) ?_
  intro Pp Ee Ss Mm Ar Bl Me Cc Z hsH htab
  have Y := Z.1
  refine V_aload_n Y.1 2 dL_minutesLeft_0 (rfl : _ = 1) rfl rfl ?_
  refine V_iconst Y.1 (v := 0) dL_minutesLeft_1 (rfl : _ = 2) (by decide) ?_
  refine V_aload_n Y.1 0 dL_minutesLeft_2 (rfl : _ = 3) rfl rfl ?_
  refine V_iload_n Y.1 1 dL_minutesLeft_3 (rfl : _ = 4) rfl rfl ?_
  refine V_xI Y (sxV Z (c_X5_minutesLeft l D kA Hs σ _ hg a W π ES u hs ep fc no go vs cs ns gs x hF hnt) mi_X5_minutesLeft vi_L_81 rfl hF.1.1 rfl rfl (Nat.le_of_ble_eq_true rfl) ⟨Nat.le_of_ble_eq_true rfl, Nat.le_of_ble_eq_true rfl⟩ (Nat.le_of_ble_eq_true rfl) (Nat.le_of_ble_eq_true rfl) dL_minutesLeft_4) (fun _ z => z.elim) (rfl : _ = 7) (fun E_4 H4_4 hx_4 o_4 => ?_) (fun v_4 H4_4 hq_4 o_4 => ?_)
  · have ho := ho.off o_4 (fun z => z)
    have hE9 : E_4 = "java/lang/IndexOutOfBoundsException" ∨ E_4 = "java/util/NoSuchElementException" := (by first | exact hx_4.1 | exact hx_4.elim (fun z => Or.inl z.1) (fun z => Or.inr z.1) | exact hx_4.1.elim (fun z => Or.inl z.1) (fun z => Or.inr z.1))
    rcases hE9 with rfl | rfl
    · refine VX_catch Z (pre := []) (x := ⟨0, 9, 12, 19⟩) (suf := [⟨0, 9, 15, 35⟩]) (htab.trans rfl) (fun z hz => nomatch hz) (by decide) (by decide) (by decide) (tm 1031 (by decide +kernel) (by decide +kernel)) (by decide +kernel) rfl (fun q9 => ?_)
      refine V_astore_n Y.1 (ls' := [(3, _), (0, _), (1, _), (2, _)]) dL_minutesLeft_12 (rfl : _ = 13) rfl (by decide) rfl ?_
      refine V_iconst Y.1 (v := 1) dL_minutesLeft_13 (rfl : _ = 14) (by decide) ?_
      exact V_ret Y.1 dL_minutesLeft_14 rfl (Nat.le_of_ble_eq_true rfl) (Nat.le_of_ble_eq_true rfl) (Or.inr ⟨_, hx_4, by rw [if_pos rfl], ho⟩)
    · refine VX_catch Z (pre := [⟨0, 9, 12, 19⟩]) (x := ⟨0, 9, 15, 35⟩) (suf := []) (htab.trans rfl) (fun z hz => by obtain rfl := List.mem_singleton.mp hz; exact Or.inr ⟨by decide, "java/lang/IndexOutOfBoundsException", (tm 1031 (by decide +kernel) (by decide +kernel)), by decide, by decide⟩) (by decide) (by decide) (by decide) (tm 1057 (by decide +kernel) (by decide +kernel)) (by decide +kernel) rfl (fun q9 => ?_)
      refine V_astore_n Y.1 (ls' := [(3, _), (0, _), (1, _), (2, _)]) dL_minutesLeft_15 (rfl : _ = 16) rfl (by decide) rfl ?_
      refine V_iconst Y.1 (v := 2) dL_minutesLeft_16 (rfl : _ = 17) (by decide) ?_
      exact V_ret Y.1 dL_minutesLeft_17 rfl (Nat.le_of_ble_eq_true rfl) (Nat.le_of_ble_eq_true rfl) (Or.inr ⟨_, hx_4, by rw [if_neg (by decide)], ho⟩)
  have ho := ho.off o_4 (fun z => z)
  refine V_i2l Y.1 dL_minutesLeft_7 (rfl : _ = 8) rfl ?_
  refine V_last Y.1 ho (Or.inl rfl) (show ¬ ((0 : Int32) < 0 ∨ 1 ≤ (0 : Int32).toNatClampNeg) by decide) dL_minutesLeft_8 (rfl : _ = 9) (fun H8_8 h_new o_8 => ?_)
  have ho := h_new
  clear h_new
  refine V_goto Y.1 (tgt := 18) dL_minutesLeft_9 (by decide) ?_
  refine V_iconst Y.1 (v := 0) dL_minutesLeft_18 (rfl : _ = 19) (by decide) ?_
  exact V_ret Y.1 dL_minutesLeft_19 rfl (Nat.le_of_ble_eq_true rfl) (Nat.le_of_ble_eq_true rfl) (Or.inl ⟨rfl, _, _, _, hq_4, o_8, ho, rfl⟩)

set_option maxRecDepth 100000 in
set_option maxHeartbeats 4000000 in
theorem c_L_wouldContinue (l : Launch) (D : va_G) (kA : Nat → ClassId) (Hs : Heap) (σ : SG) (H0 : Heap) (hg : Ag Hs H0) (a : Nat) (W : Nat → MS) (π : Nat → Nat) (ES : Nat → Prop) (u : Nat) (hs ep fc : Int32) (no : Nat) (go : Nat → Int32) (vs cs ns : Nat) (gs : Nat → Int32) (x y : Int32) (o : Nat) (w0 : Nat → Int64) (hF : Fs D kA H0 a W π ES u hs ep fc no go vs cs ns gs) (hnt : l.stackTraces = false)  (ho : hp D H0 o (eL kA 1 w0)) (ho1 : a + 329 ≤ o) (ho2 : o ≠ vs) (ho3 : Hs.size ≤ o) : CtW l D kA Hs σ yL_wouldContinue cL_wouldContinue 5 (some .int) [(0, 17, 20, 19)] 10 163 4 24 H0 [.ref a, .int x, .int y, .ref o] (fun q => q = o) (pI fun k9 H9 => (k9 = 0 ∧ ∃ r H1 w, (fun (v9 : Int32) (H : Heap) => v9 = k_cont (m_c (W (π 0)) x) y ((W (π 0)).1 1) ∧ H = H0 ∧ ¬ b_card (W (π 0)) x = 0 ∧ ¬ b_st y = 0) r H1 ∧ sto o H1 H9 ∧ hp D H9 o (eL kA 1 w) ∧ w 0 = (if r = 0 then 0 else 1)) ∨ (∃ E, (fun (E : String) (H : Heap) => (E = "java/lang/IndexOutOfBoundsException" ∧ (b_card (W (π 0)) x = 0 ∨ b_st y = 0))) E H9 ∧ k9 = (1) ∧ hp D H9 o (eL kA 1 w0))) := by
  refine CtW.of mh_L_wouldContinue (Nat.le_of_ble_eq_true rfl) (ls0 := [(0, _), (1, _), (2, _), (3, _)]) rfl hg (fun q z => z ▸ ho3) ?_
  intro Pp Ee Ss Mm Ar Bl Me Cc Z hsH htab
  have Y := Z.1
  refine V_aload_n Y.1 3 dL_wouldContinue_0 (rfl : _ = 1) rfl rfl ?_
  refine V_iconst Y.1 (v := 0) dL_wouldContinue_1 (rfl : _ = 2) (by decide) ?_
  refine V_aload_n Y.1 0 dL_wouldContinue_2 (rfl : _ = 3) rfl rfl ?_
  refine V_iload_n Y.1 1 dL_wouldContinue_3 (rfl : _ = 4) rfl rfl ?_
  refine V_iload_n Y.1 2 dL_wouldContinue_4 (rfl : _ = 5) rfl rfl ?_
  refine V_xI Y (sxV Z (c_X5_wouldContinue l D kA Hs σ _ hg a W π ES u hs ep fc no go vs cs ns gs x y hF hnt) mi_X5_wouldContinue vi_L_84 rfl hF.1.1 rfl rfl (Nat.le_of_ble_eq_true rfl) ⟨Nat.le_of_ble_eq_true rfl, Nat.le_of_ble_eq_true rfl⟩ (Nat.le_of_ble_eq_true rfl) (Nat.le_of_ble_eq_true rfl) dL_wouldContinue_5) (fun _ z => z.elim) (rfl : _ = 8) (fun E_5 H5_5 hx_5 o_5 => ?_) (fun v_5 H5_5 hq_5 o_5 => ?_)
  · have ho := ho.off o_5 (fun z => z)
    obtain rfl : E_5 = "java/lang/IndexOutOfBoundsException" := (by first | exact hx_5.1 | exact hx_5.elim (fun z => Or.inl z.1) (fun z => Or.inr z.1) | exact hx_5.1.elim (fun z => Or.inl z.1) (fun z => Or.inr z.1))
    refine VX_catch Z (pre := []) (x := ⟨0, 17, 20, 19⟩) (suf := []) (htab.trans rfl) (fun z hz => nomatch hz) (by decide) (by decide) (by decide) (tm 1031 (by decide +kernel) (by decide +kernel)) (by decide +kernel) rfl (fun q9 => ?_)
    refine V_astore Y.1 (ls' := [(4, _), (0, _), (1, _), (2, _), (3, _)]) dL_wouldContinue_20 (rfl : _ = 22) (by decide) rfl ?_
    refine V_iconst Y.1 (v := 1) dL_wouldContinue_22 (rfl : _ = 23) (by decide) ?_
    exact V_ret Y.1 dL_wouldContinue_23 rfl (Nat.le_of_ble_eq_true rfl) (Nat.le_of_ble_eq_true rfl) (Or.inr ⟨_, hx_5, by rfl, ho⟩)
  have ho := ho.off o_5 (fun z => z)
  refine V_if_eq Y.1 (tgt := 15) dL_wouldContinue_8 (by decide) (rfl : _ = 11) (fun c_8 => ?_) (fun c_8 => ?_)
  · refine V_lconst Y.1 (v := 0) dL_wouldContinue_15 (rfl : _ = 16) (by decide) ?_
    refine V_last Y.1 ho (Or.inl rfl) (show ¬ ((0 : Int32) < 0 ∨ 1 ≤ (0 : Int32).toNatClampNeg) by decide) dL_wouldContinue_16 (rfl : _ = 17) (fun H16_10 h_new o_16 => ?_)
    have ho := h_new
    clear h_new
    refine V_goto Y.1 (tgt := 24) dL_wouldContinue_17 (by decide) ?_
    refine V_iconst Y.1 (v := 0) dL_wouldContinue_24 (rfl : _ = 25) (by decide) ?_
    exact V_ret Y.1 dL_wouldContinue_25 rfl (Nat.le_of_ble_eq_true rfl) (Nat.le_of_ble_eq_true rfl) (Or.inl ⟨rfl, _, _, _, hq_5, o_16, ho, by first | exact (if_pos ‹_›).symm | exact (if_neg ‹_›).symm⟩)
  · refine V_lconst Y.1 (v := 1) dL_wouldContinue_11 (rfl : _ = 12) (by decide) ?_
    refine V_goto Y.1 (tgt := 16) dL_wouldContinue_12 (by decide) ?_
    refine V_last Y.1 ho (Or.inl rfl) (show ¬ ((0 : Int32) < 0 ∨ 1 ≤ (0 : Int32).toNatClampNeg) by decide) dL_wouldContinue_16 (rfl : _ = 17) (fun H16_18 h_new o_16 => ?_)
    have ho := h_new
    clear h_new
    refine V_goto Y.1 (tgt := 24) dL_wouldContinue_17 (by decide) ?_
    refine V_iconst Y.1 (v := 0) dL_wouldContinue_24 (rfl : _ = 25) (by decide) ?_
    exact V_ret Y.1 dL_wouldContinue_25 rfl (Nat.le_of_ble_eq_true rfl) (Nat.le_of_ble_eq_true rfl) (Or.inl ⟨rfl, _, _, _, hq_5, o_16, ho, by first | exact (if_pos ‹_›).symm | exact (if_neg ‹_›).symm⟩)

set_option maxRecDepth 100000 in
set_option maxHeartbeats 4000000 in
theorem c_L_chargeIfTappedOut (l : Launch) (D : va_G) (kA : Nat → ClassId) (Hs : Heap) (σ : SG) (H0 : Heap) (hg : Ag Hs H0) (a : Nat) (W : Nat → MS) (π : Nat → Nat) (ES : Nat → Prop) (u : Nat) (hs ep fc : Int32) (no : Nat) (go : Nat → Int32) (vs cs ns : Nat) (gs : Nat → Int32) (x y : Int32) (d : Nat) (hd : (W (π 0)).1 1 / 1440 = nI d) (hd2 : d < 2 ^ 30) (o : Nat) (w0 : Nat → Int64) (hF : Fs D kA H0 a W π ES u hs ep fc no go vs cs ns gs) (hnt : l.stackTraces = false) (hj : ∀ i : Nat, i < 8 → nI i < (W (π 0)).1 0 → ¬ ((W (π 0)).2.2.2.1 i).1 2 = 0 → ∃ j, j < 12 ∧ ((W (π 0)).2.2.2.1 i).1 5 = nI j) (ho : hp D H0 o (eL kA 1 w0)) (ho1 : a + 329 ≤ o) (ho2 : o ≠ vs) (ho3 : Hs.size ≤ o) : CtW l D kA Hs σ yL_chargeIfTappedOut cL_chargeIfTappedOut 5 (some .int) [(0, 10, 13, 19), (0, 10, 17, 35)] 11 184 4 24 H0 [.ref a, .int x, .int y, .ref o] (fun q => q = o) (pI fun k9 H9 => (k9 = 0 ∧ ∃ r H1 w, (fun (v9 : Int32) (H : Heap) => v9 = k_trip (m_c (W (π 0)) x) (W (π 0)).2.1 ((W (π 0)).1 7) ((W (π 0)).1 8) ((m_c (W (π 0)) x).1 5).toNatClampNeg y.toNatClampNeg d ∧ H = H0 ∧ ¬ b_st y = 0 ∧ ¬ b_card (W (π 0)) x = 0 ∧ ¬ (m_c (W (π 0)) x).1 2 = 0) r H1 ∧ sto o H1 H9 ∧ hp D H9 o (eL kA 1 w) ∧ w 0 = r.toInt64) ∨ (∃ E, (fun (E : String) (H : Heap) => (E = "java/lang/IndexOutOfBoundsException" ∧ (b_st y = 0 ∨ b_card (W (π 0)) x = 0)) ∨ (E = "java/util/NoSuchElementException" ∧ ¬ b_st y = 0 ∧ ¬ b_card (W (π 0)) x = 0 ∧ (m_c (W (π 0)) x).1 2 = 0)) E H9 ∧ k9 = (if E = "java/lang/IndexOutOfBoundsException" then 1 else 2) ∧ hp D H9 o (eL kA 1 w0))) := by
  refine CtW.of mh_L_chargeIfTappedOut (Nat.le_of_ble_eq_true rfl) (ls0 := [(0, _), (1, _), (2, _), (3, _)]) rfl hg (fun q z => z ▸ ho3) ?_
  intro Pp Ee Ss Mm Ar Bl Me Cc Z hsH htab
  have Y := Z.1
  refine V_aload_n Y.1 3 dL_chargeIfTappedOut_0 (rfl : _ = 1) rfl rfl ?_
  refine V_iconst Y.1 (v := 0) dL_chargeIfTappedOut_1 (rfl : _ = 2) (by decide) ?_
  refine V_aload_n Y.1 0 dL_chargeIfTappedOut_2 (rfl : _ = 3) rfl rfl ?_
  refine V_iload_n Y.1 1 dL_chargeIfTappedOut_3 (rfl : _ = 4) rfl rfl ?_
  refine V_iload_n Y.1 2 dL_chargeIfTappedOut_4 (rfl : _ = 5) rfl rfl ?_
  refine V_xI Y (sxV Z (c_X5_chargeIfTappedOut l D kA Hs σ _ hg a W π ES u hs ep fc no go vs cs ns gs x y d hd hd2 hF hnt hj) mi_X5_chargeIfTappedOut vi_L_87 rfl hF.1.1 rfl rfl (Nat.le_of_ble_eq_true rfl) ⟨Nat.le_of_ble_eq_true rfl, Nat.le_of_ble_eq_true rfl⟩ (Nat.le_of_ble_eq_true rfl) (Nat.le_of_ble_eq_true rfl) dL_chargeIfTappedOut_5) (fun _ z => z.elim) (rfl : _ = 8) (fun E_5 H5_5 hx_5 o_5 => ?_) (fun v_5 H5_5 hq_5 o_5 => ?_)
  · have ho := ho.off o_5 (fun z => z)
    have hE9 : E_5 = "java/lang/IndexOutOfBoundsException" ∨ E_5 = "java/util/NoSuchElementException" := (by first | exact hx_5.1 | exact hx_5.elim (fun z => Or.inl z.1) (fun z => Or.inr z.1) | exact hx_5.1.elim (fun z => Or.inl z.1) (fun z => Or.inr z.1))
    rcases hE9 with rfl | rfl
    · refine VX_catch Z (pre := []) (x := ⟨0, 10, 13, 19⟩) (suf := [⟨0, 10, 17, 35⟩]) (htab.trans rfl) (fun z hz => nomatch hz) (by decide) (by decide) (by decide) (tm 1031 (by decide +kernel) (by decide +kernel)) (by decide +kernel) rfl (fun q9 => ?_)
      refine V_astore Y.1 (ls' := [(4, _), (0, _), (1, _), (2, _), (3, _)]) dL_chargeIfTappedOut_13 (rfl : _ = 15) (by decide) rfl ?_
      refine V_iconst Y.1 (v := 1) dL_chargeIfTappedOut_15 (rfl : _ = 16) (by decide) ?_
      exact V_ret Y.1 dL_chargeIfTappedOut_16 rfl (Nat.le_of_ble_eq_true rfl) (Nat.le_of_ble_eq_true rfl) (Or.inr ⟨_, hx_5, by rw [if_pos rfl], ho⟩)
    · refine VX_catch Z (pre := [⟨0, 10, 13, 19⟩]) (x := ⟨0, 10, 17, 35⟩) (suf := []) (htab.trans rfl) (fun z hz => by obtain rfl := List.mem_singleton.mp hz; exact Or.inr ⟨by decide, "java/lang/IndexOutOfBoundsException", (tm 1031 (by decide +kernel) (by decide +kernel)), by decide, by decide⟩) (by decide) (by decide) (by decide) (tm 1057 (by decide +kernel) (by decide +kernel)) (by decide +kernel) rfl (fun q9 => ?_)
      refine V_astore Y.1 (ls' := [(4, _), (0, _), (1, _), (2, _), (3, _)]) dL_chargeIfTappedOut_17 (rfl : _ = 19) (by decide) rfl ?_
      refine V_iconst Y.1 (v := 2) dL_chargeIfTappedOut_19 (rfl : _ = 20) (by decide) ?_
      exact V_ret Y.1 dL_chargeIfTappedOut_20 rfl (Nat.le_of_ble_eq_true rfl) (Nat.le_of_ble_eq_true rfl) (Or.inr ⟨_, hx_5, by rw [if_neg (by decide)], ho⟩)
  have ho := ho.off o_5 (fun z => z)
  refine V_i2l Y.1 dL_chargeIfTappedOut_8 (rfl : _ = 9) rfl ?_
  refine V_last Y.1 ho (Or.inl rfl) (show ¬ ((0 : Int32) < 0 ∨ 1 ≤ (0 : Int32).toNatClampNeg) by decide) dL_chargeIfTappedOut_9 (rfl : _ = 10) (fun H9_9 h_new o_9 => ?_)
  have ho := h_new
  clear h_new
  refine V_goto Y.1 (tgt := 21) dL_chargeIfTappedOut_10 (by decide) ?_
  refine V_iconst Y.1 (v := 0) dL_chargeIfTappedOut_21 (rfl : _ = 22) (by decide) ?_
  exact V_ret Y.1 dL_chargeIfTappedOut_22 rfl (Nat.le_of_ble_eq_true rfl) (Nat.le_of_ble_eq_true rfl) (Or.inl ⟨rfl, _, _, _, hq_5, o_9, ho, rfl⟩)

set_option maxRecDepth 100000 in
set_option maxHeartbeats 4000000 in
theorem c_L_chargedOn (l : Launch) (D : va_G) (kA : Nat → ClassId) (Hs : Heap) (σ : SG) (H0 : Heap) (hg : Ag Hs H0) (a : Nat) (W : Nat → MS) (π : Nat → Nat) (ES : Nat → Prop) (u : Nat) (hs ep fc : Int32) (no : Nat) (go : Nat → Int32) (vs cs ns : Nat) (gs : Nat → Int32) (x y : Int32) (d : Nat) (hd : (W (π 0)).1 1 / 1440 = nI d) (hd2 : d < 2 ^ 30) (o : Nat) (w0 : Nat → Int64) (hF : Fs D kA H0 a W π ES u hs ep fc no go vs cs ns gs) (hnt : l.stackTraces = false)  (ho : hp D H0 o (eL kA 1 w0)) (ho1 : a + 329 ≤ o) (ho2 : o ≠ vs) (ho3 : Hs.size ≤ o) : CtW l D kA Hs σ yL_chargedOn cL_chargedOn 5 (some .int) [(0, 10, 13, 19), (0, 10, 17, 21)] 10 164 4 24 H0 [.ref a, .int x, .int y, .ref o] (fun q => q = o) (pI fun k9 H9 => (k9 = 0 ∧ ∃ r H1 w, (fun (v9 : Int32) (H : Heap) => v9 = k_sumOf (m_c (W (π 0)) x) y.toNatClampNeg ∧ H = H0 ∧ ¬ b_card (W (π 0)) x = 0 ∧ ¬ (y < 0 ∨ nI d < y ∨ ¬ nI d - 2 ≤ y)) r H1 ∧ sto o H1 H9 ∧ hp D H9 o (eL kA 1 w) ∧ w 0 = r.toInt64) ∨ (∃ E, (fun (E : String) (H : Heap) => (E = "java/lang/IndexOutOfBoundsException" ∧ b_card (W (π 0)) x = 0) ∨ (E = "java/lang/IllegalArgumentException" ∧ ¬ b_card (W (π 0)) x = 0 ∧ (y < 0 ∨ nI d < y ∨ ¬ nI d - 2 ≤ y))) E H9 ∧ k9 = (if E = "java/lang/IndexOutOfBoundsException" then 1 else 2) ∧ hp D H9 o (eL kA 1 w0))) := by
  refine CtW.of mh_L_chargedOn (Nat.le_of_ble_eq_true rfl) (ls0 := [(0, _), (1, _), (2, _), (3, _)]) rfl hg (fun q z => z ▸ ho3) ?_
  intro Pp Ee Ss Mm Ar Bl Me Cc Z hsH htab
  have Y := Z.1
  refine V_aload_n Y.1 3 dL_chargedOn_0 (rfl : _ = 1) rfl rfl ?_
  refine V_iconst Y.1 (v := 0) dL_chargedOn_1 (rfl : _ = 2) (by decide) ?_
  refine V_aload_n Y.1 0 dL_chargedOn_2 (rfl : _ = 3) rfl rfl ?_
  refine V_iload_n Y.1 1 dL_chargedOn_3 (rfl : _ = 4) rfl rfl ?_
  refine V_iload_n Y.1 2 dL_chargedOn_4 (rfl : _ = 5) rfl rfl ?_
  refine V_xI Y (sxV Z (c_X5_chargedOn l D kA Hs σ _ hg a W π ES u hs ep fc no go vs cs ns gs x y d hd hd2 hF hnt) mi_X5_chargedOn vi_L_90 rfl hF.1.1 rfl rfl (Nat.le_of_ble_eq_true rfl) ⟨Nat.le_of_ble_eq_true rfl, Nat.le_of_ble_eq_true rfl⟩ (Nat.le_of_ble_eq_true rfl) (Nat.le_of_ble_eq_true rfl) dL_chargedOn_5) (fun _ z => z.elim) (rfl : _ = 8) (fun E_5 H5_5 hx_5 o_5 => ?_) (fun v_5 H5_5 hq_5 o_5 => ?_)
  · have ho := ho.off o_5 (fun z => z)
    have hE9 : E_5 = "java/lang/IndexOutOfBoundsException" ∨ E_5 = "java/lang/IllegalArgumentException" := (by first | exact hx_5.1 | exact hx_5.elim (fun z => Or.inl z.1) (fun z => Or.inr z.1) | exact hx_5.1.elim (fun z => Or.inl z.1) (fun z => Or.inr z.1))
    rcases hE9 with rfl | rfl
    · refine VX_catch Z (pre := []) (x := ⟨0, 10, 13, 19⟩) (suf := [⟨0, 10, 17, 21⟩]) (htab.trans rfl) (fun z hz => nomatch hz) (by decide) (by decide) (by decide) (tm 1031 (by decide +kernel) (by decide +kernel)) (by decide +kernel) rfl (fun q9 => ?_)
      refine V_astore Y.1 (ls' := [(4, _), (0, _), (1, _), (2, _), (3, _)]) dL_chargedOn_13 (rfl : _ = 15) (by decide) rfl ?_
      refine V_iconst Y.1 (v := 1) dL_chargedOn_15 (rfl : _ = 16) (by decide) ?_
      exact V_ret Y.1 dL_chargedOn_16 rfl (Nat.le_of_ble_eq_true rfl) (Nat.le_of_ble_eq_true rfl) (Or.inr ⟨_, hx_5, by rw [if_pos rfl], ho⟩)
    · refine VX_catch Z (pre := [⟨0, 10, 13, 19⟩]) (x := ⟨0, 10, 17, 21⟩) (suf := []) (htab.trans rfl) (fun z hz => by obtain rfl := List.mem_singleton.mp hz; exact Or.inr ⟨by decide, "java/lang/IndexOutOfBoundsException", (tm 1031 (by decide +kernel) (by decide +kernel)), by decide, by decide⟩) (by decide) (by decide) (by decide) (tm 1034 (by decide +kernel) (by decide +kernel)) (by decide +kernel) rfl (fun q9 => ?_)
      refine V_astore Y.1 (ls' := [(4, _), (0, _), (1, _), (2, _), (3, _)]) dL_chargedOn_17 (rfl : _ = 19) (by decide) rfl ?_
      refine V_iconst Y.1 (v := 2) dL_chargedOn_19 (rfl : _ = 20) (by decide) ?_
      exact V_ret Y.1 dL_chargedOn_20 rfl (Nat.le_of_ble_eq_true rfl) (Nat.le_of_ble_eq_true rfl) (Or.inr ⟨_, hx_5, by rw [if_neg (by decide)], ho⟩)
  have ho := ho.off o_5 (fun z => z)
  refine V_i2l Y.1 dL_chargedOn_8 (rfl : _ = 9) rfl ?_
  refine V_last Y.1 ho (Or.inl rfl) (show ¬ ((0 : Int32) < 0 ∨ 1 ≤ (0 : Int32).toNatClampNeg) by decide) dL_chargedOn_9 (rfl : _ = 10) (fun H9_9 h_new o_9 => ?_)
  have ho := h_new
  clear h_new
  refine V_goto Y.1 (tgt := 21) dL_chargedOn_10 (by decide) ?_
  refine V_iconst Y.1 (v := 0) dL_chargedOn_21 (rfl : _ = 22) (by decide) ?_
  exact V_ret Y.1 dL_chargedOn_22 rfl (Nat.le_of_ble_eq_true rfl) (Nat.le_of_ble_eq_true rfl) (Or.inl ⟨rfl, _, _, _, hq_5, o_9, ho, rfl⟩)

set_option maxRecDepth 100000 in
set_option maxHeartbeats 4000000 in
theorem c_L_chargedOnByRecords (l : Launch) (D : va_G) (kA : Nat → ClassId) (Hs : Heap) (σ : SG) (H0 : Heap) (hg : Ag Hs H0) (a : Nat) (W : Nat → MS) (π : Nat → Nat) (ES : Nat → Prop) (u : Nat) (hs ep fc : Int32) (no : Nat) (go : Nat → Int32) (vs cs ns : Nat) (gs : Nat → Int32) (x y : Int32) (d : Nat) (hd : (W (π 0)).1 1 / 1440 = nI d) (hd2 : d < 2 ^ 30) (o : Nat) (w0 : Nat → Int64) (hF : Fs D kA H0 a W π ES u hs ep fc no go vs cs ns gs) (hnt : l.stackTraces = false)  (ho : hp D H0 o (eL kA 1 w0)) (ho1 : a + 329 ≤ o) (ho2 : o ≠ vs) (ho3 : Hs.size ≤ o) : CtW l D kA Hs σ yL_chargedOnByRecords cL_chargedOnByRecords 5 (some .int) [(0, 10, 13, 19), (0, 10, 17, 21)] 10 164 4 24 H0 [.ref a, .int x, .int y, .ref o] (fun q => q = o) (pI fun k9 H9 => (k9 = 0 ∧ ∃ r H1 w, (fun (v9 : Int32) (H : Heap) => v9 = k_recs y ((W (π 0)).2.2.2.2 x.toNatClampNeg) 0 ∧ H = H0 ∧ ¬ b_card (W (π 0)) x = 0 ∧ ¬ (y < 0 ∨ nI d < y ∨ ¬ nI d - 2 ≤ y)) r H1 ∧ sto o H1 H9 ∧ hp D H9 o (eL kA 1 w) ∧ w 0 = r.toInt64) ∨ (∃ E, (fun (E : String) (H : Heap) => (E = "java/lang/IndexOutOfBoundsException" ∧ b_card (W (π 0)) x = 0) ∨ (E = "java/lang/IllegalArgumentException" ∧ ¬ b_card (W (π 0)) x = 0 ∧ (y < 0 ∨ nI d < y ∨ ¬ nI d - 2 ≤ y))) E H9 ∧ k9 = (if E = "java/lang/IndexOutOfBoundsException" then 1 else 2) ∧ hp D H9 o (eL kA 1 w0))) := by
  refine CtW.of mh_L_chargedOnByRecords (Nat.le_of_ble_eq_true rfl) (ls0 := [(0, _), (1, _), (2, _), (3, _)]) rfl hg (fun q z => z ▸ ho3) ?_
  intro Pp Ee Ss Mm Ar Bl Me Cc Z hsH htab
  have Y := Z.1
  refine V_aload_n Y.1 3 dL_chargedOnByRecords_0 (rfl : _ = 1) rfl rfl ?_
  refine V_iconst Y.1 (v := 0) dL_chargedOnByRecords_1 (rfl : _ = 2) (by decide) ?_
  refine V_aload_n Y.1 0 dL_chargedOnByRecords_2 (rfl : _ = 3) rfl rfl ?_
  refine V_iload_n Y.1 1 dL_chargedOnByRecords_3 (rfl : _ = 4) rfl rfl ?_
  refine V_iload_n Y.1 2 dL_chargedOnByRecords_4 (rfl : _ = 5) rfl rfl ?_
  refine V_xI Y (sxV Z (c_X5_chargedOnByRecords l D kA Hs σ _ hg a W π ES u hs ep fc no go vs cs ns gs x y d hd hd2 hF hnt) mi_X5_chargedOnByRecords vi_L_93 rfl hF.1.1 rfl rfl (Nat.le_of_ble_eq_true rfl) ⟨Nat.le_of_ble_eq_true rfl, Nat.le_of_ble_eq_true rfl⟩ (Nat.le_of_ble_eq_true rfl) (Nat.le_of_ble_eq_true rfl) dL_chargedOnByRecords_5) (fun _ z => z.elim) (rfl : _ = 8) (fun E_5 H5_5 hx_5 o_5 => ?_) (fun v_5 H5_5 hq_5 o_5 => ?_)
  · have ho := ho.off o_5 (fun z => z)
    have hE9 : E_5 = "java/lang/IndexOutOfBoundsException" ∨ E_5 = "java/lang/IllegalArgumentException" := (by first | exact hx_5.1 | exact hx_5.elim (fun z => Or.inl z.1) (fun z => Or.inr z.1) | exact hx_5.1.elim (fun z => Or.inl z.1) (fun z => Or.inr z.1))
    rcases hE9 with rfl | rfl
    · refine VX_catch Z (pre := []) (x := ⟨0, 10, 13, 19⟩) (suf := [⟨0, 10, 17, 21⟩]) (htab.trans rfl) (fun z hz => nomatch hz) (by decide) (by decide) (by decide) (tm 1031 (by decide +kernel) (by decide +kernel)) (by decide +kernel) rfl (fun q9 => ?_)
      refine V_astore Y.1 (ls' := [(4, _), (0, _), (1, _), (2, _), (3, _)]) dL_chargedOnByRecords_13 (rfl : _ = 15) (by decide) rfl ?_
      refine V_iconst Y.1 (v := 1) dL_chargedOnByRecords_15 (rfl : _ = 16) (by decide) ?_
      exact V_ret Y.1 dL_chargedOnByRecords_16 rfl (Nat.le_of_ble_eq_true rfl) (Nat.le_of_ble_eq_true rfl) (Or.inr ⟨_, hx_5, by rw [if_pos rfl], ho⟩)
    · refine VX_catch Z (pre := [⟨0, 10, 13, 19⟩]) (x := ⟨0, 10, 17, 21⟩) (suf := []) (htab.trans rfl) (fun z hz => by obtain rfl := List.mem_singleton.mp hz; exact Or.inr ⟨by decide, "java/lang/IndexOutOfBoundsException", (tm 1031 (by decide +kernel) (by decide +kernel)), by decide, by decide⟩) (by decide) (by decide) (by decide) (tm 1034 (by decide +kernel) (by decide +kernel)) (by decide +kernel) rfl (fun q9 => ?_)
      refine V_astore Y.1 (ls' := [(4, _), (0, _), (1, _), (2, _), (3, _)]) dL_chargedOnByRecords_17 (rfl : _ = 19) (by decide) rfl ?_
      refine V_iconst Y.1 (v := 2) dL_chargedOnByRecords_19 (rfl : _ = 20) (by decide) ?_
      exact V_ret Y.1 dL_chargedOnByRecords_20 rfl (Nat.le_of_ble_eq_true rfl) (Nat.le_of_ble_eq_true rfl) (Or.inr ⟨_, hx_5, by rw [if_neg (by decide)], ho⟩)
  have ho := ho.off o_5 (fun z => z)
  refine V_i2l Y.1 dL_chargedOnByRecords_8 (rfl : _ = 9) rfl ?_
  refine V_last Y.1 ho (Or.inl rfl) (show ¬ ((0 : Int32) < 0 ∨ 1 ≤ (0 : Int32).toNatClampNeg) by decide) dL_chargedOnByRecords_9 (rfl : _ = 10) (fun H9_9 h_new o_9 => ?_)
  have ho := h_new
  clear h_new
  refine V_goto Y.1 (tgt := 21) dL_chargedOnByRecords_10 (by decide) ?_
  refine V_iconst Y.1 (v := 0) dL_chargedOnByRecords_21 (rfl : _ = 22) (by decide) ?_
  exact V_ret Y.1 dL_chargedOnByRecords_22 rfl (Nat.le_of_ble_eq_true rfl) (Nat.le_of_ble_eq_true rfl) (Or.inl ⟨rfl, _, _, _, hq_5, o_9, ho, rfl⟩)

set_option maxRecDepth 100000 in
set_option maxHeartbeats 4000000 in
theorem c_L_leftUnderCap (l : Launch) (D : va_G) (kA : Nat → ClassId) (Hs : Heap) (σ : SG) (H0 : Heap) (hg : Ag Hs H0) (a : Nat) (W : Nat → MS) (π : Nat → Nat) (ES : Nat → Prop) (u : Nat) (hs ep fc : Int32) (no : Nat) (go : Nat → Int32) (vs cs ns : Nat) (gs : Nat → Int32) (x : Int32) (d : Nat) (hd : (W (π 0)).1 1 / 1440 = nI d) (hd2 : d < 2 ^ 30) (o : Nat) (w0 : Nat → Int64) (hF : Fs D kA H0 a W π ES u hs ep fc no go vs cs ns gs) (hnt : l.stackTraces = false)  (ho : hp D H0 o (eL kA 1 w0)) (ho1 : a + 329 ≤ o) (ho2 : o ≠ vs) (ho3 : Hs.size ≤ o) : CtW l D kA Hs σ yL_leftUnderCap cL_leftUnderCap 4 (some .int) [(0, 9, 12, 19)] 10 162 4 24 H0 [.ref a, .int x, .ref o] (fun q => q = o) (pI fun k9 H9 => (k9 = 0 ∧ ∃ r H1 w, (fun (v9 : Int32) (H : Heap) => v9 = k_left (m_c (W (π 0)) x) d ∧ H = H0 ∧ ¬ b_card (W (π 0)) x = 0) r H1 ∧ sto o H1 H9 ∧ hp D H9 o (eL kA 1 w) ∧ w 0 = r.toInt64) ∨ (∃ E, (fun (E : String) (H : Heap) => (E = "java/lang/IndexOutOfBoundsException" ∧ b_card (W (π 0)) x = 0)) E H9 ∧ k9 = (1) ∧ hp D H9 o (eL kA 1 w0))) := by
  refine CtW.of mh_L_leftUnderCap (Nat.le_of_ble_eq_true rfl) (ls0 := [(0, _), (1, _), (2, _)]) rfl hg (fun q z => z ▸ ho3) ?_
  intro Pp Ee Ss Mm Ar Bl Me Cc Z hsH htab
  have Y := Z.1
  refine V_aload_n Y.1 2 dL_leftUnderCap_0 (rfl : _ = 1) rfl rfl ?_
  refine V_iconst Y.1 (v := 0) dL_leftUnderCap_1 (rfl : _ = 2) (by decide) ?_
  refine V_aload_n Y.1 0 dL_leftUnderCap_2 (rfl : _ = 3) rfl rfl ?_
  refine V_iload_n Y.1 1 dL_leftUnderCap_3 (rfl : _ = 4) rfl rfl ?_
  refine V_xI Y (sxV Z (c_X5_leftUnderCap l D kA Hs σ _ hg a W π ES u hs ep fc no go vs cs ns gs x d hd hd2 hF hnt) mi_X5_leftUnderCap vi_L_96 rfl hF.1.1 rfl rfl (Nat.le_of_ble_eq_true rfl) ⟨Nat.le_of_ble_eq_true rfl, Nat.le_of_ble_eq_true rfl⟩ (Nat.le_of_ble_eq_true rfl) (Nat.le_of_ble_eq_true rfl) dL_leftUnderCap_4) (fun _ z => z.elim) (rfl : _ = 7) (fun E_4 H4_4 hx_4 o_4 => ?_) (fun v_4 H4_4 hq_4 o_4 => ?_)
  · have ho := ho.off o_4 (fun z => z)
    obtain rfl : E_4 = "java/lang/IndexOutOfBoundsException" := (by first | exact hx_4.1 | exact hx_4.elim (fun z => Or.inl z.1) (fun z => Or.inr z.1) | exact hx_4.1.elim (fun z => Or.inl z.1) (fun z => Or.inr z.1))
    refine VX_catch Z (pre := []) (x := ⟨0, 9, 12, 19⟩) (suf := []) (htab.trans rfl) (fun z hz => nomatch hz) (by decide) (by decide) (by decide) (tm 1031 (by decide +kernel) (by decide +kernel)) (by decide +kernel) rfl (fun q9 => ?_)
    refine V_astore_n Y.1 (ls' := [(3, _), (0, _), (1, _), (2, _)]) dL_leftUnderCap_12 (rfl : _ = 13) rfl (by decide) rfl ?_
    refine V_iconst Y.1 (v := 1) dL_leftUnderCap_13 (rfl : _ = 14) (by decide) ?_
    exact V_ret Y.1 dL_leftUnderCap_14 rfl (Nat.le_of_ble_eq_true rfl) (Nat.le_of_ble_eq_true rfl) (Or.inr ⟨_, hx_4, by rfl, ho⟩)
  have ho := ho.off o_4 (fun z => z)
  refine V_i2l Y.1 dL_leftUnderCap_7 (rfl : _ = 8) rfl ?_
  refine V_last Y.1 ho (Or.inl rfl) (show ¬ ((0 : Int32) < 0 ∨ 1 ≤ (0 : Int32).toNatClampNeg) by decide) dL_leftUnderCap_8 (rfl : _ = 9) (fun H8_8 h_new o_8 => ?_)
  have ho := h_new
  clear h_new
  refine V_goto Y.1 (tgt := 15) dL_leftUnderCap_9 (by decide) ?_
  refine V_iconst Y.1 (v := 0) dL_leftUnderCap_15 (rfl : _ = 16) (by decide) ?_
  exact V_ret Y.1 dL_leftUnderCap_16 rfl (Nat.le_of_ble_eq_true rfl) (Nat.le_of_ble_eq_true rfl) (Or.inl ⟨rfl, _, _, _, hq_4, o_8, ho, rfl⟩)

set_option maxRecDepth 100000 in
set_option maxHeartbeats 4000000 in
theorem c_L_isRepairable (l : Launch) (D : va_G) (kA : Nat → ClassId) (Hs : Heap) (σ : SG) (H0 : Heap) (hg : Ag Hs H0) (a : Nat) (W : Nat → MS) (π : Nat → Nat) (ES : Nat → Prop) (u : Nat) (hs ep fc : Int32) (no : Nat) (go : Nat → Int32) (vs cs ns : Nat) (gs : Nat → Int32) (x : Int32)  (o : Nat) (w0 : Nat → Int64) (hF : Fs D kA H0 a W π ES u hs ep fc no go vs cs ns gs) (hnt : l.stackTraces = false)  (ho : hp D H0 o (eL kA 1 w0)) (ho1 : a + 329 ≤ o) (ho2 : o ≠ vs) (ho3 : Hs.size ≤ o) : CtW l D kA Hs σ yL_isRepairable cL_isRepairable 4 (some .int) [(0, 16, 19, 19)] 10 162 4 24 H0 [.ref a, .int x, .ref o] (fun q => q = o) (pI fun k9 H9 => (k9 = 0 ∧ ∃ r H1 w, (fun (v9 : Int32) (H : Heap) => v9 = (if (m_c (W (π 0)) x).1 10 = 0 then 0 else m_rep (W (π 0)) x) ∧ H = H0 ∧ ¬ b_card (W (π 0)) x = 0) r H1 ∧ sto o H1 H9 ∧ hp D H9 o (eL kA 1 w) ∧ w 0 = (if r = 0 then 0 else 1)) ∨ (∃ E, (fun (E : String) (H : Heap) => (E = "java/lang/IndexOutOfBoundsException" ∧ b_card (W (π 0)) x = 0)) E H9 ∧ k9 = (1) ∧ hp D H9 o (eL kA 1 w0))) := by
  refine CtW.of mh_L_isRepairable (Nat.le_of_ble_eq_true rfl) (ls0 := [(0, _), (1, _), (2, _)]) rfl hg (fun q z => z ▸ ho3) ?_
  intro Pp Ee Ss Mm Ar Bl Me Cc Z hsH htab
  have Y := Z.1
  refine V_aload_n Y.1 2 dL_isRepairable_0 (rfl : _ = 1) rfl rfl ?_
  refine V_iconst Y.1 (v := 0) dL_isRepairable_1 (rfl : _ = 2) (by decide) ?_
  refine V_aload_n Y.1 0 dL_isRepairable_2 (rfl : _ = 3) rfl rfl ?_
  refine V_iload_n Y.1 1 dL_isRepairable_3 (rfl : _ = 4) rfl rfl ?_
  refine V_xI Y (sxV Z (c_X5_isRepairable l D kA Hs σ _ hg a W π ES u hs ep fc no go vs cs ns gs x hF hnt) mi_X5_isRepairable vi_L_99 rfl hF.1.1 rfl rfl (Nat.le_of_ble_eq_true rfl) ⟨Nat.le_of_ble_eq_true rfl, Nat.le_of_ble_eq_true rfl⟩ (Nat.le_of_ble_eq_true rfl) (Nat.le_of_ble_eq_true rfl) dL_isRepairable_4) (fun _ z => z.elim) (rfl : _ = 7) (fun E_4 H4_4 hx_4 o_4 => ?_) (fun v_4 H4_4 hq_4 o_4 => ?_)
  · have ho := ho.off o_4 (fun z => z)
    obtain rfl : E_4 = "java/lang/IndexOutOfBoundsException" := (by first | exact hx_4.1 | exact hx_4.elim (fun z => Or.inl z.1) (fun z => Or.inr z.1) | exact hx_4.1.elim (fun z => Or.inl z.1) (fun z => Or.inr z.1))
    refine VX_catch Z (pre := []) (x := ⟨0, 16, 19, 19⟩) (suf := []) (htab.trans rfl) (fun z hz => nomatch hz) (by decide) (by decide) (by decide) (tm 1031 (by decide +kernel) (by decide +kernel)) (by decide +kernel) rfl (fun q9 => ?_)
    refine V_astore_n Y.1 (ls' := [(3, _), (0, _), (1, _), (2, _)]) dL_isRepairable_19 (rfl : _ = 20) rfl (by decide) rfl ?_
    refine V_iconst Y.1 (v := 1) dL_isRepairable_20 (rfl : _ = 21) (by decide) ?_
    exact V_ret Y.1 dL_isRepairable_21 rfl (Nat.le_of_ble_eq_true rfl) (Nat.le_of_ble_eq_true rfl) (Or.inr ⟨_, hx_4, by rfl, ho⟩)
  have ho := ho.off o_4 (fun z => z)
  refine V_if_eq Y.1 (tgt := 14) dL_isRepairable_7 (by decide) (rfl : _ = 10) (fun c_7 => ?_) (fun c_7 => ?_)
  · refine V_lconst Y.1 (v := 0) dL_isRepairable_14 (rfl : _ = 15) (by decide) ?_
    refine V_last Y.1 ho (Or.inl rfl) (show ¬ ((0 : Int32) < 0 ∨ 1 ≤ (0 : Int32).toNatClampNeg) by decide) dL_isRepairable_15 (rfl : _ = 16) (fun H15_9 h_new o_15 => ?_)
    have ho := h_new
    clear h_new
    refine V_goto Y.1 (tgt := 22) dL_isRepairable_16 (by decide) ?_
    refine V_iconst Y.1 (v := 0) dL_isRepairable_22 (rfl : _ = 23) (by decide) ?_
    exact V_ret Y.1 dL_isRepairable_23 rfl (Nat.le_of_ble_eq_true rfl) (Nat.le_of_ble_eq_true rfl) (Or.inl ⟨rfl, _, _, _, hq_4, o_15, ho, by first | exact (if_pos ‹_›).symm | exact (if_neg ‹_›).symm⟩)
  · refine V_lconst Y.1 (v := 1) dL_isRepairable_10 (rfl : _ = 11) (by decide) ?_
    refine V_goto Y.1 (tgt := 15) dL_isRepairable_11 (by decide) ?_
    refine V_last Y.1 ho (Or.inl rfl) (show ¬ ((0 : Int32) < 0 ∨ 1 ≤ (0 : Int32).toNatClampNeg) by decide) dL_isRepairable_15 (rfl : _ = 16) (fun H15_17 h_new o_15 => ?_)
    have ho := h_new
    clear h_new
    refine V_goto Y.1 (tgt := 22) dL_isRepairable_16 (by decide) ?_
    refine V_iconst Y.1 (v := 0) dL_isRepairable_22 (rfl : _ = 23) (by decide) ?_
    exact V_ret Y.1 dL_isRepairable_23 rfl (Nat.le_of_ble_eq_true rfl) (Nat.le_of_ble_eq_true rfl) (Or.inl ⟨rfl, _, _, _, hq_4, o_15, ho, by first | exact (if_pos ‹_›).symm | exact (if_neg ‹_›).symm⟩)

set_option maxRecDepth 100000 in
set_option maxHeartbeats 4000000 in
theorem c_L_cardBySpending (l : Launch) (D : va_G) (kA : Nat → ClassId) (Hs : Heap) (σ : SG) (H0 : Heap) (hg : Ag Hs H0) (a : Nat) (W : Nat → MS) (π : Nat → Nat) (ES : Nat → Prop) (u : Nat) (hs ep fc : Int32) (no : Nat) (go : Nat → Int32) (vs cs ns : Nat) (gs : Nat → Int32) (x : Int32) (n : Nat) (hn : (W (π 0)).1 0 = nI n) (hn8 : n ≤ 8) (d : Nat) (hd : (W (π 0)).1 1 / 1440 = nI d) (hd2 : d < 2 ^ 30) (o : Nat) (w0 : Nat → Int64) (hF : Fs D kA H0 a W π ES u hs ep fc no go vs cs ns gs) (hnt : l.stackTraces = false)  (ho : hp D H0 o (eL kA 1 w0)) (ho1 : a + 329 ≤ o) (ho2 : o ≠ vs) (ho3 : Hs.size ≤ o) : CtW l D kA Hs σ yL_cardBySpending cL_cardBySpending 4 (some .int) [(0, 9, 12, 35)] 9 142 4 24 H0 [.ref a, .int x, .ref o] (fun q => q = o) (pI fun k9 H9 => (k9 = 0 ∧ ∃ r H1 w, (fun (v9 : Int32) (H : Heap) => H = H0 ∧ ∃ i, i < n ∧ v9 = nI i ∧ nI (m_rk (W (π 0)) d i n) = x ∧ ∀ j, j < i → ¬ nI (m_rk (W (π 0)) d j n) = x) r H1 ∧ sto o H1 H9 ∧ hp D H9 o (eL kA 1 w) ∧ w 0 = r.toInt64) ∨ (∃ E, (fun (E : String) (H : Heap) => E = "java/util/NoSuchElementException" ∧ ∀ j, j < n → ¬ nI (m_rk (W (π 0)) d j n) = x) E H9 ∧ k9 = (1) ∧ hp D H9 o (eL kA 1 w0))) := by
  refine CtW.of mh_L_cardBySpending (Nat.le_of_ble_eq_true rfl) (ls0 := [(0, _), (1, _), (2, _)]) rfl hg (fun q z => z ▸ ho3) ?_
  intro Pp Ee Ss Mm Ar Bl Me Cc Z hsH htab
  have Y := Z.1
  refine V_aload_n Y.1 2 dL_cardBySpending_0 (rfl : _ = 1) rfl rfl ?_
  refine V_iconst Y.1 (v := 0) dL_cardBySpending_1 (rfl : _ = 2) (by decide) ?_
  refine V_aload_n Y.1 0 dL_cardBySpending_2 (rfl : _ = 3) rfl rfl ?_
  refine V_iload_n Y.1 1 dL_cardBySpending_3 (rfl : _ = 4) rfl rfl ?_
  refine V_xI Y (sxV Z (c_X5_cardBySpending l D kA Hs σ _ hg a W π ES u hs ep fc no go vs cs ns gs x n hn hn8 d hd hd2 hF hnt) mi_X5_cardBySpending vi_L_102 rfl hF.1.1 rfl rfl (Nat.le_of_ble_eq_true rfl) ⟨Nat.le_of_ble_eq_true rfl, Nat.le_of_ble_eq_true rfl⟩ (Nat.le_of_ble_eq_true rfl) (Nat.le_of_ble_eq_true rfl) dL_cardBySpending_4) (fun _ z => z.elim) (rfl : _ = 7) (fun E_4 H4_4 hx_4 o_4 => ?_) (fun v_4 H4_4 hq_4 o_4 => ?_)
  · have ho := ho.off o_4 (fun z => z)
    obtain rfl : E_4 = "java/util/NoSuchElementException" := (by first | exact hx_4.1 | exact hx_4.elim (fun z => Or.inl z.1) (fun z => Or.inr z.1) | exact hx_4.1.elim (fun z => Or.inl z.1) (fun z => Or.inr z.1))
    refine VX_catch Z (pre := []) (x := ⟨0, 9, 12, 35⟩) (suf := []) (htab.trans rfl) (fun z hz => nomatch hz) (by decide) (by decide) (by decide) (tm 1057 (by decide +kernel) (by decide +kernel)) (by decide +kernel) rfl (fun q9 => ?_)
    refine V_astore_n Y.1 (ls' := [(3, _), (0, _), (1, _), (2, _)]) dL_cardBySpending_12 (rfl : _ = 13) rfl (by decide) rfl ?_
    refine V_iconst Y.1 (v := 1) dL_cardBySpending_13 (rfl : _ = 14) (by decide) ?_
    exact V_ret Y.1 dL_cardBySpending_14 rfl (Nat.le_of_ble_eq_true rfl) (Nat.le_of_ble_eq_true rfl) (Or.inr ⟨_, hx_4, by rfl, ho⟩)
  have ho := ho.off o_4 (fun z => z)
  refine V_i2l Y.1 dL_cardBySpending_7 (rfl : _ = 8) rfl ?_
  refine V_last Y.1 ho (Or.inl rfl) (show ¬ ((0 : Int32) < 0 ∨ 1 ≤ (0 : Int32).toNatClampNeg) by decide) dL_cardBySpending_8 (rfl : _ = 9) (fun H8_8 h_new o_8 => ?_)
  have ho := h_new
  clear h_new
  refine V_goto Y.1 (tgt := 15) dL_cardBySpending_9 (by decide) ?_
  refine V_iconst Y.1 (v := 0) dL_cardBySpending_15 (rfl : _ = 16) (by decide) ?_
  exact V_ret Y.1 dL_cardBySpending_16 rfl (Nat.le_of_ble_eq_true rfl) (Nat.le_of_ble_eq_true rfl) (Or.inl ⟨rfl, _, _, _, hq_4, o_8, ho, rfl⟩)

set_option maxRecDepth 100000 in
set_option maxHeartbeats 4000000 in
theorem c_L_meanCharge (l : Launch) (D : va_G) (kA : Nat → ClassId) (Hs : Heap) (σ : SG) (H0 : Heap) (hg : Ag Hs H0) (a : Nat) (W : Nat → MS) (π : Nat → Nat) (ES : Nat → Prop) (u : Nat) (hs ep fc : Int32) (no : Nat) (go : Nat → Int32) (vs cs ns : Nat) (gs : Nat → Int32)  (o : Nat) (w0 : Nat → UInt64) (hF : Fs D kA H0 a W π ES u hs ep fc no go vs cs ns gs) (hnt : l.stackTraces = false)  (ho : hp D H0 o (eD kA 1 w0)) (ho1 : a + 329 ≤ o) (ho2 : o ≠ vs) (ho3 : Hs.size ≤ o) : CtW l D kA Hs σ yL_meanCharge cL_meanCharge 3 (some .int) [(0, 7, 10, 109)] 9 141 4 24 H0 [.ref a, .ref o] (fun q => q = o) (pI fun k9 H9 => (k9 = 0 ∧ ∃ r H1 w, (fun (v9 : UInt64) (H : Heap) => v9 = FP.ddiv (FP.i2d ((W (π 0)).1 3)) (FP.i2d ((W (π 0)).1 5 + (W (π 0)).1 6)) ∧ H = H0 ∧ ¬ (W (π 0)).1 5 + (W (π 0)).1 6 = 0) r H1 ∧ sto o H1 H9 ∧ hp D H9 o (eD kA 1 w) ∧ w 0 = r) ∨ (∃ E, (fun (E : String) (H : Heap) => E = "java/lang/ArithmeticException" ∧ (W (π 0)).1 5 + (W (π 0)).1 6 = 0) E H9 ∧ k9 = (1) ∧ hp D H9 o (eD kA 1 w0))) := by
  refine CtW.of mh_L_meanCharge (Nat.le_of_ble_eq_true rfl) (ls0 := [(0, _), (1, _)]) rfl hg (fun q z => z ▸ ho3) ?_
  intro Pp Ee Ss Mm Ar Bl Me Cc Z hsH htab
  have Y := Z.1
  refine V_aload_n Y.1 1 dL_meanCharge_0 (rfl : _ = 1) rfl rfl ?_
  refine V_iconst Y.1 (v := 0) dL_meanCharge_1 (rfl : _ = 2) (by decide) ?_
  refine V_aload_n Y.1 0 dL_meanCharge_2 (rfl : _ = 3) rfl rfl ?_
  refine V_xD Y (sxV Z (c_X5_meanCharge l D kA Hs σ _ hg a W π ES u hs ep fc no go vs cs ns gs hF hnt) mi_X5_meanCharge vi_L_105 rfl hF.1.1 rfl rfl (Nat.le_of_ble_eq_true rfl) ⟨Nat.le_of_ble_eq_true rfl, Nat.le_of_ble_eq_true rfl⟩ (Nat.le_of_ble_eq_true rfl) (Nat.le_of_ble_eq_true rfl) dL_meanCharge_3) (fun _ z => z.elim) (rfl : _ = 6) (fun E_3 H3_3 hx_3 o_3 => ?_) (fun v_3 H3_3 hq_3 o_3 => ?_)
  · have ho := ho.off o_3 (fun z => z)
    obtain rfl : E_3 = "java/lang/ArithmeticException" := (by first | exact hx_3.1 | exact hx_3.elim (fun z => Or.inl z.1) (fun z => Or.inr z.1) | exact hx_3.1.elim (fun z => Or.inl z.1) (fun z => Or.inr z.1))
    refine VX_catch Z (pre := []) (x := ⟨0, 7, 10, 109⟩) (suf := []) (htab.trans rfl) (fun z hz => nomatch hz) (by decide) (by decide) (by decide) (tm 1263 (by decide +kernel) (by decide +kernel)) (by decide +kernel) rfl (fun q9 => ?_)
    refine V_astore_n Y.1 (ls' := [(2, _), (0, _), (1, _)]) dL_meanCharge_10 (rfl : _ = 11) rfl (by decide) rfl ?_
    refine V_iconst Y.1 (v := 1) dL_meanCharge_11 (rfl : _ = 12) (by decide) ?_
    exact V_ret Y.1 dL_meanCharge_12 rfl (Nat.le_of_ble_eq_true rfl) (Nat.le_of_ble_eq_true rfl) (Or.inr ⟨_, hx_3, by rfl, ho⟩)
  have ho := ho.off o_3 (fun z => z)
  refine V_dast Y.1 ho (Or.inl rfl) (show ¬ ((0 : Int32) < 0 ∨ 1 ≤ (0 : Int32).toNatClampNeg) by decide) dL_meanCharge_6 (rfl : _ = 7) (fun H6_6 h_new o_6 => ?_)
  have ho := h_new
  clear h_new
  refine V_goto Y.1 (tgt := 13) dL_meanCharge_7 (by decide) ?_
  refine V_iconst Y.1 (v := 0) dL_meanCharge_13 (rfl : _ = 14) (by decide) ?_
  exact V_ret Y.1 dL_meanCharge_14 rfl (Nat.le_of_ble_eq_true rfl) (Nat.le_of_ble_eq_true rfl) (Or.inl ⟨rfl, _, _, _, hq_3, o_6, ho, rfl⟩)

set_option maxRecDepth 100000 in
set_option maxHeartbeats 4000000 in
theorem c_L_renderCard (l : Launch) (D : va_G) (kA : Nat → ClassId) (Hs : Heap) (σ : SG) (H0 : Heap) (hg : Ag Hs H0) (a : Nat) (W : Nat → MS) (π : Nat → Nat) (ES : Nat → Prop) (u : Nat) (hs ep fc : Int32) (no : Nat) (go : Nat → Int32) (vs cs ns : Nat) (gs : Nat → Int32) (x : Int32) (o : Nat) (w0 : Nat → Int64) (hF : Fs D kA H0 a W π ES u hs ep fc no go vs cs ns gs) (hnt : l.stackTraces = false) (hcb : ∀ i : Nat, i < 8 → nI i < (W (π 0)).1 0 → -100000 < (((W (π 0)).2.2.2.1 i).1 1).toInt ∧ (((W (π 0)).2.2.2.1 i).1 1).toInt < 100000) (hjt : ∀ i : Nat, i < 8 → nI i < (W (π 0)).1 0 → ¬ ((W (π 0)).2.2.2.1 i).1 2 = 0 → ∃ j, j < 12 ∧ ((W (π 0)).2.2.2.1 i).1 3 = nI j) (hbs : Hs.size ≤ a) (ho : hp D H0 o (eL kA 1 w0)) (ho1 : a + 329 ≤ o) (ho2 : o ≠ vs) (ho3 : Hs.size ≤ o) : CtW l D kA Hs σ yL_renderCard cL_renderCard 4 (some .int) [(0, 9, 12, 19)] 11 184 4 24 H0 [.ref a, .int x, .ref o] (fun q => (fun q => q = a + 321 ∨ q = a + 322) q ∨ q = o) (pI fun k9 H9 => (k9 = 0 ∧ ∃ r H1 w, (fun (v9 : Int32) (H : Heap) => v9 = nI (m_card9 (W (π 0)) x.toNatClampNeg).length ∧ ¬ b_card (W (π 0)) x = 0 ∧ Fs D kA H a W π ES u hs ep fc ((m_card9 (W (π 0)) x.toNatClampNeg).length) (r_put go 0 (m_card9 (W (π 0)) x.toNatClampNeg)) vs cs ns gs) r H1 ∧ sto o H1 H9 ∧ hp D H9 o (eL kA 1 w) ∧ w 0 = r.toInt64) ∨ (∃ E, (fun (E : String) (H : Heap) => E = "java/lang/IndexOutOfBoundsException" ∧ b_card (W (π 0)) x = 0 ∧ Fs D kA H a W π ES u hs ep fc no go vs cs ns gs) E H9 ∧ k9 = (1) ∧ hp D H9 o (eL kA 1 w0))) := by
  refine CtW.of mh_L_renderCard (Nat.le_of_ble_eq_true rfl) (ls0 := [(0, _), (1, _), (2, _)]) rfl hg (fun q z => z.elim (fun z => (show ∀ q, (fun q => q = a + 321 ∨ q = a + 322) q → Hs.size ≤ q from (fun q z => z.elim (fun e => e ▸ (by omega)) (fun e => e ▸ (by omega)))) q z) (fun z => z ▸ ho3)) ?_
  intro Pp Ee Ss Mm Ar Bl Me Cc Z hsH htab
  have Y := Z.1
  refine V_aload_n Y.1 2 dL_renderCard_0 (rfl : _ = 1) rfl rfl ?_
  refine V_iconst Y.1 (v := 0) dL_renderCard_1 (rfl : _ = 2) (by decide) ?_
  refine V_aload_n Y.1 0 dL_renderCard_2 (rfl : _ = 3) rfl rfl ?_
  refine V_iload_n Y.1 1 dL_renderCard_3 (rfl : _ = 4) rfl rfl ?_
  refine V_xI Y (sxV Z (c_X5_renderCard l D kA Hs σ _ hg a W π ES u hs ep fc no go vs cs ns gs x hF hnt hcb hjt hbs) mi_X5_renderCard vi_L_123 rfl hF.1.1 rfl rfl (Nat.le_of_ble_eq_true rfl) ⟨Nat.le_of_ble_eq_true rfl, Nat.le_of_ble_eq_true rfl⟩ (Nat.le_of_ble_eq_true rfl) (Nat.le_of_ble_eq_true rfl) dL_renderCard_4) (fun q z => Or.inl (Or.inl z)) (rfl : _ = 7) (fun E_4 H4_4 hx_4 o_4 => ?_) (fun v_4 H4_4 hq_4 o_4 => ?_)
  · have ho := ho.off o_4 (fun z => z.elim (fun e => by omega) (fun e => by omega))
    obtain rfl : E_4 = "java/lang/IndexOutOfBoundsException" := (by first | exact hx_4.1 | exact hx_4.elim (fun z => Or.inl z.1) (fun z => Or.inr z.1) | exact hx_4.1.elim (fun z => Or.inl z.1) (fun z => Or.inr z.1))
    refine VX_catch Z (pre := []) (x := ⟨0, 9, 12, 19⟩) (suf := []) (htab.trans rfl) (fun z hz => nomatch hz) (by decide) (by decide) (by decide) (tm 1031 (by decide +kernel) (by decide +kernel)) (by decide +kernel) rfl (fun q9 => ?_)
    refine V_astore_n Y.1 (ls' := [(3, _), (0, _), (1, _), (2, _)]) dL_renderCard_12 (rfl : _ = 13) rfl (by decide) rfl ?_
    refine V_iconst Y.1 (v := 1) dL_renderCard_13 (rfl : _ = 14) (by decide) ?_
    exact V_ret Y.1 dL_renderCard_14 rfl (Nat.le_of_ble_eq_true rfl) (Nat.le_of_ble_eq_true rfl) (Or.inr ⟨_, hx_4, by rfl, ho⟩)
  have ho := ho.off o_4 (fun z => z.elim (fun e => by omega) (fun e => by omega))
  refine V_i2l Y.1 dL_renderCard_7 (rfl : _ = 8) rfl ?_
  refine V_last Y.1 ho (Or.inl (Or.inr rfl)) (show ¬ ((0 : Int32) < 0 ∨ 1 ≤ (0 : Int32).toNatClampNeg) by decide) dL_renderCard_8 (rfl : _ = 9) (fun H8_8 h_new o_8 => ?_)
  have ho := h_new
  clear h_new
  refine V_goto Y.1 (tgt := 15) dL_renderCard_9 (by decide) ?_
  refine V_iconst Y.1 (v := 0) dL_renderCard_15 (rfl : _ = 16) (by decide) ?_
  exact V_ret Y.1 dL_renderCard_16 rfl (Nat.le_of_ble_eq_true rfl) (Nat.le_of_ble_eq_true rfl) (Or.inl ⟨rfl, _, _, _, hq_4, o_8, ho, rfl⟩)

set_option maxRecDepth 100000 in
set_option maxHeartbeats 4000000 in
theorem c_L_outputAt (l : Launch) (D : va_G) (kA : Nat → ClassId) (Hs : Heap) (σ : SG) (H0 : Heap) (hg : Ag Hs H0) (a : Nat) (W : Nat → MS) (π : Nat → Nat) (ES : Nat → Prop) (u : Nat) (hs ep fc : Int32) (no : Nat) (go : Nat → Int32) (vs cs ns : Nat) (gs : Nat → Int32) (x : Int32) (o : Nat) (w0 : Nat → Int64) (hF : Fs D kA H0 a W π ES u hs ep fc no go vs cs ns gs) (hnt : l.stackTraces = false) (hgo : ∀ j, j < no → ∃ c, c < 128 ∧ go j = nI c) (ho : hp D H0 o (eL kA 1 w0)) (ho1 : a + 329 ≤ o) (ho2 : o ≠ vs) (ho3 : Hs.size ≤ o) : CtW l D kA Hs σ yL_outputAt cL_outputAt 4 (some .int) [(0, 9, 12, 19)] 9 141 4 24 H0 [.ref a, .int x, .ref o] (fun q => q = o) (pI fun k9 H9 => (k9 = 0 ∧ ∃ r H1 w, (fun (v9 : Int32) (H : Heap) => v9 = go x.toNatClampNeg ∧ H = H0 ∧ (¬ x < 0 ∧ x < nI no)) r H1 ∧ sto o H1 H9 ∧ hp D H9 o (eL kA 1 w) ∧ w 0 = r.toInt64) ∨ (∃ E, (fun (E : String) (H : Heap) => E = "java/lang/IndexOutOfBoundsException" ∧ (x < 0 ∨ ¬ x < nI no)) E H9 ∧ k9 = (1) ∧ hp D H9 o (eL kA 1 w0))) := by
  refine CtW.of mh_L_outputAt (Nat.le_of_ble_eq_true rfl) (ls0 := [(0, _), (1, _), (2, _)]) rfl hg (fun q z => z ▸ ho3) ?_
  intro Pp Ee Ss Mm Ar Bl Me Cc Z hsH htab
  have Y := Z.1
  refine V_aload_n Y.1 2 dL_outputAt_0 (rfl : _ = 1) rfl rfl ?_
  refine V_iconst Y.1 (v := 0) dL_outputAt_1 (rfl : _ = 2) (by decide) ?_
  refine V_aload_n Y.1 0 dL_outputAt_2 (rfl : _ = 3) rfl rfl ?_
  refine V_iload_n Y.1 1 dL_outputAt_3 (rfl : _ = 4) rfl rfl ?_
  refine V_xI Y (sxV Z (c_X5_outputAt l D kA Hs σ _ hg a W π ES u hs ep fc no go vs cs ns gs x hF hnt hgo) mi_X5_outputAt vi_L_126 rfl hF.1.1 rfl rfl (Nat.le_of_ble_eq_true rfl) ⟨Nat.le_of_ble_eq_true rfl, Nat.le_of_ble_eq_true rfl⟩ (Nat.le_of_ble_eq_true rfl) (Nat.le_of_ble_eq_true rfl) dL_outputAt_4) (fun _ z => z.elim) (rfl : _ = 7) (fun E_4 H4_4 hx_4 o_4 => ?_) (fun v_4 H4_4 hq_4 o_4 => ?_)
  · have ho := ho.off o_4 (fun z => z)
    obtain rfl : E_4 = "java/lang/IndexOutOfBoundsException" := (by first | exact hx_4.1 | exact hx_4.elim (fun z => Or.inl z.1) (fun z => Or.inr z.1) | exact hx_4.1.elim (fun z => Or.inl z.1) (fun z => Or.inr z.1))
    refine VX_catch Z (pre := []) (x := ⟨0, 9, 12, 19⟩) (suf := []) (htab.trans rfl) (fun z hz => nomatch hz) (by decide) (by decide) (by decide) (tm 1031 (by decide +kernel) (by decide +kernel)) (by decide +kernel) rfl (fun q9 => ?_)
    refine V_astore_n Y.1 (ls' := [(3, _), (0, _), (1, _), (2, _)]) dL_outputAt_12 (rfl : _ = 13) rfl (by decide) rfl ?_
    refine V_iconst Y.1 (v := 1) dL_outputAt_13 (rfl : _ = 14) (by decide) ?_
    exact V_ret Y.1 dL_outputAt_14 rfl (Nat.le_of_ble_eq_true rfl) (Nat.le_of_ble_eq_true rfl) (Or.inr ⟨_, hx_4, by rfl, ho⟩)
  have ho := ho.off o_4 (fun z => z)
  refine V_i2l Y.1 dL_outputAt_7 (rfl : _ = 8) rfl ?_
  refine V_last Y.1 ho (Or.inl rfl) (show ¬ ((0 : Int32) < 0 ∨ 1 ≤ (0 : Int32).toNatClampNeg) by decide) dL_outputAt_8 (rfl : _ = 9) (fun H8_8 h_new o_8 => ?_)
  have ho := h_new
  clear h_new
  refine V_goto Y.1 (tgt := 15) dL_outputAt_9 (by decide) ?_
  refine V_iconst Y.1 (v := 0) dL_outputAt_15 (rfl : _ = 16) (by decide) ?_
  exact V_ret Y.1 dL_outputAt_16 rfl (Nat.le_of_ble_eq_true rfl) (Nat.le_of_ble_eq_true rfl) (Or.inl ⟨rfl, _, _, _, hq_4, o_8, ho, rfl⟩)

set_option maxRecDepth 100000 in
set_option maxHeartbeats 4000000 in
theorem c_L_type (l : Launch) (D : va_G) (kA : Nat → ClassId) (Hs : Heap) (σ : SG) (H0 : Heap) (hg : Ag Hs H0) (a : Nat) (W : Nat → MS) (π : Nat → Nat) (ES : Nat → Prop) (u : Nat) (hs ep fc : Int32) (no : Nat) (go : Nat → Int32) (vs cs ns : Nat) (gs : Nat → Int32) (c : Nat) (hc : c < 65536) (o : Nat) (w0 : Nat → Int64) (hF : Fs D kA H0 a W π ES u hs ep fc no go vs cs ns gs) (hnt : l.stackTraces = false) (hbs : Hs.size ≤ a) (ho : hp D H0 o (eL kA 1 w0)) (ho1 : a + 329 ≤ o) (ho2 : o ≠ vs) (ho3 : Hs.size ≤ o) : CtW l D kA Hs σ yL_type cL_type 4 (some .int) [(0, 9, 12, 21), (0, 9, 15, 13)] 9 157 1 200 H0 [.ref a, .int (nI c), .ref o] (fun q => (fun q => q = a + 323 ∨ q = vs) q ∨ q = o) (pI fun k9 H9 => (k9 = 0 ∧ ∃ r H1 w, (fun (v9 : Int32) (H : Heap) => 32 ≤ c ∧ c ≤ 126 ∧ ns < 60 ∧ v9 = nI (ns + 1) ∧ ∃ vs1 cs1 g1, (vs1 = vs ∨ H0.size ≤ vs1) ∧ Fs D kA H a W π ES u hs ep fc no go vs1 cs1 (ns + 1) g1 ∧ (∀ j, j < ns → g1 j = gs j) ∧ g1 ns = nI c) r H1 ∧ sto o H1 H9 ∧ hp D H9 o (eL kA 1 w) ∧ w 0 = r.toInt64) ∨ (∃ E, (fun (E : String) (H : Heap) => ((E = "java/lang/IllegalArgumentException" ∧ (c < 32 ∨ 126 < c)) ∨ (E = "java/lang/IllegalStateException" ∧ 32 ≤ c ∧ c ≤ 126 ∧ 60 ≤ ns)) ∧ Fs D kA H a W π ES u hs ep fc no go vs cs ns gs) E H9 ∧ k9 = (if E = "java/lang/IllegalArgumentException" then 1 else 2) ∧ hp D H9 o (eL kA 1 w0))) := by
  refine CtW.of mh_L_type (Nat.le_of_ble_eq_true rfl) (ls0 := [(0, _), (1, _), (2, _)]) rfl hg (fun q z => z.elim (fun z => (show ∀ q, (fun q => q = a + 323 ∨ q = vs) q → Hs.size ≤ q from (fun q z => z.elim (fun e => e ▸ (by omega)) (fun e => e ▸ (by have := hF.2.2.2.2.2.2.1.2.1; omega)))) q z) (fun z => z ▸ ho3)) ?_
  intro Pp Ee Ss Mm Ar Bl Me Cc Z hsH htab
  have Y := Z.1
  refine V_aload_n Y.1 2 dL_type_0 (rfl : _ = 1) rfl rfl ?_
  refine V_iconst Y.1 (v := 0) dL_type_1 (rfl : _ = 2) (by decide) ?_
  refine V_aload_n Y.1 0 dL_type_2 (rfl : _ = 3) rfl rfl ?_
  refine V_iload_n Y.1 1 dL_type_3 (rfl : _ = 4) rfl rfl ?_
  refine V_xI Y (sxV Z (c_X5_type l D kA Hs σ _ hg a W π ES u hs ep fc no go vs cs ns gs c hc hF hnt hbs) mi_X5_type vi_L_130 rfl hF.1.1 rfl rfl (Nat.le_of_ble_eq_true rfl) ⟨Nat.le_of_ble_eq_true rfl, Nat.le_of_ble_eq_true rfl⟩ (Nat.le_of_ble_eq_true rfl) (Nat.le_of_ble_eq_true rfl) dL_type_4) (fun q z => Or.inl (Or.inl z)) (rfl : _ = 7) (fun E_4 H4_4 hx_4 o_4 => ?_) (fun v_4 H4_4 hq_4 o_4 => ?_)
  · have ho := ho.off o_4 (fun z => z.elim (fun e => by omega) (fun e => by omega))
    have hE9 : E_4 = "java/lang/IllegalArgumentException" ∨ E_4 = "java/lang/IllegalStateException" := (by first | exact hx_4.1 | exact hx_4.elim (fun z => Or.inl z.1) (fun z => Or.inr z.1) | exact hx_4.1.elim (fun z => Or.inl z.1) (fun z => Or.inr z.1))
    rcases hE9 with rfl | rfl
    · refine VX_catch Z (pre := []) (x := ⟨0, 9, 12, 21⟩) (suf := [⟨0, 9, 15, 13⟩]) (htab.trans rfl) (fun z hz => nomatch hz) (by decide) (by decide) (by decide) (tm 1034 (by decide +kernel) (by decide +kernel)) (by decide +kernel) rfl (fun q9 => ?_)
      refine V_astore_n Y.1 (ls' := [(3, _), (0, _), (1, _), (2, _)]) dL_type_12 (rfl : _ = 13) rfl (by decide) rfl ?_
      refine V_iconst Y.1 (v := 1) dL_type_13 (rfl : _ = 14) (by decide) ?_
      exact V_ret Y.1 dL_type_14 rfl (Nat.le_of_ble_eq_true rfl) (Nat.le_of_ble_eq_true rfl) (Or.inr ⟨_, hx_4, by rw [if_pos rfl], ho⟩)
    · refine VX_catch Z (pre := [⟨0, 9, 12, 21⟩]) (x := ⟨0, 9, 15, 13⟩) (suf := []) (htab.trans rfl) (fun z hz => by obtain rfl := List.mem_singleton.mp hz; exact Or.inr ⟨by decide, "java/lang/IllegalArgumentException", (tm 1034 (by decide +kernel) (by decide +kernel)), by decide, by decide⟩) (by decide) (by decide) (by decide) (tm 799 (by decide +kernel) (by decide +kernel)) (by decide +kernel) rfl (fun q9 => ?_)
      refine V_astore_n Y.1 (ls' := [(3, _), (0, _), (1, _), (2, _)]) dL_type_15 (rfl : _ = 16) rfl (by decide) rfl ?_
      refine V_iconst Y.1 (v := 2) dL_type_16 (rfl : _ = 17) (by decide) ?_
      exact V_ret Y.1 dL_type_17 rfl (Nat.le_of_ble_eq_true rfl) (Nat.le_of_ble_eq_true rfl) (Or.inr ⟨_, hx_4, by rw [if_neg (by decide)], ho⟩)
  have ho := ho.off o_4 (fun z => z.elim (fun e => by omega) (fun e => by omega))
  refine V_i2l Y.1 dL_type_7 (rfl : _ = 8) rfl ?_
  refine V_last Y.1 ho (Or.inl (Or.inr rfl)) (show ¬ ((0 : Int32) < 0 ∨ 1 ≤ (0 : Int32).toNatClampNeg) by decide) dL_type_8 (rfl : _ = 9) (fun H8_8 h_new o_8 => ?_)
  have ho := h_new
  clear h_new
  refine V_goto Y.1 (tgt := 18) dL_type_9 (by decide) ?_
  refine V_iconst Y.1 (v := 0) dL_type_18 (rfl : _ = 19) (by decide) ?_
  exact V_ret Y.1 dL_type_19 rfl (Nat.le_of_ble_eq_true rfl) (Nat.le_of_ble_eq_true rfl) (Or.inl ⟨rfl, _, _, _, hq_4, o_8, ho, rfl⟩)

set_option maxRecDepth 100000 in
set_option maxHeartbeats 4000000 in
theorem c_L_runScript (l : Launch) (D : va_G) (kA : Nat → ClassId) (Hs : Heap) (σ : SG) (H0 : Heap) (hg : Ag Hs H0) (a : Nat) (W : Nat → MS) (π : Nat → Nat) (ES : Nat → Prop) (u : Nat) (hs ep fc : Int32) (no : Nat) (go : Nat → Int32) (vs cs ns : Nat) (gs : Nat → Int32) (t cc0 : Nat → Int32) (z : RK) (j n d : Nat) (o : Nat) (w0 : Nat → Int64) (hF : Fs D kA H0 a W π ES u hs ep fc no go vs cs ns gs) (hnt : l.stackTraces = false) (hI : MI (W (π 0)) n d) (hbs : Hs.size ≤ a) (ht : Tx gs t ns) (hlen : ns ≤ 60) (hz : q_cmds t ns 61 (q_cmd t ns (0, 0, 0, cc0)) = z) (hq : (z.1 = 0 ∧ ns ≤ z.2.1) → j ≤ z.2.2.1 ∧ (∀ i, i < j → m_pb (W (π 0)) z.2.2.2 i = 0) ∧ (j < z.2.2.1 → ¬ m_pb (W (π 0)) z.2.2.2 j = 0) ∧ ∀ i, i < j → ∃ n d, MI (m_st (W (π 0)) z.2.2.2 i) n d) (ho : hp D H0 o (eL kA 1 w0)) (ho1 : a + 329 ≤ o) (ho2 : o ≠ vs) (ho3 : Hs.size ≤ o) : CtW l D kA Hs σ yL_runScript cL_runScript 3 (some .int) [(0, 8, 11, 21), (0, 8, 14, 13)] 11 221 73 222 H0 [.ref a, .ref o] (fun q => (blk a 329) q ∨ q = o) (pI fun k9 H9 => (k9 = 0 ∧ ∃ r H1 w, (fun (v9 : Int32) (H : Heap) => (z.1 = 0 ∧ ns ≤ z.2.1) ∧ ¬ j < z.2.2.1 ∧ v9 = nI z.2.2.1 ∧ Fs D kA H a (va_up (va_up W (π 1) (m_copy (W (π 1)) (W (π 0)) n)) (π 0) (m_st (W (π 0)) z.2.2.2 j)) (p_push π u) (gro ES H0 H) (if u < 8 then u + 1 else 8) hs ep fc no go vs cs 0 gs) r H1 ∧ sto o H1 H9 ∧ hp D H9 o (eL kA 1 w) ∧ w 0 = r.toInt64) ∨ (∃ E, (fun (E : String) (H : Heap) => (E = "java/lang/IllegalArgumentException" ∧ ¬ (z.1 = 0 ∧ ns ≤ z.2.1) ∧ Fs D kA H a W π ES u hs (nI z.2.1) fc no go vs cs 0 gs) ∨ (E = "java/lang/IllegalStateException" ∧ (z.1 = 0 ∧ ns ≤ z.2.1) ∧ j < z.2.2.1 ∧ Fs D kA H a (va_up (va_up W (π 1) (m_copy (W (π 1)) (W (π 0)) n)) (π 0) (m_st (W (π 0)) z.2.2.2 j)) (p_swap π 0 1) (gro ES H0 H) u hs ep (nI j) no go vs cs 0 gs)) E H9 ∧ k9 = (if E = "java/lang/IllegalArgumentException" then 1 else 2) ∧ hp D H9 o (eL kA 1 w0))) := by
  refine CtW.of mh_L_runScript (Nat.le_of_ble_eq_true rfl) (ls0 := [(0, _), (1, _)]) rfl hg (fun q z => z.elim (fun z => (show ∀ q, (blk a 329) q → Hs.size ≤ q from (fun q z => Nat.le_trans hbs z.1)) q z) (fun z => z ▸ ho3)) ?_
  intro Pp Ee Ss Mm Ar Bl Me Cc Z hsH htab
  have Y := Z.1
  refine V_aload_n Y.1 1 dL_runScript_0 (rfl : _ = 1) rfl rfl ?_
  refine V_iconst Y.1 (v := 0) dL_runScript_1 (rfl : _ = 2) (by decide) ?_
  refine V_aload_n Y.1 0 dL_runScript_2 (rfl : _ = 3) rfl rfl ?_
  refine V_xI Y (sxV Z (c_X5_runScript l D kA Hs σ _ hg a W π ES u hs ep fc no go vs cs ns gs t cc0 z j n d hF hnt hI hbs ht hlen hz hq) mi_X5_runScript vi_L_134 rfl hF.1.1 rfl rfl (Nat.le_of_ble_eq_true rfl) ⟨Nat.le_of_ble_eq_true rfl, Nat.le_of_ble_eq_true rfl⟩ (Nat.le_of_ble_eq_true rfl) (Nat.le_of_ble_eq_true rfl) dL_runScript_3) (fun q z => Or.inl (Or.inl z)) (rfl : _ = 6) (fun E_3 H3_3 hx_3 o_3 => ?_) (fun v_3 H3_3 hq_3 o_3 => ?_)
  · have ho := ho.off o_3 (fun z => by have := z.2; omega)
    have hE9 : E_3 = "java/lang/IllegalArgumentException" ∨ E_3 = "java/lang/IllegalStateException" := (by first | exact hx_3.1 | exact hx_3.elim (fun z => Or.inl z.1) (fun z => Or.inr z.1) | exact hx_3.1.elim (fun z => Or.inl z.1) (fun z => Or.inr z.1))
    rcases hE9 with rfl | rfl
    · refine VX_catch Z (pre := []) (x := ⟨0, 8, 11, 21⟩) (suf := [⟨0, 8, 14, 13⟩]) (htab.trans rfl) (fun z hz => nomatch hz) (by decide) (by decide) (by decide) (tm 1034 (by decide +kernel) (by decide +kernel)) (by decide +kernel) rfl (fun q9 => ?_)
      refine V_astore_n Y.1 (ls' := [(2, _), (0, _), (1, _)]) dL_runScript_11 (rfl : _ = 12) rfl (by decide) rfl ?_
      refine V_iconst Y.1 (v := 1) dL_runScript_12 (rfl : _ = 13) (by decide) ?_
      exact V_ret Y.1 dL_runScript_13 rfl (Nat.le_of_ble_eq_true rfl) (Nat.le_of_ble_eq_true rfl) (Or.inr ⟨_, hx_3, by rw [if_pos rfl], ho⟩)
    · refine VX_catch Z (pre := [⟨0, 8, 11, 21⟩]) (x := ⟨0, 8, 14, 13⟩) (suf := []) (htab.trans rfl) (fun z hz => by obtain rfl := List.mem_singleton.mp hz; exact Or.inr ⟨by decide, "java/lang/IllegalArgumentException", (tm 1034 (by decide +kernel) (by decide +kernel)), by decide, by decide⟩) (by decide) (by decide) (by decide) (tm 799 (by decide +kernel) (by decide +kernel)) (by decide +kernel) rfl (fun q9 => ?_)
      refine V_astore_n Y.1 (ls' := [(2, _), (0, _), (1, _)]) dL_runScript_14 (rfl : _ = 15) rfl (by decide) rfl ?_
      refine V_iconst Y.1 (v := 2) dL_runScript_15 (rfl : _ = 16) (by decide) ?_
      exact V_ret Y.1 dL_runScript_16 rfl (Nat.le_of_ble_eq_true rfl) (Nat.le_of_ble_eq_true rfl) (Or.inr ⟨_, hx_3, by rw [if_neg (by decide)], ho⟩)
  have ho := ho.off o_3 (fun z => by have := z.2; omega)
  refine V_i2l Y.1 dL_runScript_6 (rfl : _ = 7) rfl ?_
  refine V_last Y.1 ho (Or.inl (Or.inr rfl)) (show ¬ ((0 : Int32) < 0 ∨ 1 ≤ (0 : Int32).toNatClampNeg) by decide) dL_runScript_7 (rfl : _ = 8) (fun H7_7 h_new o_7 => ?_)
  have ho := h_new
  clear h_new
  refine V_goto Y.1 (tgt := 17) dL_runScript_8 (by decide) ?_
  refine V_iconst Y.1 (v := 0) dL_runScript_17 (rfl : _ = 18) (by decide) ?_
  exact V_ret Y.1 dL_runScript_18 rfl (Nat.le_of_ble_eq_true rfl) (Nat.le_of_ble_eq_true rfl) (Or.inl ⟨rfl, _, _, _, hq_3, o_7, ho, rfl⟩)

set_option maxRecDepth 100000 in
set_option maxHeartbeats 4000000 in
theorem c_L_errorPosition (l : Launch) (D : va_G) (kA : Nat → ClassId) (Hs : Heap) (σ : SG) (H0 : Heap) (hg : Ag Hs H0) (a : Nat) (W : Nat → MS) (π : Nat → Nat) (ES : Nat → Prop) (u : Nat) (hs ep fc : Int32) (no : Nat) (go : Nat → Int32) (vs cs ns : Nat) (gs : Nat → Int32)  (o : Nat) (w0 : Nat → Int64) (hF : Fs D kA H0 a W π ES u hs ep fc no go vs cs ns gs) (hnt : l.stackTraces = false)  (ho : hp D H0 o (eL kA 1 w0)) (ho1 : a + 329 ≤ o) (ho2 : o ≠ vs) (ho3 : Hs.size ≤ o) : CtW l D kA Hs σ yL_errorPosition cL_errorPosition 3 (some .int) [(0, 8, 11, 35)] 9 140 4 24 H0 [.ref a, .ref o] (fun q => q = o) (pI fun k9 H9 => (k9 = 0 ∧ ∃ r H1 w, (fun (v9 : Int32) (H : Heap) => v9 = ep ∧ H = H0 ∧ ¬ ep = -1) r H1 ∧ sto o H1 H9 ∧ hp D H9 o (eL kA 1 w) ∧ w 0 = r.toInt64) ∨ (∃ E, (fun (E : String) (H : Heap) => E = "java/util/NoSuchElementException" ∧ ep = -1) E H9 ∧ k9 = (1) ∧ hp D H9 o (eL kA 1 w0))) := by
  refine CtW.of mh_L_errorPosition (Nat.le_of_ble_eq_true rfl) (ls0 := [(0, _), (1, _)]) rfl hg (fun q z => z ▸ ho3) ?_
  intro Pp Ee Ss Mm Ar Bl Me Cc Z hsH htab
  have Y := Z.1
  refine V_aload_n Y.1 1 dL_errorPosition_0 (rfl : _ = 1) rfl rfl ?_
  refine V_iconst Y.1 (v := 0) dL_errorPosition_1 (rfl : _ = 2) (by decide) ?_
  refine V_aload_n Y.1 0 dL_errorPosition_2 (rfl : _ = 3) rfl rfl ?_
  refine V_xI Y (sxV Z (c_X5_errorPosition l D kA Hs σ _ hg a W π ES u hs ep fc no go vs cs ns gs hF hnt) mi_X5_errorPosition vi_L_137 rfl hF.1.1 rfl rfl (Nat.le_of_ble_eq_true rfl) ⟨Nat.le_of_ble_eq_true rfl, Nat.le_of_ble_eq_true rfl⟩ (Nat.le_of_ble_eq_true rfl) (Nat.le_of_ble_eq_true rfl) dL_errorPosition_3) (fun _ z => z.elim) (rfl : _ = 6) (fun E_3 H3_3 hx_3 o_3 => ?_) (fun v_3 H3_3 hq_3 o_3 => ?_)
  · have ho := ho.off o_3 (fun z => z)
    obtain rfl : E_3 = "java/util/NoSuchElementException" := (by first | exact hx_3.1 | exact hx_3.elim (fun z => Or.inl z.1) (fun z => Or.inr z.1) | exact hx_3.1.elim (fun z => Or.inl z.1) (fun z => Or.inr z.1))
    refine VX_catch Z (pre := []) (x := ⟨0, 8, 11, 35⟩) (suf := []) (htab.trans rfl) (fun z hz => nomatch hz) (by decide) (by decide) (by decide) (tm 1057 (by decide +kernel) (by decide +kernel)) (by decide +kernel) rfl (fun q9 => ?_)
    refine V_astore_n Y.1 (ls' := [(2, _), (0, _), (1, _)]) dL_errorPosition_11 (rfl : _ = 12) rfl (by decide) rfl ?_
    refine V_iconst Y.1 (v := 1) dL_errorPosition_12 (rfl : _ = 13) (by decide) ?_
    exact V_ret Y.1 dL_errorPosition_13 rfl (Nat.le_of_ble_eq_true rfl) (Nat.le_of_ble_eq_true rfl) (Or.inr ⟨_, hx_3, by rfl, ho⟩)
  have ho := ho.off o_3 (fun z => z)
  refine V_i2l Y.1 dL_errorPosition_6 (rfl : _ = 7) rfl ?_
  refine V_last Y.1 ho (Or.inl rfl) (show ¬ ((0 : Int32) < 0 ∨ 1 ≤ (0 : Int32).toNatClampNeg) by decide) dL_errorPosition_7 (rfl : _ = 8) (fun H7_7 h_new o_7 => ?_)
  have ho := h_new
  clear h_new
  refine V_goto Y.1 (tgt := 14) dL_errorPosition_8 (by decide) ?_
  refine V_iconst Y.1 (v := 0) dL_errorPosition_14 (rfl : _ = 15) (by decide) ?_
  exact V_ret Y.1 dL_errorPosition_15 rfl (Nat.le_of_ble_eq_true rfl) (Nat.le_of_ble_eq_true rfl) (Or.inl ⟨rfl, _, _, _, hq_3, o_7, ho, rfl⟩)

set_option maxRecDepth 100000 in
set_option maxHeartbeats 4000000 in
theorem c_L_failedCommand (l : Launch) (D : va_G) (kA : Nat → ClassId) (Hs : Heap) (σ : SG) (H0 : Heap) (hg : Ag Hs H0) (a : Nat) (W : Nat → MS) (π : Nat → Nat) (ES : Nat → Prop) (u : Nat) (hs ep fc : Int32) (no : Nat) (go : Nat → Int32) (vs cs ns : Nat) (gs : Nat → Int32)  (o : Nat) (w0 : Nat → Int64) (hF : Fs D kA H0 a W π ES u hs ep fc no go vs cs ns gs) (hnt : l.stackTraces = false)  (ho : hp D H0 o (eL kA 1 w0)) (ho1 : a + 329 ≤ o) (ho2 : o ≠ vs) (ho3 : Hs.size ≤ o) : CtW l D kA Hs σ yL_failedCommand cL_failedCommand 3 (some .int) [(0, 8, 11, 35)] 9 140 4 24 H0 [.ref a, .ref o] (fun q => q = o) (pI fun k9 H9 => (k9 = 0 ∧ ∃ r H1 w, (fun (v9 : Int32) (H : Heap) => v9 = fc ∧ H = H0 ∧ ¬ fc = -1) r H1 ∧ sto o H1 H9 ∧ hp D H9 o (eL kA 1 w) ∧ w 0 = r.toInt64) ∨ (∃ E, (fun (E : String) (H : Heap) => E = "java/util/NoSuchElementException" ∧ fc = -1) E H9 ∧ k9 = (1) ∧ hp D H9 o (eL kA 1 w0))) := by
  refine CtW.of mh_L_failedCommand (Nat.le_of_ble_eq_true rfl) (ls0 := [(0, _), (1, _)]) rfl hg (fun q z => z ▸ ho3) ?_
  intro Pp Ee Ss Mm Ar Bl Me Cc Z hsH htab
  have Y := Z.1
  refine V_aload_n Y.1 1 dL_failedCommand_0 (rfl : _ = 1) rfl rfl ?_
  refine V_iconst Y.1 (v := 0) dL_failedCommand_1 (rfl : _ = 2) (by decide) ?_
  refine V_aload_n Y.1 0 dL_failedCommand_2 (rfl : _ = 3) rfl rfl ?_
  refine V_xI Y (sxV Z (c_X5_failedCommand l D kA Hs σ _ hg a W π ES u hs ep fc no go vs cs ns gs hF hnt) mi_X5_failedCommand vi_L_140 rfl hF.1.1 rfl rfl (Nat.le_of_ble_eq_true rfl) ⟨Nat.le_of_ble_eq_true rfl, Nat.le_of_ble_eq_true rfl⟩ (Nat.le_of_ble_eq_true rfl) (Nat.le_of_ble_eq_true rfl) dL_failedCommand_3) (fun _ z => z.elim) (rfl : _ = 6) (fun E_3 H3_3 hx_3 o_3 => ?_) (fun v_3 H3_3 hq_3 o_3 => ?_)
  · have ho := ho.off o_3 (fun z => z)
    obtain rfl : E_3 = "java/util/NoSuchElementException" := (by first | exact hx_3.1 | exact hx_3.elim (fun z => Or.inl z.1) (fun z => Or.inr z.1) | exact hx_3.1.elim (fun z => Or.inl z.1) (fun z => Or.inr z.1))
    refine VX_catch Z (pre := []) (x := ⟨0, 8, 11, 35⟩) (suf := []) (htab.trans rfl) (fun z hz => nomatch hz) (by decide) (by decide) (by decide) (tm 1057 (by decide +kernel) (by decide +kernel)) (by decide +kernel) rfl (fun q9 => ?_)
    refine V_astore_n Y.1 (ls' := [(2, _), (0, _), (1, _)]) dL_failedCommand_11 (rfl : _ = 12) rfl (by decide) rfl ?_
    refine V_iconst Y.1 (v := 1) dL_failedCommand_12 (rfl : _ = 13) (by decide) ?_
    exact V_ret Y.1 dL_failedCommand_13 rfl (Nat.le_of_ble_eq_true rfl) (Nat.le_of_ble_eq_true rfl) (Or.inr ⟨_, hx_3, by rfl, ho⟩)
  have ho := ho.off o_3 (fun z => z)
  refine V_i2l Y.1 dL_failedCommand_6 (rfl : _ = 7) rfl ?_
  refine V_last Y.1 ho (Or.inl rfl) (show ¬ ((0 : Int32) < 0 ∨ 1 ≤ (0 : Int32).toNatClampNeg) by decide) dL_failedCommand_7 (rfl : _ = 8) (fun H7_7 h_new o_7 => ?_)
  have ho := h_new
  clear h_new
  refine V_goto Y.1 (tgt := 14) dL_failedCommand_8 (by decide) ?_
  refine V_iconst Y.1 (v := 0) dL_failedCommand_14 (rfl : _ = 15) (by decide) ?_
  exact V_ret Y.1 dL_failedCommand_15 rfl (Nat.le_of_ble_eq_true rfl) (Nat.le_of_ble_eq_true rfl) (Or.inl ⟨rfl, _, _, _, hq_3, o_7, ho, rfl⟩)

set_option maxRecDepth 100000 in
set_option maxHeartbeats 4000000 in
theorem c_L_undo (l : Launch) (D : va_G) (kA : Nat → ClassId) (Hs : Heap) (σ : SG) (H0 : Heap) (hg : Ag Hs H0) (a : Nat) (W : Nat → MS) (π : Nat → Nat) (ES : Nat → Prop) (u : Nat) (hs ep fc : Int32) (no : Nat) (go : Nat → Int32) (vs cs ns : Nat) (gs : Nat → Int32) (o : Nat) (w0 : Nat → Int64) (hF : Fs D kA H0 a W π ES u hs ep fc no go vs cs ns gs) (hnt : l.stackTraces = false) (hbs : Hs.size ≤ a) (ho : hp D H0 o (eL kA 1 w0)) (ho1 : a + 329 ≤ o) (ho2 : o ≠ vs) (ho3 : Hs.size ≤ o) : CtW l D kA Hs σ yL_undo cL_undo 3 (some .int) [(0, 8, 11, 35)] 9 141 1 6 H0 [.ref a, .ref o] (fun q => (blk a 329) q ∨ q = o) (pI fun k9 H9 => (k9 = 0 ∧ ∃ r H1 w, (fun (v9 : Int32) (H : Heap) => 0 < u ∧ v9 = nI (u - 1) ∧ Fs D kA H a W (p_swap π 0 (3 + (u - 1))) ES (u - 1) hs ep fc no go vs cs ns gs) r H1 ∧ sto o H1 H9 ∧ hp D H9 o (eL kA 1 w) ∧ w 0 = r.toInt64) ∨ (∃ E, (fun (E : String) (H : Heap) => E = "java/util/NoSuchElementException" ∧ u = 0 ∧ Fs D kA H a W π ES u hs ep fc no go vs cs ns gs) E H9 ∧ k9 = (1) ∧ hp D H9 o (eL kA 1 w0))) := by
  refine CtW.of mh_L_undo (Nat.le_of_ble_eq_true rfl) (ls0 := [(0, _), (1, _)]) rfl hg (fun q z => z.elim (fun z => (show ∀ q, (blk a 329) q → Hs.size ≤ q from (fun q z => Nat.le_trans hbs z.1)) q z) (fun z => z ▸ ho3)) ?_
  intro Pp Ee Ss Mm Ar Bl Me Cc Z hsH htab
  have Y := Z.1
  refine V_aload_n Y.1 1 dL_undo_0 (rfl : _ = 1) rfl rfl ?_
  refine V_iconst Y.1 (v := 0) dL_undo_1 (rfl : _ = 2) (by decide) ?_
  refine V_aload_n Y.1 0 dL_undo_2 (rfl : _ = 3) rfl rfl ?_
  refine V_xI Y (sxV Z (c_X5_undo l D kA Hs σ _ hg a W π ES u hs ep fc no go vs cs ns gs hF hnt hbs) mi_X5_undo vi_L_143 rfl hF.1.1 rfl rfl (Nat.le_of_ble_eq_true rfl) ⟨Nat.le_of_ble_eq_true rfl, Nat.le_of_ble_eq_true rfl⟩ (Nat.le_of_ble_eq_true rfl) (Nat.le_of_ble_eq_true rfl) dL_undo_3) (fun q z => Or.inl (Or.inl z)) (rfl : _ = 6) (fun E_3 H3_3 hx_3 o_3 => ?_) (fun v_3 H3_3 hq_3 o_3 => ?_)
  · have ho := ho.off o_3 (fun z => by have := z.2; omega)
    obtain rfl : E_3 = "java/util/NoSuchElementException" := (by first | exact hx_3.1 | exact hx_3.elim (fun z => Or.inl z.1) (fun z => Or.inr z.1) | exact hx_3.1.elim (fun z => Or.inl z.1) (fun z => Or.inr z.1))
    refine VX_catch Z (pre := []) (x := ⟨0, 8, 11, 35⟩) (suf := []) (htab.trans rfl) (fun z hz => nomatch hz) (by decide) (by decide) (by decide) (tm 1057 (by decide +kernel) (by decide +kernel)) (by decide +kernel) rfl (fun q9 => ?_)
    refine V_astore_n Y.1 (ls' := [(2, _), (0, _), (1, _)]) dL_undo_11 (rfl : _ = 12) rfl (by decide) rfl ?_
    refine V_iconst Y.1 (v := 1) dL_undo_12 (rfl : _ = 13) (by decide) ?_
    exact V_ret Y.1 dL_undo_13 rfl (Nat.le_of_ble_eq_true rfl) (Nat.le_of_ble_eq_true rfl) (Or.inr ⟨_, hx_3, by rfl, ho⟩)
  have ho := ho.off o_3 (fun z => by have := z.2; omega)
  refine V_i2l Y.1 dL_undo_6 (rfl : _ = 7) rfl ?_
  refine V_last Y.1 ho (Or.inl (Or.inr rfl)) (show ¬ ((0 : Int32) < 0 ∨ 1 ≤ (0 : Int32).toNatClampNeg) by decide) dL_undo_7 (rfl : _ = 8) (fun H7_7 h_new o_7 => ?_)
  have ho := h_new
  clear h_new
  refine V_goto Y.1 (tgt := 14) dL_undo_8 (by decide) ?_
  refine V_iconst Y.1 (v := 0) dL_undo_14 (rfl : _ = 15) (by decide) ?_
  exact V_ret Y.1 dL_undo_15 rfl (Nat.le_of_ble_eq_true rfl) (Nat.le_of_ble_eq_true rfl) (Or.inl ⟨rfl, _, _, _, hq_3, o_7, ho, rfl⟩)

set_option maxRecDepth 100000 in
set_option maxHeartbeats 4000000 in
theorem c_L_restore (l : Launch) (D : va_G) (kA : Nat → ClassId) (Hs : Heap) (σ : SG) (H0 : Heap) (hg : Ag Hs H0) (a : Nat) (W : Nat → MS) (π : Nat → Nat) (ES : Nat → Prop) (u : Nat) (hs ep fc : Int32) (no : Nat) (go : Nat → Int32) (vs cs ns : Nat) (gs : Nat → Int32) (n d : Nat) (o : Nat) (w0 : Nat → Int64) (hF : Fs D kA H0 a W π ES u hs ep fc no go vs cs ns gs) (hnt : l.stackTraces = false) (hI : hs = 1 → MI (W 2) n d) (hbs : Hs.size ≤ a) (ho : hp D H0 o (eL kA 1 w0)) (ho1 : a + 329 ≤ o) (ho2 : o ≠ vs) (ho3 : Hs.size ≤ o) : CtW l D kA Hs σ yL_restore cL_restore 3 (some .int) [(0, 8, 11, 13)] 9 140 1 6 H0 [.ref a, .ref o] (fun q => (blk a 329) q ∨ q = o) (pI fun k9 H9 => (k9 = 0 ∧ ∃ r H1 w, (fun (v9 : Int32) (H : Heap) => hs = 1 ∧ v9 = nI n ∧ Fs D kA H a (va_up W (π 0) (m_copy (W (π 0)) (W 2) n)) π ES 0 hs ep fc no go vs cs ns gs) r H1 ∧ sto o H1 H9 ∧ hp D H9 o (eL kA 1 w) ∧ w 0 = r.toInt64) ∨ (∃ E, (fun (E : String) (H : Heap) => E = "java/lang/IllegalStateException" ∧ hs = 0 ∧ Fs D kA H a W π ES u hs ep fc no go vs cs ns gs) E H9 ∧ k9 = (1) ∧ hp D H9 o (eL kA 1 w0))) := by
  refine CtW.of mh_L_restore (Nat.le_of_ble_eq_true rfl) (ls0 := [(0, _), (1, _)]) rfl hg (fun q z => z.elim (fun z => (show ∀ q, (blk a 329) q → Hs.size ≤ q from (fun q z => Nat.le_trans hbs z.1)) q z) (fun z => z ▸ ho3)) ?_
  intro Pp Ee Ss Mm Ar Bl Me Cc Z hsH htab
  have Y := Z.1
  refine V_aload_n Y.1 1 dL_restore_0 (rfl : _ = 1) rfl rfl ?_
  refine V_iconst Y.1 (v := 0) dL_restore_1 (rfl : _ = 2) (by decide) ?_
  refine V_aload_n Y.1 0 dL_restore_2 (rfl : _ = 3) rfl rfl ?_
  refine V_xI Y (sxV Z (c_X5_restore l D kA Hs σ _ hg a W π ES u hs ep fc no go vs cs ns gs n d hF hnt hI hbs) mi_X5_restore vi_L_146 rfl hF.1.1 rfl rfl (Nat.le_of_ble_eq_true rfl) ⟨Nat.le_of_ble_eq_true rfl, Nat.le_of_ble_eq_true rfl⟩ (Nat.le_of_ble_eq_true rfl) (Nat.le_of_ble_eq_true rfl) dL_restore_3) (fun q z => Or.inl (Or.inl z)) (rfl : _ = 6) (fun E_3 H3_3 hx_3 o_3 => ?_) (fun v_3 H3_3 hq_3 o_3 => ?_)
  · have ho := ho.off o_3 (fun z => by have := z.2; omega)
    obtain rfl : E_3 = "java/lang/IllegalStateException" := (by first | exact hx_3.1 | exact hx_3.elim (fun z => Or.inl z.1) (fun z => Or.inr z.1) | exact hx_3.1.elim (fun z => Or.inl z.1) (fun z => Or.inr z.1))
    refine VX_catch Z (pre := []) (x := ⟨0, 8, 11, 13⟩) (suf := []) (htab.trans rfl) (fun z hz => nomatch hz) (by decide) (by decide) (by decide) (tm 799 (by decide +kernel) (by decide +kernel)) (by decide +kernel) rfl (fun q9 => ?_)
    refine V_astore_n Y.1 (ls' := [(2, _), (0, _), (1, _)]) dL_restore_11 (rfl : _ = 12) rfl (by decide) rfl ?_
    refine V_iconst Y.1 (v := 1) dL_restore_12 (rfl : _ = 13) (by decide) ?_
    exact V_ret Y.1 dL_restore_13 rfl (Nat.le_of_ble_eq_true rfl) (Nat.le_of_ble_eq_true rfl) (Or.inr ⟨_, hx_3, by rfl, ho⟩)
  have ho := ho.off o_3 (fun z => by have := z.2; omega)
  refine V_i2l Y.1 dL_restore_6 (rfl : _ = 7) rfl ?_
  refine V_last Y.1 ho (Or.inl (Or.inr rfl)) (show ¬ ((0 : Int32) < 0 ∨ 1 ≤ (0 : Int32).toNatClampNeg) by decide) dL_restore_7 (rfl : _ = 8) (fun H7_7 h_new o_7 => ?_)
  have ho := h_new
  clear h_new
  refine V_goto Y.1 (tgt := 14) dL_restore_8 (by decide) ?_
  refine V_iconst Y.1 (v := 0) dL_restore_14 (rfl : _ = 15) (by decide) ?_
  exact V_ret Y.1 dL_restore_15 rfl (Nat.le_of_ble_eq_true rfl) (Nat.le_of_ble_eq_true rfl) (Or.inl ⟨rfl, _, _, _, hq_3, o_7, ho, rfl⟩)

