/-! The world: literals, statics of the JDK; contracts over it. -/
abbrev SG : Type := String → Nat → Nat × Nat
def wL : List (String × Nat × String) := [("MetroFares", 300, "no such card or station"), ("MetroFares", 302, "a value outside its bounds"), ("MetroFares", 304, "not possible now"), ("MetroFares", 306, "no trip to repair"), ("MetroFares", 310, "more than a card can hold"), ("MetroFares", 330, "no such station"), ("MetroFares", 103, "no such rank"), ("MetroFares", 325, "no such card"), ("MetroFares", 332, "the card is not on a trip"), ("MetroFares", 334, "no recent day"), ("MetroFares", 189, "no trip yet"), ("MetroFares", 233, "no such index"), ("MetroFares", 242, "no printable character"), ("MetroFares", 247, "the script buffer is full"), ("MetroFares$ScriptReader", 46, "card "), ("MetroFares$ScriptReader", 55, "load "), ("MetroFares$ScriptReader", 61, "in "), ("MetroFares$ScriptReader", 63, "out "), ("MetroFares$ScriptReader", 65, "fix "), ("MetroFares$ScriptReader", 67, "zone "), ("MetroFares$ScriptReader", 72, "wait "), ("MetroFares", 257, "not the form of a script"), ("MetroFares", 269, "a command failed"), ("MetroFares", 284, "nothing to undo"), ("MetroFaresLaw", 292, "r:"), ("MetroFaresLaw", 294, "f:"), ("MetroFaresLaw", 299, "@"), ("MetroFaresLaw", 305, ""), ("MetroFaresLaw", 371, "wait "), ("MetroFaresLaw", 373, ";in "), ("MetroFaresLaw", 375, " 3;wait 9;out "), ("MetroFaresLaw", 377, " ")]
def byt (tx : String) : List Int32 := tx.toList.map fun c => nI c.toNat
def Str (a : Nat × Nat) (tx : String) (A : Nat → Prop) (U : State) (H : Heap) : Prop := va_O "java/lang/String" a.1 A U H ∧ va_OF "java/lang/String" "coder" "B" (.int 0) a.1 A U H ∧ va_OF "java/lang/String" "value" "[B" (.ref a.2) a.1 A U H ∧ va_T .byte a.2 (byt tx).length (fun j => .int ((byt tx).getD j 0)) A U H
theorem Str.go {a : Nat × Nat} {tx : String} {A B : Nat → Prop} {u U : State} {H H1 : Heap} (h : Str a tx A u H) (hvm : u.vm.Alike U.vm) (hq : ∀ a : Nat, a < H.size → ¬ A a → H1[a]? = H[a]?) (hAB : ∀ q, B q → A q) : Str a tx B U H1 := by
  obtain ⟨h1, h2, h3, h4⟩ := h
  exact ⟨((va_O.moved hvm h1).kept hq).narrow hAB, ((va_OF.moved hvm h2).kept hq).narrow hAB, ((va_OF.moved hvm h3).kept hq).narrow hAB, ((va_T.moved hvm h4).kept hq).narrow hAB⟩
def Dig (nm : String) (f : Nat → Nat) (A : Nat → Prop) (U : State) (H : Heap) : Prop := ∃ t : Nat, va_Z "java/lang/Integer" nm "[B" (.ref t) A U H ∧ va_T .byte t 100 (fun j => .int (nI (f j))) A U H
/-- words that are no good ones, but are decided by the tables, and stay -/
def wX : List Cond := [.privateMethod yJ5_ensureCapacityInternal_d00df, .privateMethod yJ5_newCapacity_0f7a4, .privateMethod yJ5_putStringAt_47b60, .privateMethod yJ5_inflateIfNeededFor_a7421, .declares (Bundle.initS "java/lang/RuntimeException"), .declares (Bundle.initS "java/lang/Exception"), .declares (Bundle.initS Bundle.tN), .castable "java/lang/IndexOutOfBoundsException" "java/lang/IndexOutOfBoundsException", .castable "java/lang/IllegalArgumentException" "java/lang/IllegalArgumentException", .castable "java/lang/IllegalStateException" "java/lang/IllegalStateException", .castable "java/lang/UnsupportedOperationException" "java/lang/UnsupportedOperationException", .castable "java/lang/ArithmeticException" "java/lang/ArithmeticException", .castable "java/util/NoSuchElementException" "java/util/NoSuchElementException"]
/-- classes that are no subclasses of others -/
def wE : List String := ["java/lang/IndexOutOfBoundsException", "java/lang/IllegalArgumentException", "java/lang/IllegalStateException", "java/lang/UnsupportedOperationException", "java/util/NoSuchElementException"]
def Ex (U : State) : Prop := (∀ w ∈ wX, w.before #[] U = true) ∧ ∀ x ∈ wE, ∀ y ∈ wE, x ≠ y → va_Nc x y U
theorem Ex.tab {w : Cond} (hw : w ∈ wX) : w.onTables = true := (show ∀ w ∈ wX, w.onTables = true by decide +kernel) w hw
theorem Ex.moved {u U : State} (hvm : u.vm.Alike U.vm) (h : Ex u) : Ex U := by
  refine ⟨?_, fun x hx y hy hn => (h.2 x hx y hy hn).moved hvm⟩
  intro w hw
  have h1 := h.1 w hw
  have e := Cond.onTables_vm (A := #[]) (A' := #[]) (U := u) (U' := U) U.vm w (Ex.tab hw)
  have hU : U.setVm U.vm = U := rfl
  rw [hU] at e
  rw [← e]
  simp only [wX, List.mem_cons, List.not_mem_nil, or_false] at hw
  rcases hw with rfl | rfl | rfl | rfl | rfl | rfl | rfl | rfl | rfl | rfl | rfl | rfl | rfl <;> first
    | (rw [Cond.privateMethod_setVm hvm]; exact h1)
    | (rw [Cond.declares_setVm hvm]; exact h1)
    | (rw [Cond.castable_setVm hvm]; exact h1)
theorem Ex.use {A : Array Value} {U : State} {w : Cond} (h : Ex U) (hw : w ∈ wX) : w.before A U = true := va_tabs (Ex.tab hw) rfl (h.1 w hw)
/-- what nobody writes -/
def Wd (σ : SG) (A : Nat → Prop) (U : State) (H : Heap) : Prop :=
  (∀ x ∈ wL, Str (σ x.1 x.2.1) x.2.2 A U H) ∧ va_Z "java/lang/String" "COMPACT_STRINGS" "Z" (.int 1) A U H ∧ va_Zq "jdk/internal/util/Preconditions" "SIOOBE_FORMATTER" "Ljava/util/function/BiFunction;" A U H ∧ Dig "DigitTens" (fun j => 48 + j / 10) A U H ∧ Dig "DigitOnes" (fun j => 48 + j % 10) A U H ∧ vx_Zq Bundle.tN "UNASSIGNED_STACK" Bundle.steD A U H ∧ vx_Zq Bundle.tN "SUPPRESSED_SENTINEL" Bundle.listD A U H ∧ Ex U
theorem Wd.go {σ : SG} {A B : Nat → Prop} {u U : State} {H H1 : Heap} (h : Wd σ A u H) (hvm : u.vm.Alike U.vm) (hq : ∀ a : Nat, a < H.size → ¬ A a → H1[a]? = H[a]?) (hAB : ∀ q, B q → A q) : Wd σ B U H1 := by
  obtain ⟨h1, h2, h3, ⟨t4, h4, g4⟩, ⟨t5, h5, g5⟩, h6, h7, h8⟩ := h
  exact ⟨fun x hx => (h1 x hx).go hvm hq hAB, ((va_Z.moved hvm h2).kept hq).narrow hAB, ((va_Zq.moved hvm h3).kept hq).narrow hAB,
    ⟨t4, ((va_Z.moved hvm h4).kept hq).narrow hAB, ((va_T.moved hvm g4).kept hq).narrow hAB⟩, ⟨t5, ((va_Z.moved hvm h5).kept hq).narrow hAB, ((va_T.moved hvm g5).kept hq).narrow hAB⟩,
    ((vx_Zq.moved hvm h6).kept hq).narrow hAB, ((vx_Zq.moved hvm h7).kept hq).narrow hAB, h8.moved hvm⟩
def Ag (Hs H : Heap) : Prop := Hs.size ≤ H.size ∧ ∀ a : Nat, a < Hs.size → H[a]? = Hs[a]?
theorem Ag.keep {Hs H H1 : Heap} {F : Nat → Prop} (h : Ag Hs H) (o : off F H H1) (hF : ∀ q, F q → Hs.size ≤ q) : Ag Hs H1 :=
  ⟨Nat.le_trans h.1 o.1, fun a ha => (o.2 a (Nat.lt_of_lt_of_le ha h.1) (fun q => absurd (hF a q) (by omega))).trans (h.2 a ha)⟩
theorem Ag.put {Hs H H1 : Heap} {a : Nat} (h : Ag Hs H) (o : sto a H H1) (ha : Hs.size ≤ a) : Ag Hs H1 :=
  ⟨by rw [o.1]; exact h.1, fun q hq => (o.2 q (by omega)).trans (h.2 q hq)⟩
def KW (D : va_G) (kA : Nat → ClassId) (Hs : Heap) (σ : SG) (U : State) : Prop := KK D kA U ∧ (∀ x ∈ wL, vk_R x.1 x.2.1 x.2.2 (σ x.1 x.2.1).1 U) ∧ Wd σ (fun a => Hs.size ≤ a) U Hs
abbrev qPreS (D : va_G) (kA : Nat → ClassId) (Hs : Heap) (σ : SG) (H0 : Heap) (av : List Value) : Array Value → State → Prop := fun a U => a = av.toArray ∧ U.heap = H0 ∧ KW D kA Hs σ U
def CtS (l : Launch) (D : va_G) (kA : Nat → ClassId) (Hs : Heap) (σ : SG) (y : MethodName) (cc : ByteArray) (mL : Nat) (ret : Option FieldType) (fr lc mc ms : Nat) (H0 : Heap) (av : List Value) (A : Nat → Prop) (Post : Option Value → Heap → Prop) : Prop :=
  Met l y (.code y cc mL ret :: T0) (rmO fr lc mc ms) (qPreS D kA Hs σ H0 av) (qPost H0 A Post) mc ms (AA H0 A)
def CtSX (l : Launch) (D : va_G) (kA : Nat → ClassId) (Hs : Heap) (σ : SG) (y : MethodName) (cc : ByteArray) (mL : Nat) (ret : Option FieldType) (fr lc mc ms : Nat) (H0 : Heap) (av : List Value) (A : Nat → Prop) (Post : Option Value → Heap → Prop) (PX : String → Heap → Prop) : Prop :=
  vx_Met l y (.code y cc mL ret :: T0) (rmO fr lc mc ms) (qPreS D kA Hs σ H0 av) (qPost H0 A Post) (qThrow H0 A PX) mc ms (AA H0 A)
theorem KW.go {D : va_G} {kA : Nat → ClassId} {Hs : Heap} {σ : SG} {s U : State} (hW : s.WarmedH U.vm) (h : KW D kA Hs σ s) : KW D kA Hs σ U :=
  ⟨KK.moved hW.alike h.1, fun x hx => vk_R.warm hW (h.2.1 x hx), h.2.2.go hW.alike (fun _ _ _ => rfl) (fun _ q => q)⟩
theorem qPreS.blind {D : va_G} {kA : Nat → ClassId} {Hs : Heap} {σ : SG} {H0 : Heap} {av : List Value} : FrameBlind (qPreS D kA Hs σ H0 av) := fun a U g mk h => ⟨h.1, h.2.1, KW.go (s := U) (U := U.calling g mk a) (State.WarmedH.refl U) h.2.2⟩
section VW
variable {p : Program} {l : Launch} {e : Env} {R : Room} {s : State} {m : MethodId} {args : Array Value} {below : List Frame} {meth : Method} {c : Code} {nL : Nat} {A A1 : Nat → Prop} {Q : State → Prop} {H : Heap} {k n pc pc' : Nat} {ls ls' : List (Nat × Value)} {st rest : List Value}
variable {cc : ByteArray} {own : String} {D : va_G} {kA : Nat → ClassId} {ret : Option FieldType} {Hs : Heap} {σ : SG}
variable {y : MethodName} {bytes : ByteArray} {mL : Nat} {rt : Option FieldType} {fr lc mc ms nn idx : Nat} {av : List Value} {Post : Option Value → Heap → Prop} {PX : String → Heap → Prop}
/-- the frame's facts, with the world -/
def Ys (p : Program) (s : State) (m : MethodId) (args : Array Value) (meth : Method) (c : Code) (cc : ByteArray) (nL : Nat) (ret : Option FieldType) (own : String) (D : va_G) (kA : Nat → ClassId) (A : Nat → Prop) (Hs : Heap) (σ : SG) : Prop := Ky p s m args meth c cc nL ret own D kA A ∧ (∀ x ∈ wL, vk_R x.1 x.2.1 x.2.2 (σ x.1 x.2.1).1 s) ∧ Wd σ (fun a => Hs.size ≤ a) s Hs ∧ Wd σ A s s.heap
theorem Ys.ks (Z : Ys p s m args meth c cc nL ret own D kA A Hs σ) : KW D kA Hs σ s := ⟨Z.1.kk, Z.2.1, Z.2.2.1⟩
theorem pre_s (Z : Ys p s m args meth c cc nL ret own D kA A Hs σ) : ∀ U : State, U.heap = H → s.WarmedH U.vm → qPreS D kA Hs σ H av av.toArray U := fun U hU hW => ⟨rfl, hU, KW.go hW Z.ks⟩
theorem sS (Z : Ys p s m args meth c cc nL ret own D kA A Hs σ) (hC : CtS l D kA Hs σ y bytes mL rt fr lc mc ms H av A1 Post) (hM : Mi y bytes mL rt nn) (hs : Si own idx y) (hst : st = av.reverse ++ rest) (hn : av.length = nn) (hcat : (rest.map fun v => v.category).sum ≤ 8) (hR : fr + 1 ≤ R.frames ∧ 8 + (mL + 11) + lc ≤ R.locals) (hk : k + mc ≤ R.cells) (hn2 : n + ms ≤ R.slots) (hd : decode cc pc = .ok (.invokestatic idx, 3)) :
    Rn p l e R s m args below meth c nL H k n pc ls st mc ms rest A1 Post := fun lsA locs hl =>
  ⟨_, va_runS Z.1.1.1 hC ⟨room_c Z.1.1 hM hs.1 hR, Z.1.1.1.2.2.2.2 _ hs.2⟩ ⟨qPreS.blind, pre_s Z⟩ rfl hn hl.1 hst (lv_room hcat) hd ⟨hk, hn2⟩⟩
theorem sI (Z : Ys p s m args meth c cc nL ret own D kA A Hs σ) {b : Nat} {bs : List Value} (hC : CtS l D kA Hs σ y bytes mL none fr lc mc ms H (.ref b :: bs) A1 Post) (hM : Mi y bytes mL none nn) (hs : Ii own idx y) (hst : st = bs.reverse ++ .ref b :: rest) (hn : bs.length = nn) (hcat : (rest.map fun v => v.category).sum ≤ 8) (hR : fr + 1 ≤ R.frames ∧ 8 + (mL + 11) + lc ≤ R.locals) (hk : k + mc ≤ R.cells) (hn2 : n + ms ≤ R.slots) (hd : decode cc pc = .ok (.invokespecial idx, 3)) :
    Rn p l e R s m args below meth c nL H k n pc ls st mc ms rest A1 Post := fun lsA locs hl =>
  ⟨_, va_runI Z.1.1.1 hC ⟨room_c Z.1.1 hM hs.1 hR, hs.2.1, Z.1.1.1.2.2.2.2 _ hs.2.2⟩ ⟨qPreS.blind, pre_s Z⟩ rfl hn hl.1 hst (lv_room hcat) hd ⟨hk, hn2⟩⟩
theorem sV (Z : Ys p s m args meth c cc nL ret own D kA A Hs σ) {b ci : Nat} {fs bs : List Value} {C : String} {T : u_T} {N : Nat} (hC : CtS l D kA Hs σ y bytes mL rt fr lc mc ms H (.ref b :: bs) A1 Post) (hM : Mi y bytes mL rt nn) (hs : Vi own idx C y) (hc : vwCl[ci]? = some (C, T, N)) (hb : hp D H b (.inr (ci, fs))) (hst : st = bs.reverse ++ .ref b :: rest) (hn : bs.length = nn) (hcat : (rest.map fun v => v.category).sum ≤ 8) (hR : fr + 1 ≤ R.frames ∧ 8 + (mL + 11) + lc ≤ R.locals) (hk : k + mc ≤ R.cells) (hn2 : n + ms ≤ R.slots) (hd : decode cc pc = .ok (.invokevirtual idx, 3)) :
    Rn p l e R s m args below meth c nL H k n pc ls st mc ms rest A1 Post := fun lsA locs hl =>
  ⟨_, va_runV Z.1.1.1 hC ⟨room_c Z.1.1 hM hs.1 hR, Z.1.1.1.2.2.2.2 _ hs.2.1, Z.1.1.1.2.2.2.2 _ hs.2.2⟩ ⟨qPreS.blind, rcv Z.1.1 hc hb, pre_s Z⟩ rfl hn hl.1 hst (lv_room hcat) hd ⟨hk, hn2⟩⟩
theorem sxS (Z : Ys p s m args meth c cc nL ret own D kA A Hs σ) (hC : CtSX l D kA Hs σ y bytes mL rt fr lc mc ms H av A1 Post PX) (hM : Mi y bytes mL rt nn) (hs : Si own idx y) (hst : st = av.reverse ++ rest) (hn : av.length = nn) (hcat : (rest.map fun v => v.category).sum ≤ 8) (hR : fr + 1 ≤ R.frames ∧ 8 + (mL + 11) + lc ≤ R.locals) (hk : k + mc ≤ R.cells) (hn2 : n + ms ≤ R.slots) (hd : decode cc pc = .ok (.invokestatic idx, 3)) :
    RnX p l e R s m args below meth c nL H k n pc ls st mc ms rest A1 Post PX := fun lsA locs hl =>
  ⟨_, vx_runS Z.1.1.1 hC ⟨room_c Z.1.1 hM hs.1 hR, Z.1.1.1.2.2.2.2 _ hs.2⟩ ⟨qPreS.blind, pre_s Z⟩ rfl hn hl.1 hst (lv_room hcat) hd ⟨hk, hn2⟩⟩
theorem sxV (Z : Ys p s m args meth c cc nL ret own D kA A Hs σ) {b ci : Nat} {fs bs : List Value} {C : String} {T : u_T} {N : Nat} (hC : CtSX l D kA Hs σ y bytes mL rt fr lc mc ms H (.ref b :: bs) A1 Post PX) (hM : Mi y bytes mL rt nn) (hs : Vi own idx C y) (hc : vwCl[ci]? = some (C, T, N)) (hb : hp D H b (.inr (ci, fs))) (hst : st = bs.reverse ++ .ref b :: rest) (hn : bs.length = nn) (hcat : (rest.map fun v => v.category).sum ≤ 8) (hR : fr + 1 ≤ R.frames ∧ 8 + (mL + 11) + lc ≤ R.locals) (hk : k + mc ≤ R.cells) (hn2 : n + ms ≤ R.slots) (hd : decode cc pc = .ok (.invokevirtual idx, 3)) :
    RnX p l e R s m args below meth c nL H k n pc ls st mc ms rest A1 Post PX := fun lsA locs hl =>
  ⟨_, vx_runV Z.1.1.1 hC ⟨room_c Z.1.1 hM hs.1 hR, Z.1.1.1.2.2.2.2 _ hs.2.1, Z.1.1.1.2.2.2.2 _ hs.2.2⟩ ⟨qPreS.blind, rcv Z.1.1 hc hb, pre_s Z⟩ rfl hn hl.1 hst (lv_room hcat) hd ⟨hk, hn2⟩⟩
theorem sVL (Z : Ys p s m args meth c cc nL ret own D kA A Hs σ) {b : Nat} {bs : List Value} (hC : CtS l D kA Hs σ y bytes mL rt fr lc mc ms H (.ref b :: bs) A1 Post) (hM : Mi y bytes mL rt nn) (hs : Vi own idx "java/lang/String" y) (hb : ∃ cell : Cell, H[b]? = some cell ∧ cell.vm.isStatics = false ∧ s.vm.findClass "java/lang/String" = some cell.cls) (hst : st = bs.reverse ++ .ref b :: rest) (hn : bs.length = nn) (hcat : (rest.map fun v => v.category).sum ≤ 8) (hR : fr + 1 ≤ R.frames ∧ 8 + (mL + 11) + lc ≤ R.locals) (hk : k + mc ≤ R.cells) (hn2 : n + ms ≤ R.slots) (hd : decode cc pc = .ok (.invokevirtual idx, 3)) :
    Rn p l e R s m args below meth c nL H k n pc ls st mc ms rest A1 Post := fun lsA locs hl =>
  ⟨_, va_runV Z.1.1.1 hC ⟨room_c Z.1.1 hM hs.1 hR, Z.1.1.1.2.2.2.2 _ hs.2.1, Z.1.1.1.2.2.2.2 _ hs.2.2⟩ ⟨qPreS.blind, hb, pre_s Z⟩ rfl hn hl.1 hst (lv_room hcat) hd ⟨hk, hn2⟩⟩
theorem rcvL (Z : Ys p s m args meth c cc nL ret own D kA A Hs σ) {x : String × Nat × String} (hx : x ∈ wL) (hg : Ag Hs H) : ∃ cell : Cell, H[(σ x.1 x.2.1).1]? = some cell ∧ cell.vm.isStatics = false ∧ s.vm.findClass "java/lang/String" = some cell.cls := by
  obtain ⟨⟨cell, h1, h2, h3, -⟩, -⟩ := Z.2.2.1.1 x hx
  exact ⟨cell, by rw [hg.2 _ (Array.getElem?_eq_some_iff.mp h1).1]; exact h1, h2, h3⟩
theorem CtS.of {H0 : Heap} {ls0 : List (Nat × Value)} (hM : Mi y bytes mL rt nn) (hlen : (lg_sl av).length ≤ mL) (hls : lv_args 0 av = ls0)
    (hg : Ag Hs H0) (hA0 : ∀ q, A q → Hs.size ≤ q)
    (body : ∀ (p : Program) (e : Env) (s : State) (m : MethodId) (args : Array Value) (below : List Frame) (meth : Method) (c : Code), Ys p s m args meth c bytes mL rt y.cls D kA (AA H0 A) Hs σ → s.heap = H0 → meth.name = y.name → V p l e (rmO fr lc mc ms) s m args below meth c mL (AA H0 A) (QC below args s mc ms H0 A Post) H0 0 0 0 ls0 []) :
    CtS l D kA Hs σ y bytes mL rt fr lc mc ms H0 av A Post := by
  refine Met.ofWF (cc := bytes) (maxL := mL) (ret := rt) hM.2.2.1 rfl ?_
  intro p e s m args below meth c s₁ B hml hP
  obtain ⟨rfl, hh, hK⟩ := hP
  have hts : ∀ w ∈ T0, w.before av.toArray s = true := fun w hw => atoms_spec (ws := .code y bytes mL rt :: T0) B.pre w (List.mem_cons_of_mem _ hw)
  have hown : s.vm.findClass y.cls = some m.cls := findClass_of_methodNamed B.named
  have h := body p e s m av.toArray below meth c ⟨⟨⟨⟨B.exec, B.bytes, hml, hown, hts⟩, hK.1.1, fun q hq => Or.inr (by rw [← hh]; exact hq), B.notSynchronized, B.returns⟩, hK.1.2⟩, hK.2.1, hK.2.2, hK.2.2.go (Vm.Alike.refl _) (fun a ha _ => by rw [hh]; exact hg.2 a ha) (fun q hq => hq.elim (hA0 q) (fun z => Nat.le_trans hg.1 z))⟩ hh (name_of_methodNamed B.named B.method).1
  rw [lg_entry_eq]
  have hl := lv_entry av hlen
  rw [hls] at hl
  have h9 := h _ [] hl (by rw [hh]; exact va_S.rf)
  rw [hh]
  exact h9
theorem CtSX.of {H0 : Heap} {ls0 : List (Nat × Value)} (hM : Mi y bytes mL rt nn) (hpn : plainName y.cls = true) (hlen : (lg_sl av).length ≤ mL) (hls : lv_args 0 av = ls0)
    (hg : Ag Hs H0) (hA0 : ∀ q, A q → Hs.size ≤ q)
    (body : ∀ (p : Program) (e : Env) (s : State) (m : MethodId) (args : Array Value) (below : List Frame) (meth : Method) (c : Code), Ys p s m args meth c bytes mL rt y.cls D kA (AA H0 A) Hs σ → s.heap = H0 → (∀ x ∈ c.exceptionTable.toList, False) → V p l e (rmO fr lc mc ms) s m args below meth c mL (AA H0 A) (QX below args s mc ms H0 A Post PX) H0 0 0 0 ls0 []) :
    CtSX l D kA Hs σ y bytes mL rt fr lc mc ms H0 av A Post PX := by
  refine vx_ofW (cc := bytes) (maxL := mL) (ret := rt) hpn rfl ?_
  intro p e s m args below meth c s₁ B hml hT hP
  obtain ⟨rfl, hh, hK⟩ := hP
  have hts : ∀ w ∈ T0, w.before av.toArray s = true := fun w hw => atoms_spec (ws := .code y bytes mL rt :: T0) B.pre w (List.mem_cons_of_mem _ hw)
  have hown : s.vm.findClass y.cls = some m.cls := findClass_of_methodNamed B.named
  have h := body p e s m av.toArray below meth c ⟨⟨⟨⟨B.exec, B.bytes, hml, hown, hts⟩, hK.1.1, fun q hq => Or.inr (by rw [← hh]; exact hq), B.notSynchronized, B.returns⟩, hK.1.2⟩, hK.2.1, hK.2.2, hK.2.2.go (Vm.Alike.refl _) (fun a ha _ => by rw [hh]; exact hg.2 a ha) (fun q hq => hq.elim (hA0 q) (fun z => Nat.le_trans hg.1 z))⟩ hh hT
  rw [lg_entry_eq]
  have hl := lv_entry av hlen
  rw [hls] at hl
  have h9 := h _ [] hl (by rw [hh]; exact va_S.rf)
  rw [hh]
  exact h9
theorem V_ldcS (Y : Ky p s m args meth c cc nL ret own D kA A) {i a : Nat} {tx : String} (hZ : vk_R own i tx a s) (hd : decode cc pc = .ok (.ldc i, 2)) (hpc : pc + 2 = pc') (kk : V p l e R s m args below meth c nL A Q H k n pc' ls (.ref a :: st)) : V p l e R s m args below meth c nL A Q H k n pc ls st := by
  subst hpc
  exact fun lsA locs hl hS => va_ldcS Y.1.1.1 Y.1.1.2.1 Y.1.1.2.2.2.1 hZ hd (kk lsA locs hl hS)
theorem V_gets (Y : Ky p s m args meth c cc nL ret own D kA A) {C nm ds : String} {v : Value} {i : Nat} (hZ : va_Z C nm ds v A s s.heap) (hl9 : Cond.fieldLink own i C nm ds ∈ T0) (hd : decode cc pc = .ok (.getstatic i, 3)) (hpc : pc + 3 = pc') (kk : V p l e R s m args below meth c nL A Q H k n pc' ls (v :: st)) : V p l e R s m args below meth c nL A Q H k n pc ls st := by
  subst hpc
  exact fun lsA locs hl hS => va_gets Y.1.1.1 Y.1.1.2.1 hZ hS Y.1.1.2.2.2.1 (Y.1.1.2.2.2.2 _ hl9) (fun _ h => h) hd (kk lsA locs hl hS)
theorem V_getO (Y : Ky p s m args meth c cc nL ret own D kA A) {C nm ds : String} {v : Value} {i a : Nat} (hZ : va_OF C nm ds v a A s s.heap) (hl9 : Cond.fieldLink own i C nm ds ∈ T0) (hd : decode cc pc = .ok (.getfield i, 3)) (hpc : pc + 3 = pc') (kk : V p l e R s m args below meth c nL A Q H k n pc' ls (v :: st)) : V p l e R s m args below meth c nL A Q H k n pc ls (.ref a :: st) := by
  subst hpc
  exact fun lsA locs hl hS => vk_getf Y.1.1.1 Y.1.1.2.1 hZ hS Y.1.1.2.2.2.1 (Y.1.1.2.2.2.2 _ hl9) (fun _ h => h) hd (kk lsA locs hl hS)
theorem V_baldT (Y : Ky p s m args meth c cc nL ret own D kA A) {a N : Nat} {f : Nat → Value} {i : Int32} {v : Value} (hT : va_T .byte a N f A s s.heap) (hin : vp_in i N) (hv : f i.toNatClampNeg = v) (hd : decode cc pc = .ok (.baload, 1)) (hpc : pc + 1 = pc') (kk : V p l e R s m args below meth c nL A Q H k n pc' ls (v :: st)) : V p l e R s m args below meth c nL A Q H k n pc ls (.int i :: .ref a :: st) := by
  subst hpc
  exact fun lsA locs hl hS => va_tb Y.1.1.1 Y.1.1.2.1 hT hS hin hv hd (kk lsA locs hl hS)
theorem V_alenT (Y : Ky p s m args meth c cc nL ret own D kA A) {a N : Nat} {f : Nat → Value} {ty : FieldType} (hT : va_T ty a N f A s s.heap) (hd : decode cc pc = .ok (.arraylength, 1)) (hpc : pc + 1 = pc') (kk : V p l e R s m args below meth c nL A Q H k n pc' ls (.int (nI N) :: st)) : V p l e R s m args below meth c nL A Q H k n pc ls (.ref a :: st) := by
  subst hpc
  exact fun lsA locs hl hS => va_tlen Y.1.1.1 Y.1.1.2.1 hT hS rfl hd (kk lsA locs hl hS)
end VW
