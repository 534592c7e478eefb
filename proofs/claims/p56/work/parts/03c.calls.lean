/-! Contracts and calls. Ct: a method that returns; CtX: one that returns or throws. A: which old cells it may change (new ones always). -/
def rmO (fr lc mc ms : Nat) : Room := { frames := fr, cells := mc, slots := ms, locals := lc }
def KK (D : va_G) (kA : Nat → ClassId) (U : State) : Prop := va_K D vwCl (tyA kA) U ∧ va_AO RX0 U ∧ va_AO RX3 U
theorem KK.moved {D : va_G} {kA : Nat → ClassId} {u U : State} (hvm : u.vm.Alike U.vm) (h : KK D kA u) : KK D kA U := ⟨va_K.moved hvm h.1, va_AO.moved hvm h.2.1, va_AO.moved hvm h.2.2⟩
def AA (H0 : Heap) (A : Nat → Prop) : Nat → Prop := fun q => A q ∨ H0.size ≤ q
abbrev qPre (D : va_G) (kA : Nat → ClassId) (H0 : Heap) (av : List Value) : Array Value → State → Prop := fun a U => a = av.toArray ∧ U.heap = H0 ∧ KK D kA U
abbrev qPost (H0 : Heap) (A : Nat → Prop) (Post : Option Value → Heap → Prop) : Array Value → State → Outcome → State → Prop := fun _ st o t => (∃ v, o = .returned v ∧ Post v t.heap) ∧ va_F (AA H0 A) st t
abbrev qThrow (H0 : Heap) (A : Nat → Prop) (PX : String → Heap → Prop) : String → State → State → Prop := fun E st t => PX E t.heap ∧ va_F (AA H0 A) st t
def Ct (l : Launch) (D : va_G) (kA : Nat → ClassId) (y : MethodName) (cc : ByteArray) (mL : Nat) (ret : Option FieldType) (fr lc mc ms : Nat) (H0 : Heap) (av : List Value) (A : Nat → Prop) (Post : Option Value → Heap → Prop) : Prop :=
  Met l y (.code y cc mL ret :: T0) (rmO fr lc mc ms) (qPre D kA H0 av) (qPost H0 A Post) mc ms (AA H0 A)
def CtX (l : Launch) (D : va_G) (kA : Nat → ClassId) (y : MethodName) (cc : ByteArray) (mL : Nat) (ret : Option FieldType) (fr lc mc ms : Nat) (H0 : Heap) (av : List Value) (A : Nat → Prop) (Post : Option Value → Heap → Prop) (PX : String → Heap → Prop) : Prop :=
  vx_Met l y (.code y cc mL ret :: T0) (rmO fr lc mc ms) (qPre D kA H0 av) (qPost H0 A Post) (qThrow H0 A PX) mc ms (AA H0 A)
def pI (P : Int32 → Heap → Prop) : Option Value → Heap → Prop := fun v H => ∃ r, v = some (.int r) ∧ P r H
def pL (P : Int64 → Heap → Prop) : Option Value → Heap → Prop := fun v H => ∃ r, v = some (.long r) ∧ P r H
def pF (P : UInt32 → Heap → Prop) : Option Value → Heap → Prop := fun v H => ∃ r, v = some (.float r) ∧ P r H
def pD (P : UInt64 → Heap → Prop) : Option Value → Heap → Prop := fun v H => ∃ r, v = some (.double r) ∧ P r H
def pR (P : Nat → Heap → Prop) : Option Value → Heap → Prop := fun v H => ∃ r, v = some (.ref r) ∧ P r H
def pV (P : Heap → Prop) : Option Value → Heap → Prop := fun v H => v = none ∧ P H
/-- a method's own facts -/
def Mi (y : MethodName) (cc : ByteArray) (mL : Nat) (ret : Option FieldType) (n : Nat) : Prop := Cond.code y cc mL ret ∈ T0 ∧ Cond.initialized y.cls ∈ T0 ∧ plainFor y = true ∧ (y.cls ≠ "java/lang/invoke/MethodHandle" ∧ y.cls ≠ "java/lang/invoke/VarHandle") ∧ (parseMethodDescriptor y.desc).map (fun d => d.parameters.length) = some n
/-- a call site's: virtual, static, <init> -/
def Vi (own : String) (idx : Nat) (C : String) (y : MethodName) : Prop := Cond.methodLink own idx y ∈ T0 ∧ Cond.instanceMethod y ∈ T0 ∧ Cond.selects C y y ∈ T0
def Si (own : String) (idx : Nat) (y : MethodName) : Prop := Cond.methodLink own idx y ∈ T0 ∧ Cond.static y ∈ T0
def Ii (own : String) (idx : Nat) (y : MethodName) : Prop := Cond.methodLink own idx y ∈ T0 ∧ y.name = "<init>" ∧ Cond.instanceMethod y ∈ T0
theorem qPre.blind {D : va_G} {kA : Nat → ClassId} {H0 : Heap} {av : List Value} : FrameBlind (qPre D kA H0 av) := fun a U g mk h => ⟨h.1, h.2.1, KK.moved (u := U) (U := U.calling g mk a) (Vm.Alike.refl U.vm) h.2.2⟩
section VC
variable {p : Program} {l : Launch} {e : Env} {R : Room} {s : State} {m : MethodId} {args : Array Value} {below : List Frame} {meth : Method} {c : Code} {nL : Nat} {A A1 : Nat → Prop} {Q : State → Prop} {H : Heap} {k n pc pc' : Nat} {ls ls' : List (Nat × Value)} {st rest : List Value}
variable {cc : ByteArray} {own : String} {D : va_G} {kA : Nat → ClassId} {ret : Option FieldType}
variable {y : MethodName} {bytes : ByteArray} {mL : Nat} {rt : Option FieldType} {fr lc mc ms nn idx : Nat} {av : List Value} {Post : Option Value → Heap → Prop} {PX : String → Heap → Prop}
/-- the frame's facts, with the tables of the arrays over objects -/
def Ky (p : Program) (s : State) (m : MethodId) (args : Array Value) (meth : Method) (c : Code) (cc : ByteArray) (nL : Nat) (ret : Option FieldType) (own : String) (D : va_G) (kA : Nat → ClassId) (A : Nat → Prop) : Prop := Kx p s m args meth c cc nL ret own D kA A ∧ va_AO RX0 s ∧ va_AO RX3 s
theorem Ky.kk (Y : Ky p s m args meth c cc nL ret own D kA A) : KK D kA s := ⟨Y.1.2.1, Y.2⟩
theorem room_c (X : Kx p s m args meth c cc nL ret own D kA A) (hM : Mi y bytes mL rt nn) (hl : Cond.methodLink own idx y ∈ T0) (hR : fr + 1 ≤ R.frames ∧ 8 + (mL + 11) + lc ≤ R.locals) : CallB R s args own idx y bytes mL rt (.code y bytes mL rt :: T0) (rmO fr lc mc ms) mc ms nn := by
  obtain ⟨h1, h2, h3, h4, h5⟩ := hM
  refine ⟨rfl, rfl, hR.1, hR.2, fun w hw a' U hW => ?_, List.mem_cons_self, X.1.2.2.2.2 _ h1, X.1.2.2.2.2 _ h2, h4, fun sig h => ?_, X.1.2.2.2.2 _ hl⟩
  · rcases List.mem_cons.mp hw with rfl | h
    · exact word_at hW (T0_good _ h1) (X.1.2.2.2.2 _ h1)
    · exact word_at hW (T0_good _ h) (X.1.2.2.2.2 _ h)
  · rw [h] at h5
    exact (Option.some.inj h5).symm
theorem pre_c (Y : Ky p s m args meth c cc nL ret own D kA A) : ∀ U : State, U.heap = H → s.WarmedH U.vm → qPre D kA H av av.toArray U := fun U hU hW => ⟨rfl, hU, KK.moved hW.alike Y.kk⟩
/-- a call, run: what V_c.. take -/
def Rn (p : Program) (l : Launch) (e : Env) (R : Room) (s : State) (m : MethodId) (args : Array Value) (below : List Frame) (meth : Method) (c : Code) (nL : Nat) (H : Heap) (k n pc : Nat) (ls : List (Nat × Value)) (st : List Value) (mc ms : Nat) (rest : List Value) (A1 : Nat → Prop) (Post : Option Value → Heap → Prop) : Prop :=
  ∀ (lsA : Array Slot) (locs : List Loc), lv_has lsA nL ls → ∃ a, va_Run p l e R s m args below meth c H locs k n mc ms (F0 m pc lsA st) rest (qPost H A1 Post a) (AA H A1)
def RnX (p : Program) (l : Launch) (e : Env) (R : Room) (s : State) (m : MethodId) (args : Array Value) (below : List Frame) (meth : Method) (c : Code) (nL : Nat) (H : Heap) (k n pc : Nat) (ls : List (Nat × Value)) (st : List Value) (mc ms : Nat) (rest : List Value) (A1 : Nat → Prop) (Post : Option Value → Heap → Prop) (PX : String → Heap → Prop) : Prop :=
  ∀ (lsA : Array Slot) (locs : List Loc), lv_has lsA nL ls → ∃ a, vx_Run p l e R s m args below meth c H locs k n mc ms (F0 m pc lsA st) rest (qPost H A1 Post a) (qThrow H A1 PX) (AA H A1)
theorem rS (Y : Ky p s m args meth c cc nL ret own D kA A) (hC : Ct l D kA y bytes mL rt fr lc mc ms H av A1 Post) (hM : Mi y bytes mL rt nn) (hs : Si own idx y) (hst : st = av.reverse ++ rest) (hn : av.length = nn) (hcat : (rest.map fun v => v.category).sum ≤ 8) (hR : fr + 1 ≤ R.frames ∧ 8 + (mL + 11) + lc ≤ R.locals) (hk : k + mc ≤ R.cells) (hn2 : n + ms ≤ R.slots) (hd : decode cc pc = .ok (.invokestatic idx, 3)) :
    Rn p l e R s m args below meth c nL H k n pc ls st mc ms rest A1 Post := fun lsA locs hl =>
  ⟨_, va_runS Y.1.1 hC ⟨room_c Y.1 hM hs.1 hR, Y.1.1.2.2.2.2 _ hs.2⟩ ⟨qPre.blind, pre_c Y⟩ rfl hn hl.1 hst (lv_room hcat) hd ⟨hk, hn2⟩⟩
theorem rI (Y : Ky p s m args meth c cc nL ret own D kA A) {b : Nat} {bs : List Value} (hC : Ct l D kA y bytes mL none fr lc mc ms H (.ref b :: bs) A1 Post) (hM : Mi y bytes mL none nn) (hs : Ii own idx y) (hst : st = bs.reverse ++ .ref b :: rest) (hn : bs.length = nn) (hcat : (rest.map fun v => v.category).sum ≤ 8) (hR : fr + 1 ≤ R.frames ∧ 8 + (mL + 11) + lc ≤ R.locals) (hk : k + mc ≤ R.cells) (hn2 : n + ms ≤ R.slots) (hd : decode cc pc = .ok (.invokespecial idx, 3)) :
    Rn p l e R s m args below meth c nL H k n pc ls st mc ms rest A1 Post := fun lsA locs hl =>
  ⟨_, va_runI Y.1.1 hC ⟨room_c Y.1 hM hs.1 hR, hs.2.1, Y.1.1.2.2.2.2 _ hs.2.2⟩ ⟨qPre.blind, pre_c Y⟩ rfl hn hl.1 hst (lv_room hcat) hd ⟨hk, hn2⟩⟩
theorem rcv (X : Kx p s m args meth c cc nL ret own D kA A) {b ci : Nat} {fs : List Value} {C : String} {T : u_T} {N : Nat} (hc : vwCl[ci]? = some (C, T, N)) (hb : hp D H b (.inr (ci, fs))) : ∃ cell : Cell, H[b]? = some cell ∧ cell.vm.isStatics = false ∧ s.vm.findClass C = some cell.cls := by
  obtain ⟨q', h1, cell, g1, g2, g3, -⟩ := hb
  cases Option.some.inj (h1.symm.trans hc)
  exact ⟨cell, g1, by rw [g3]; rfl, by rw [g2]; exact (X.2.1.1 ci _ hc).2.1⟩
theorem rV (Y : Ky p s m args meth c cc nL ret own D kA A) {b ci : Nat} {fs bs : List Value} {C : String} {T : u_T} {N : Nat} (hC : Ct l D kA y bytes mL rt fr lc mc ms H (.ref b :: bs) A1 Post) (hM : Mi y bytes mL rt nn) (hs : Vi own idx C y) (hc : vwCl[ci]? = some (C, T, N)) (hb : hp D H b (.inr (ci, fs))) (hst : st = bs.reverse ++ .ref b :: rest) (hn : bs.length = nn) (hcat : (rest.map fun v => v.category).sum ≤ 8) (hR : fr + 1 ≤ R.frames ∧ 8 + (mL + 11) + lc ≤ R.locals) (hk : k + mc ≤ R.cells) (hn2 : n + ms ≤ R.slots) (hd : decode cc pc = .ok (.invokevirtual idx, 3)) :
    Rn p l e R s m args below meth c nL H k n pc ls st mc ms rest A1 Post := fun lsA locs hl =>
  ⟨_, va_runV Y.1.1 hC ⟨room_c Y.1 hM hs.1 hR, Y.1.1.2.2.2.2 _ hs.2.1, Y.1.1.2.2.2.2 _ hs.2.2⟩ ⟨qPre.blind, rcv Y.1 hc hb, pre_c Y⟩ rfl hn hl.1 hst (lv_room hcat) hd ⟨hk, hn2⟩⟩
theorem xS (Y : Ky p s m args meth c cc nL ret own D kA A) (hC : CtX l D kA y bytes mL rt fr lc mc ms H av A1 Post PX) (hM : Mi y bytes mL rt nn) (hs : Si own idx y) (hst : st = av.reverse ++ rest) (hn : av.length = nn) (hcat : (rest.map fun v => v.category).sum ≤ 8) (hR : fr + 1 ≤ R.frames ∧ 8 + (mL + 11) + lc ≤ R.locals) (hk : k + mc ≤ R.cells) (hn2 : n + ms ≤ R.slots) (hd : decode cc pc = .ok (.invokestatic idx, 3)) :
    RnX p l e R s m args below meth c nL H k n pc ls st mc ms rest A1 Post PX := fun lsA locs hl =>
  ⟨_, vx_runS Y.1.1 hC ⟨room_c Y.1 hM hs.1 hR, Y.1.1.2.2.2.2 _ hs.2⟩ ⟨qPre.blind, pre_c Y⟩ rfl hn hl.1 hst (lv_room hcat) hd ⟨hk, hn2⟩⟩
theorem xV (Y : Ky p s m args meth c cc nL ret own D kA A) {b ci : Nat} {fs bs : List Value} {C : String} {T : u_T} {N : Nat} (hC : CtX l D kA y bytes mL rt fr lc mc ms H (.ref b :: bs) A1 Post PX) (hM : Mi y bytes mL rt nn) (hs : Vi own idx C y) (hc : vwCl[ci]? = some (C, T, N)) (hb : hp D H b (.inr (ci, fs))) (hst : st = bs.reverse ++ .ref b :: rest) (hn : bs.length = nn) (hcat : (rest.map fun v => v.category).sum ≤ 8) (hR : fr + 1 ≤ R.frames ∧ 8 + (mL + 11) + lc ≤ R.locals) (hk : k + mc ≤ R.cells) (hn2 : n + ms ≤ R.slots) (hd : decode cc pc = .ok (.invokevirtual idx, 3)) :
    RnX p l e R s m args below meth c nL H k n pc ls st mc ms rest A1 Post PX := fun lsA locs hl =>
  ⟨_, vx_runV Y.1.1 hC ⟨room_c Y.1 hM hs.1 hR, Y.1.1.2.2.2.2 _ hs.2.1, Y.1.1.2.2.2.2 _ hs.2.2⟩ ⟨qPre.blind, rcv Y.1 hc hb, pre_c Y⟩ rfl hn hl.1 hst (lv_room hcat) hd ⟨hk, hn2⟩⟩
/-- behind a call -/
theorem V_c (Y : Ky p s m args meth c cc nL ret own D kA A) (hr : Rn p l e R s m args below meth c nL H k n pc ls st mc ms rest A1 Post) (hA : ∀ q, A1 q → A q) (hpc : pc + 3 = pc')
    (kk : ∀ (v : Option Value) (H1 : Heap), Post v H1 → off A1 H H1 → V p l e R s m args below meth c nL A Q H1 (k + mc) (n + ms) pc' ls (v.toList ++ rest)) : V p l e R s m args below meth c nL A Q H k n pc ls st := by
  subst hpc
  intro lsA locs hl hS T hT X
  obtain ⟨a, hr⟩ := hr lsA locs hl
  obtain ⟨v, st₀, t, T', L, h0, X', hL, e1, e2, ⟨⟨v', hv, hq⟩, hz, hk⟩, stp⟩ := hr T hT X
  cases hv
  rw [h0] at hz hk
  rw [← e1] at hq hz hk
  have hA' : ∀ q, AA H A1 q → A q := fun q h => h.elim (hA q) (fun h => Y.1.2.2.1 q (Nat.le_trans hS.1 h))
  obtain ⟨t2, a1, b1⟩ := kk v T'.heap hq ⟨hz, fun q h1 h2 => hk q h1 (fun z => z.elim h2 (fun z => absurd h1 (Nat.not_lt.mpr z)))⟩ lsA (locs ++ L) hl
    ⟨Nat.le_trans hS.1 hz, fun q h1 h2 => (hk q (Nat.lt_of_lt_of_le h1 hS.1) (fun z => h2 (hA' q z))).trans (hS.2.1 q h1 h2), fun q hq => (List.mem_append.mp hq).elim (hS.2.2 q) (fun h => hA' _ (hL q h))⟩ T' rfl X'
  exact ⟨t2, stp t2 a1, b1⟩
theorem V_cI (Y : Ky p s m args meth c cc nL ret own D kA A) {P : Int32 → Heap → Prop} (hr : Rn p l e R s m args below meth c nL H k n pc ls st mc ms rest A1 (pI P)) (hA : ∀ q, A1 q → A q) (hpc : pc + 3 = pc')
    (kk : ∀ (v : Int32) (H1 : Heap), P v H1 → off A1 H H1 → V p l e R s m args below meth c nL A Q H1 (k + mc) (n + ms) pc' ls (.int v :: rest)) : V p l e R s m args below meth c nL A Q H k n pc ls st :=
  V_c Y hr hA hpc fun v H1 hq ho => by obtain ⟨r, rfl, h⟩ := hq; exact kk r H1 h ho
theorem V_cL (Y : Ky p s m args meth c cc nL ret own D kA A) {P : Int64 → Heap → Prop} (hr : Rn p l e R s m args below meth c nL H k n pc ls st mc ms rest A1 (pL P)) (hA : ∀ q, A1 q → A q) (hpc : pc + 3 = pc')
    (kk : ∀ (v : Int64) (H1 : Heap), P v H1 → off A1 H H1 → V p l e R s m args below meth c nL A Q H1 (k + mc) (n + ms) pc' ls (.long v :: rest)) : V p l e R s m args below meth c nL A Q H k n pc ls st :=
  V_c Y hr hA hpc fun v H1 hq ho => by obtain ⟨r, rfl, h⟩ := hq; exact kk r H1 h ho
theorem V_cF (Y : Ky p s m args meth c cc nL ret own D kA A) {P : UInt32 → Heap → Prop} (hr : Rn p l e R s m args below meth c nL H k n pc ls st mc ms rest A1 (pF P)) (hA : ∀ q, A1 q → A q) (hpc : pc + 3 = pc')
    (kk : ∀ (v : UInt32) (H1 : Heap), P v H1 → off A1 H H1 → V p l e R s m args below meth c nL A Q H1 (k + mc) (n + ms) pc' ls (.float v :: rest)) : V p l e R s m args below meth c nL A Q H k n pc ls st :=
  V_c Y hr hA hpc fun v H1 hq ho => by obtain ⟨r, rfl, h⟩ := hq; exact kk r H1 h ho
theorem V_cD (Y : Ky p s m args meth c cc nL ret own D kA A) {P : UInt64 → Heap → Prop} (hr : Rn p l e R s m args below meth c nL H k n pc ls st mc ms rest A1 (pD P)) (hA : ∀ q, A1 q → A q) (hpc : pc + 3 = pc')
    (kk : ∀ (v : UInt64) (H1 : Heap), P v H1 → off A1 H H1 → V p l e R s m args below meth c nL A Q H1 (k + mc) (n + ms) pc' ls (.double v :: rest)) : V p l e R s m args below meth c nL A Q H k n pc ls st :=
  V_c Y hr hA hpc fun v H1 hq ho => by obtain ⟨r, rfl, h⟩ := hq; exact kk r H1 h ho
theorem V_cR (Y : Ky p s m args meth c cc nL ret own D kA A) {P : Nat → Heap → Prop} (hr : Rn p l e R s m args below meth c nL H k n pc ls st mc ms rest A1 (pR P)) (hA : ∀ q, A1 q → A q) (hpc : pc + 3 = pc')
    (kk : ∀ (v : Nat) (H1 : Heap), P v H1 → off A1 H H1 → V p l e R s m args below meth c nL A Q H1 (k + mc) (n + ms) pc' ls (.ref v :: rest)) : V p l e R s m args below meth c nL A Q H k n pc ls st :=
  V_c Y hr hA hpc fun v H1 hq ho => by obtain ⟨r, rfl, h⟩ := hq; exact kk r H1 h ho
theorem V_cV (Y : Ky p s m args meth c cc nL ret own D kA A) {P : Heap → Prop} (hr : Rn p l e R s m args below meth c nL H k n pc ls st mc ms rest A1 (pV P)) (hA : ∀ q, A1 q → A q) (hpc : pc + 3 = pc')
    (kk : ∀ (H1 : Heap), P H1 → off A1 H H1 → V p l e R s m args below meth c nL A Q H1 (k + mc) (n + ms) pc' ls rest) : V p l e R s m args below meth c nL A Q H k n pc ls st :=
  V_c Y hr hA hpc fun v H1 hq ho => by obtain ⟨rfl, h⟩ := hq; exact kk H1 h ho
/-- a call that changes nothing and makes nothing: its answer -/
theorem V_cP (Y : Ky p s m args meth c cc nL ret own D kA A) {r : Int32} (hr : Rn p l e R s m args below meth c nL H k n pc ls st 0 0 rest (fun _ => False) (pI fun v H1 => v = r ∧ H1 = H)) (hpc : pc + 3 = pc')
    (kk : V p l e R s m args below meth c nL A Q H k n pc' ls (.int r :: rest)) : V p l e R s m args below meth c nL A Q H k n pc ls st :=
  V_cI Y hr (fun _ h => h.elim) hpc fun v H1 hq ho => by obtain ⟨rfl, rfl⟩ := hq; exact kk
/-- the heap's bound may be raised -/
theorem V_widen {k' n' : Nat} (h1 : k ≤ k') (h2 : n ≤ n') (kk : V p l e R s m args below meth c nL A Q H k' n' pc ls st) : V p l e R s m args below meth c nL A Q H k n pc ls st := fun lsA locs hl hS => W.widen h1 h2 (kk lsA locs hl hS)
/-- thrown, at pc -/
def VX (p : Program) (l : Launch) (e : Env) (R : Room) (s : State) (m : MethodId) (args : Array Value) (below : List Frame) (meth : Method) (c : Code) (nL : Nat) (A : Nat → Prop) (Q : State → Prop) (H : Heap) (k n pc : Nat) (ls : List (Nat × Value)) (E : String) : Prop :=
  ∀ (lsA : Array Slot) (locs : List Loc) (q : Nat) (ce : Cell) (rest : List Value), lv_has lsA nL ls → va_S A s.heap H locs → H[q]? = some ce → ce.vm = .none → s.vm.findClass E = some ce.cls → vx_W p l e R s m args below meth c H locs k n Q (F0 m pc lsA rest) q
theorem V_x (Y : Ky p s m args meth c cc nL ret own D kA A) (hr : RnX p l e R s m args below meth c nL H k n pc ls st mc ms rest A1 Post PX) (hA : ∀ q, A1 q → A q) (hpc : pc + 3 = pc')
    (kx : ∀ (E : String) (H1 : Heap), PX E H1 → off A1 H H1 → VX p l e R s m args below meth c nL A Q H1 (k + mc) (n + ms) pc ls E)
    (kk : ∀ (v : Option Value) (H1 : Heap), Post v H1 → off A1 H H1 → V p l e R s m args below meth c nL A Q H1 (k + mc) (n + ms) pc' ls (v.toList ++ rest)) : V p l e R s m args below meth c nL A Q H k n pc ls st := by
  subst hpc
  intro lsA locs hl hS T hT X
  obtain ⟨a, hr⟩ := hr lsA locs hl
  have hA' : ∀ q, AA H A1 q → A q := fun q h => h.elim (hA q) (fun h => Y.1.2.2.1 q (Nat.le_trans hS.1 h))
  rcases hr T hT X with ⟨v, st₀, t, T', L, h0, X', hL, e1, e2, ⟨⟨v', hv, hq⟩, hz, hk⟩, stp⟩ | ⟨q, st₀, t, T', L, E, ce, h0, X', hL, e1, e2, ⟨hq, hz, hk⟩, hce, hcv, hcl, stp⟩
  · cases hv
    rw [h0] at hz hk
    rw [← e1] at hq hz hk
    obtain ⟨t2, a1, b1⟩ := kk v T'.heap hq ⟨hz, fun q h1 h2 => hk q h1 (fun z => z.elim h2 (fun z => absurd h1 (Nat.not_lt.mpr z)))⟩ lsA (locs ++ L) hl
      ⟨Nat.le_trans hS.1 hz, fun q h1 h2 => (hk q (Nat.lt_of_lt_of_le h1 hS.1) (fun z => h2 (hA' q z))).trans (hS.2.1 q h1 h2), fun q hq => (List.mem_append.mp hq).elim (hS.2.2 q) (fun h => hA' _ (hL q h))⟩ T' rfl X'
    exact ⟨t2, stp t2 a1, b1⟩
  · rw [h0] at hz hk
    rw [← e1] at hq hz hk hce
    obtain ⟨t2, a1, b1⟩ := kx E T'.heap hq ⟨hz, fun q h1 h2 => hk q h1 (fun z => z.elim h2 (fun z => absurd h1 (Nat.not_lt.mpr z)))⟩ lsA (locs ++ L) q ce rest hl
      ⟨Nat.le_trans hS.1 hz, fun q h1 h2 => (hk q (Nat.lt_of_lt_of_le h1 hS.1) (fun z => h2 (hA' q z))).trans (hS.2.1 q h1 h2), fun q hq => (List.mem_append.mp hq).elim (hS.2.2 q) (fun h => hA' _ (hL q h))⟩ hce hcv hcl T' rfl X'
    exact ⟨t2, stp.trans a1, b1⟩
/-- ends -/
abbrev QC (below : List Frame) (args : Array Value) (s : State) (mc ms : Nat) (H0 : Heap) (A : Nat → Prop) (Post : Option Value → Heap → Prop) : State → Prop := MQ below (qPost H0 A Post) args s mc ms (AA H0 A)
abbrev QX (below : List Frame) (args : Array Value) (s : State) (mc ms : Nat) (H0 : Heap) (A : Nat → Prop) (Post : Option Value → Heap → Prop) (PX : String → Heap → Prop) : State → Prop := vx_MQ below (qPost H0 A Post) (qThrow H0 A PX) args s mc ms (AA H0 A)
theorem V_ret {H0 : Heap} {v : Int32} {P : Int32 → Heap → Prop} {ty : FieldType} (X : Kx p s m args meth c cc nL (some ty) own D kA (AA H0 A)) (hd : decode cc pc = .ok (.ireturn, 1)) (hn : narrow ty (.int v) = .int v) (h1 : k ≤ mc) (h2 : n ≤ ms) (hP : P v H) : V p l e R s m args below meth c nL (AA H0 A) (QC below args s mc ms H0 A (pI P)) H k n pc ls [.int v] := fun lsA locs hl hS =>
  W.widen h1 h2 (W.zret X.1.1 X.1.2.1 X.2.2.2.2 hn (fun t ht hW => ⟨⟨_, rfl, _, rfl, by rw [ht]; exact hP⟩, hS.F ht⟩) hS.2.2 hd X.2.2.2.1)
theorem V_retV {H0 : Heap} {P : Heap → Prop} (X : Kx p s m args meth c cc nL none own D kA (AA H0 A)) (hd : decode cc pc = .ok (.return_, 1)) (h1 : k ≤ mc) (h2 : n ≤ ms) (hP : P H) : V p l e R s m args below meth c nL (AA H0 A) (QC below args s mc ms H0 A (pV P)) H k n pc ls [] := fun lsA locs hl hS =>
  W.widen h1 h2 (W.vret X.1.1 X.1.2.1 X.2.2.2.2 (fun t ht hW => ⟨⟨_, rfl, rfl, by rw [ht]; exact hP⟩, hS.F ht⟩) hS.2.2 hd X.2.2.2.1)
theorem V_retL {H0 : Heap} {v : Int64} {P : Int64 → Heap → Prop} (X : Kx p s m args meth c cc nL (some .long) own D kA (AA H0 A)) (hd : decode cc pc = .ok (.lreturn, 1)) (h1 : k ≤ mc) (h2 : n ≤ ms) (hP : P v H) : V p l e R s m args below meth c nL (AA H0 A) (QC below args s mc ms H0 A (pL P)) H k n pc ls [.long v] := fun lsA locs hl hS =>
  W.widen h1 h2 (W.lret X.1.1 X.1.2.1 X.2.2.2.2 (fun t ht hW => ⟨⟨_, rfl, _, rfl, by rw [ht]; exact hP⟩, hS.F ht⟩) hS.2.2 hd X.2.2.2.1)
theorem V_retF {H0 : Heap} {v : UInt32} {P : UInt32 → Heap → Prop} (X : Kx p s m args meth c cc nL (some .float) own D kA (AA H0 A)) (hd : decode cc pc = .ok (.freturn, 1)) (h1 : k ≤ mc) (h2 : n ≤ ms) (hP : P v H) : V p l e R s m args below meth c nL (AA H0 A) (QC below args s mc ms H0 A (pF P)) H k n pc ls [.float v] := fun lsA locs hl hS =>
  W.widen h1 h2 (W.fret X.1.1 X.1.2.1 X.2.2.2.2 (fun t ht hW => ⟨⟨_, rfl, _, rfl, by rw [ht]; exact hP⟩, hS.F ht⟩) hS.2.2 hd X.2.2.2.1)
theorem V_retD {H0 : Heap} {v : UInt64} {P : UInt64 → Heap → Prop} (X : Kx p s m args meth c cc nL (some .double) own D kA (AA H0 A)) (hd : decode cc pc = .ok (.dreturn, 1)) (h1 : k ≤ mc) (h2 : n ≤ ms) (hP : P v H) : V p l e R s m args below meth c nL (AA H0 A) (QC below args s mc ms H0 A (pD P)) H k n pc ls [.double v] := fun lsA locs hl hS =>
  W.widen h1 h2 (W.dret X.1.1 X.1.2.1 X.2.2.2.2 (fun t ht hW => ⟨⟨_, rfl, _, rfl, by rw [ht]; exact hP⟩, hS.F ht⟩) hS.2.2 hd X.2.2.2.1)
theorem V_retR {H0 : Heap} {v : Nat} {P : Nat → Heap → Prop} {ty : FieldType} (X : Kx p s m args meth c cc nL (some ty) own D kA (AA H0 A)) (hd : decode cc pc = .ok (.areturn, 1)) (hr : (∃ n, ty = .object n) ∨ ∃ t, ty = .array t) (h1 : k ≤ mc) (h2 : n ≤ ms) (hP : P v H) : V p l e R s m args below meth c nL (AA H0 A) (QC below args s mc ms H0 A (pR P)) H k n pc ls [.ref v] := fun lsA locs hl hS =>
  W.widen h1 h2 (W.aret X.1.1 X.1.2.1 X.2.2.2.2 hr (Or.inr ⟨_, rfl⟩) (fun t ht hW => ⟨⟨_, rfl, _, rfl, by rw [ht]; exact hP⟩, hS.F ht⟩) hS.2.2 hd X.2.2.2.1)
/-- the same ends in a body that may throw -/
theorem V_X {H0 : Heap} {A9 : Nat → Prop} (kk : V p l e R s m args below meth c nL A (QC below args s mc ms H0 A9 Post) H k n pc ls st) : V p l e R s m args below meth c nL A (QX below args s mc ms H0 A9 Post PX) H k n pc ls st := fun lsA locs hl hS => vx_ret (kk lsA locs hl hS)
/-- thrown on, out of a method without a table -/
theorem VX_out {H0 : Heap} {E : String} (X : Kx p s m args meth c cc nL ret own D kA (AA H0 A)) (ht : ∀ x ∈ c.exceptionTable.toList, False) (h1 : k ≤ mc) (h2 : n ≤ ms) (hP : PX E H) : VX p l e R s m args below meth c nL (AA H0 A) (QX below args s mc ms H0 A Post PX) H k n pc ls E := fun lsA locs q ce rest hl hS hce hcv hcl =>
  vx_out (fun x hx => (ht x hx).elim) X.2.2.2.1 hce hcv hcl (fun t e1 _ => ⟨by rw [e1]; exact hP, hS.F e1⟩) hS.2.2 h1 h2
/-- the entry -/
theorem Met.ofWF {y : MethodName} {ws ws' : List Cond} {rm : Room} {Pc : Array Value → State → Prop} {Qc : Array Value → State → Outcome → State → Prop} {mc ms : Nat} {free : Addr → Prop} {cc : ByteArray} {maxL : Nat} {ret : Option FieldType}
    (hy : plainFor y = true) (hw : ws = Cond.code y cc maxL ret :: ws')
    (body : ∀ p e s m args below meth c s₁, BodyLoose p l y (headSpec ws rm) cc maxL ret e s m args below meth c s₁ → c.maxLocals = maxL → Pc args s →
      W p l e (headSpec ws rm).room s m args below meth c s.heap [] 0 0 (MQ below Qc args s mc ms free) (entryFrame m args maxL)) : Met l y ws rm Pc Qc mc ms free := by
  refine MetFree.of_bodySF (code := cc) (maxLocals := maxL) (ret := ret) hy ?_ ?_
  · intro args s m h hn
    obtain ⟨meth, c, h1, h2, h3, h4, h5, h6, -, -⟩ := Cond.code_spec hn (atoms_spec (ws := ws) h _ (by rw [hw]; exact List.mem_cons_self))
    exact ⟨meth, c, h1, h2, h3, h4, h5, h6⟩
  · intro p e s m args below meth c s₁ B hml hP _
    have hh0 : s₁.heap = s.heap := by rw [B.state]; rfl
    obtain ⟨t, a1, o, b1, b2, b3⟩ := body p e s m args below meth c s₁ B hml hP s₁ hh0 (Stand.of_body B)
    exact ⟨t, o, a1, b1, b2, ⟨b3.1, b3.2⟩⟩
theorem Ct.of {H0 : Heap} {ls0 : List (Nat × Value)} (hM : Mi y bytes mL rt nn) (hlen : (lg_sl av).length ≤ mL) (hls : lv_args 0 av = ls0)
    (body : ∀ (p : Program) (e : Env) (s : State) (m : MethodId) (args : Array Value) (below : List Frame) (meth : Method) (c : Code), Ky p s m args meth c bytes mL rt y.cls D kA (AA H0 A) → s.heap = H0 → meth.name = y.name → V p l e (rmO fr lc mc ms) s m args below meth c mL (AA H0 A) (QC below args s mc ms H0 A Post) H0 0 0 0 ls0 []) :
    Ct l D kA y bytes mL rt fr lc mc ms H0 av A Post := by
  refine Met.ofWF (cc := bytes) (maxL := mL) (ret := rt) hM.2.2.1 rfl ?_
  intro p e s m args below meth c s₁ B hml hP
  obtain ⟨rfl, hh, hK⟩ := hP
  have hts : ∀ w ∈ T0, w.before av.toArray s = true := fun w hw => atoms_spec (ws := .code y bytes mL rt :: T0) B.pre w (List.mem_cons_of_mem _ hw)
  have hown : s.vm.findClass y.cls = some m.cls := findClass_of_methodNamed B.named
  have h := body p e s m av.toArray below meth c ⟨⟨⟨B.exec, B.bytes, hml, hown, hts⟩, hK.1, fun q hq => Or.inr (by rw [← hh]; exact hq), B.notSynchronized, B.returns⟩, hK.2⟩ hh (name_of_methodNamed B.named B.method).1
  rw [lg_entry_eq]
  have hl := lv_entry av hlen
  rw [hls] at hl
  have h9 := h _ [] hl (by rw [hh]; exact va_S.rf)
  rw [hh]
  exact h9
theorem CtX.of {H0 : Heap} {ls0 : List (Nat × Value)} (hM : Mi y bytes mL rt nn) (hpn : plainName y.cls = true) (hlen : (lg_sl av).length ≤ mL) (hls : lv_args 0 av = ls0)
    (body : ∀ (p : Program) (e : Env) (s : State) (m : MethodId) (args : Array Value) (below : List Frame) (meth : Method) (c : Code), Ky p s m args meth c bytes mL rt y.cls D kA (AA H0 A) → s.heap = H0 → (∀ x ∈ c.exceptionTable.toList, False) → V p l e (rmO fr lc mc ms) s m args below meth c mL (AA H0 A) (QX below args s mc ms H0 A Post PX) H0 0 0 0 ls0 []) :
    CtX l D kA y bytes mL rt fr lc mc ms H0 av A Post PX := by
  refine vx_ofW (cc := bytes) (maxL := mL) (ret := rt) hpn rfl ?_
  intro p e s m args below meth c s₁ B hml hT hP
  obtain ⟨rfl, hh, hK⟩ := hP
  have hts : ∀ w ∈ T0, w.before av.toArray s = true := fun w hw => atoms_spec (ws := .code y bytes mL rt :: T0) B.pre w (List.mem_cons_of_mem _ hw)
  have hown : s.vm.findClass y.cls = some m.cls := findClass_of_methodNamed B.named
  have h := body p e s m av.toArray below meth c ⟨⟨⟨B.exec, B.bytes, hml, hown, hts⟩, hK.1, fun q hq => Or.inr (by rw [← hh]; exact hq), B.notSynchronized, B.returns⟩, hK.2⟩ hh hT
  rw [lg_entry_eq]
  have hl := lv_entry av hlen
  rw [hls] at hl
  have h9 := h _ [] hl (by rw [hh]; exact va_S.rf)
  rw [hh]
  exact h9
end VC
