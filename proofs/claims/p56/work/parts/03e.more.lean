/-! More rows: Math, Object.<init>, named values, throwing calls by answer. -/
def Mx (own : String) (idx : Nat) (y : MethodName) (bytes : ByteArray) (mL : Nat) : Prop := Cond.methodLink own idx y ∈ T0 ∧ Cond.static y ∈ T0 ∧ Cond.initialized "java/lang/Math" ∈ T0 ∧ Cond.code y bytes mL (some .int) ∈ T0
def Ox (own : String) (idx : Nat) : Prop := Cond.methodLink own idx Lib.objectInit ∈ T0 ∧ Cond.instanceMethod Lib.objectInit ∈ T0 ∧ Cond.code Lib.objectInit ⟨#[0xb1]⟩ 1 none ∈ T0
section VM
variable {p : Program} {l : Launch} {e : Env} {R : Room} {s : State} {m : MethodId} {args : Array Value} {below : List Frame} {meth : Method} {c : Code} {nL : Nat} {A A1 : Nat → Prop} {Q : State → Prop} {H : Heap} {k n pc pc' : Nat} {ls ls' : List (Nat × Value)} {st rest : List Value}
variable {cc : ByteArray} {own : String} {D : va_G} {kA : Nat → ClassId} {ret : Option FieldType} {mc ms idx : Nat} {PX : String → Heap → Prop}
theorem V_nm {x v : Int32} (h : x = v) (kk : V p l e R s m args below meth c nL A Q H k n pc ls (.int v :: st)) : V p l e R s m args below meth c nL A Q H k n pc ls (.int x :: st) := h ▸ kk
theorem V_mmax (X : Kx p s m args meth c cc nL ret own D kA A) {x y : Int32} (hw : Mx own idx Lib.Math.max.name Lib.Math.max.code 2) (hfr : 1 ≤ R.frames) (hlo : (st.map fun v => v.category).sum + 13 ≤ R.locals) (hk : k ≤ R.cells) (hn : n ≤ R.slots) (hd : decode cc pc = .ok (.invokestatic idx, 3)) (hpc : pc + 3 = pc')
    (kk : V p l e R s m args below meth c nL A Q H k n pc' ls (.int (if x < y then y else x) :: st)) : V p l e R s m args below meth c nL A Q H k n pc ls (.int y :: .int x :: st) := by
  subst hpc
  exact fun lsA locs hl hS => va_mmax X.1.1 X.1.2.1 (X.1.2.2.1.trans hl.1.symm) X.1.2.2.2.1 (X.1.2.2.2.2 _ hw.1) (X.1.2.2.2.2 _ hw.2.1) (X.1.2.2.2.2 _ hw.2.2.1) (X.1.2.2.2.2 _ hw.2.2.2) hfr hlo hk hn hd (kk lsA locs hl hS)
theorem V_mmin (X : Kx p s m args meth c cc nL ret own D kA A) {x y : Int32} (hw : Mx own idx Lib.Math.min.name Lib.Math.min.code 2) (hfr : 1 ≤ R.frames) (hlo : (st.map fun v => v.category).sum + 13 ≤ R.locals) (hk : k ≤ R.cells) (hn : n ≤ R.slots) (hd : decode cc pc = .ok (.invokestatic idx, 3)) (hpc : pc + 3 = pc')
    (kk : V p l e R s m args below meth c nL A Q H k n pc' ls (.int (if y < x then y else x) :: st)) : V p l e R s m args below meth c nL A Q H k n pc ls (.int y :: .int x :: st) := by
  subst hpc
  exact fun lsA locs hl hS => va_mmin X.1.1 X.1.2.1 (X.1.2.2.1.trans hl.1.symm) X.1.2.2.2.1 (X.1.2.2.2.2 _ hw.1) (X.1.2.2.2.2 _ hw.2.1) (X.1.2.2.2.2 _ hw.2.2.1) (X.1.2.2.2.2 _ hw.2.2.2) hfr hlo hk hn hd (kk lsA locs hl hS)
theorem V_mabs (X : Kx p s m args meth c cc nL ret own D kA A) {x : Int32} (hw : Mx own idx Lib.Math.abs.name Lib.Math.abs.code 1) (hfr : 1 ≤ R.frames) (hlo : (st.map fun v => v.category).sum + 13 ≤ R.locals) (hk : k ≤ R.cells) (hn : n ≤ R.slots) (hd : decode cc pc = .ok (.invokestatic idx, 3)) (hpc : pc + 3 = pc')
    (kk : V p l e R s m args below meth c nL A Q H k n pc' ls (.int (if 0 ≤ x then x else 0 - x) :: st)) : V p l e R s m args below meth c nL A Q H k n pc ls (.int x :: st) := by
  subst hpc
  exact fun lsA locs hl hS => va_mabs X.1.1 X.1.2.1 (X.1.2.2.1.trans hl.1.symm) X.1.2.2.2.1 (X.1.2.2.2.2 _ hw.1) (X.1.2.2.2.2 _ hw.2.1) (X.1.2.2.2.2 _ hw.2.2.1) (X.1.2.2.2.2 _ hw.2.2.2) hfr hlo hk hn hd (kk lsA locs hl hS)
theorem V_objInit (X : Kx p s m args meth c cc nL ret own D kA A) {a : Nat} (hw : Ox own idx) (hd : decode cc pc = .ok (.invokespecial idx, 3)) (hpc : pc + 3 = pc') (hfr : 1 ≤ R.frames) (hlo : (st.map fun v => v.category).sum + 12 ≤ R.locals) (_ : k ≤ R.cells) (_ : n ≤ R.slots)
    (kk : V p l e R s m args below meth c nL A Q H k n pc' ls st) : V p l e R s m args below meth c nL A Q H k n pc ls (.ref a :: st) := by
  subst hpc
  exact fun lsA locs hl hS => W.objInit X.1.1 X.1.2.1 X.1.2.2.2.1 (X.1.2.2.2.2 _ hw.1) (X.1.2.2.2.2 _ hw.2.1) (X.1.2.2.2.2 _ hw.2.2) rfl (hl.1.trans X.1.2.2.1.symm) rfl hd hfr (by show 2 * 0 + _ + 12 ≤ _; omega) (kk lsA locs hl hS)
theorem V_dconst0 (X : Kx p s m args meth c cc nL ret own D kA A) (hd : decode cc pc = .ok (.dconst 0, 1)) (hpc : pc + 1 = pc') (kk : V p l e R s m args below meth c nL A Q H k n pc' ls (.double FP.dconst0 :: st)) : V p l e R s m args below meth c nL A Q H k n pc ls st := by
  subst hpc
  exact fun lsA locs hl hS => lv_dconst0 X.1.1 X.1.2.1 hd (kk lsA locs hl hS)
theorem V_dconst1 (X : Kx p s m args meth c cc nL ret own D kA A) (hd : decode cc pc = .ok (.dconst 1, 1)) (hpc : pc + 1 = pc') (kk : V p l e R s m args below meth c nL A Q H k n pc' ls (.double FP.dconst1 :: st)) : V p l e R s m args below meth c nL A Q H k n pc ls st := by
  subst hpc
  exact fun lsA locs hl hS => lv_dconst1 X.1.1 X.1.2.1 hd (kk lsA locs hl hS)
theorem V_fconst0 (X : Kx p s m args meth c cc nL ret own D kA A) (hd : decode cc pc = .ok (.fconst 0, 1)) (hpc : pc + 1 = pc') (kk : V p l e R s m args below meth c nL A Q H k n pc' ls (.float FP.fconst0 :: st)) : V p l e R s m args below meth c nL A Q H k n pc ls st := by
  subst hpc
  exact fun lsA locs hl hS => lv_fconst0 X.1.1 X.1.2.1 hd (kk lsA locs hl hS)
theorem V_fconst1 (X : Kx p s m args meth c cc nL ret own D kA A) (hd : decode cc pc = .ok (.fconst 1, 1)) (hpc : pc + 1 = pc') (kk : V p l e R s m args below meth c nL A Q H k n pc' ls (.float FP.fconst1 :: st)) : V p l e R s m args below meth c nL A Q H k n pc ls st := by
  subst hpc
  exact fun lsA locs hl hS => lv_fconst1 X.1.1 X.1.2.1 hd (kk lsA locs hl hS)
theorem V_fconst2 (X : Kx p s m args meth c cc nL ret own D kA A) (hd : decode cc pc = .ok (.fconst 2, 1)) (hpc : pc + 1 = pc') (kk : V p l e R s m args below meth c nL A Q H k n pc' ls (.float FP.fconst2 :: st)) : V p l e R s m args below meth c nL A Q H k n pc ls st := by
  subst hpc
  exact fun lsA locs hl hS => lv_fconst2 X.1.1 X.1.2.1 hd (kk lsA locs hl hS)
theorem V_xI (Y : Ky p s m args meth c cc nL ret own D kA A) {P : Int32 → Heap → Prop} (hr : RnX p l e R s m args below meth c nL H k n pc ls st mc ms rest A1 (pI P) PX) (hA : ∀ q, A1 q → A q) (hpc : pc + 3 = pc')
    (kx : ∀ (E : String) (H1 : Heap), PX E H1 → off A1 H H1 → VX p l e R s m args below meth c nL A Q H1 (k + mc) (n + ms) pc ls E)
    (kk : ∀ (v : Int32) (H1 : Heap), P v H1 → off A1 H H1 → V p l e R s m args below meth c nL A Q H1 (k + mc) (n + ms) pc' ls (.int v :: rest)) : V p l e R s m args below meth c nL A Q H k n pc ls st :=
  V_x Y hr hA hpc kx fun v H1 hq ho => by obtain ⟨r, rfl, h⟩ := hq; exact kk r H1 h ho
theorem V_xL (Y : Ky p s m args meth c cc nL ret own D kA A) {P : Int64 → Heap → Prop} (hr : RnX p l e R s m args below meth c nL H k n pc ls st mc ms rest A1 (pL P) PX) (hA : ∀ q, A1 q → A q) (hpc : pc + 3 = pc')
    (kx : ∀ (E : String) (H1 : Heap), PX E H1 → off A1 H H1 → VX p l e R s m args below meth c nL A Q H1 (k + mc) (n + ms) pc ls E)
    (kk : ∀ (v : Int64) (H1 : Heap), P v H1 → off A1 H H1 → V p l e R s m args below meth c nL A Q H1 (k + mc) (n + ms) pc' ls (.long v :: rest)) : V p l e R s m args below meth c nL A Q H k n pc ls st :=
  V_x Y hr hA hpc kx fun v H1 hq ho => by obtain ⟨r, rfl, h⟩ := hq; exact kk r H1 h ho
theorem V_xD (Y : Ky p s m args meth c cc nL ret own D kA A) {P : UInt64 → Heap → Prop} (hr : RnX p l e R s m args below meth c nL H k n pc ls st mc ms rest A1 (pD P) PX) (hA : ∀ q, A1 q → A q) (hpc : pc + 3 = pc')
    (kx : ∀ (E : String) (H1 : Heap), PX E H1 → off A1 H H1 → VX p l e R s m args below meth c nL A Q H1 (k + mc) (n + ms) pc ls E)
    (kk : ∀ (v : UInt64) (H1 : Heap), P v H1 → off A1 H H1 → V p l e R s m args below meth c nL A Q H1 (k + mc) (n + ms) pc' ls (.double v :: rest)) : V p l e R s m args below meth c nL A Q H k n pc ls st :=
  V_x Y hr hA hpc kx fun v H1 hq ho => by obtain ⟨r, rfl, h⟩ := hq; exact kk r H1 h ho
theorem V_xF (Y : Ky p s m args meth c cc nL ret own D kA A) {P : UInt32 → Heap → Prop} (hr : RnX p l e R s m args below meth c nL H k n pc ls st mc ms rest A1 (pF P) PX) (hA : ∀ q, A1 q → A q) (hpc : pc + 3 = pc')
    (kx : ∀ (E : String) (H1 : Heap), PX E H1 → off A1 H H1 → VX p l e R s m args below meth c nL A Q H1 (k + mc) (n + ms) pc ls E)
    (kk : ∀ (v : UInt32) (H1 : Heap), P v H1 → off A1 H H1 → V p l e R s m args below meth c nL A Q H1 (k + mc) (n + ms) pc' ls (.float v :: rest)) : V p l e R s m args below meth c nL A Q H k n pc ls st :=
  V_x Y hr hA hpc kx fun v H1 hq ho => by obtain ⟨r, rfl, h⟩ := hq; exact kk r H1 h ho
theorem V_xV (Y : Ky p s m args meth c cc nL ret own D kA A) {P : Heap → Prop} (hr : RnX p l e R s m args below meth c nL H k n pc ls st mc ms rest A1 (pV P) PX) (hA : ∀ q, A1 q → A q) (hpc : pc + 3 = pc')
    (kx : ∀ (E : String) (H1 : Heap), PX E H1 → off A1 H H1 → VX p l e R s m args below meth c nL A Q H1 (k + mc) (n + ms) pc ls E)
    (kk : ∀ (H1 : Heap), P H1 → off A1 H H1 → V p l e R s m args below meth c nL A Q H1 (k + mc) (n + ms) pc' ls rest) : V p l e R s m args below meth c nL A Q H k n pc ls st :=
  V_x Y hr hA hpc kx fun v H1 hq ho => by obtain ⟨rfl, h⟩ := hq; exact kk H1 h ho
end VM
