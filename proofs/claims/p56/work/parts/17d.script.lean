/-! The drawn array: methods that read it. -/
abbrev qPreA (D : va_G) (kA : Nat → ClassId) (Hs : Heap) (σ : SG) (sa N : Nat) (f : Nat → Int32) (H0 : Heap) (av : List Value) : Array Value → State → Prop := fun a U => a = av.toArray ∧ U.heap = H0 ∧ KW D kA Hs σ U ∧ va_X sa N f U Hs
def CtA (l : Launch) (D : va_G) (kA : Nat → ClassId) (Hs : Heap) (σ : SG) (sa N : Nat) (f : Nat → Int32) (y : MethodName) (cc : ByteArray) (mL : Nat) (ret : Option FieldType) (fr lc mc ms : Nat) (H0 : Heap) (av : List Value) (A : Nat → Prop) (Post : Option Value → Heap → Prop) : Prop :=
  Met l y (.code y cc mL ret :: T0) (rmO fr lc mc ms) (qPreA D kA Hs σ sa N f H0 av) (qPost H0 A Post) mc ms (AA H0 A)
theorem qPreA.blind {D : va_G} {kA : Nat → ClassId} {Hs : Heap} {σ : SG} {sa N : Nat} {f : Nat → Int32} {H0 : Heap} {av : List Value} : FrameBlind (qPreA D kA Hs σ sa N f H0 av) := fun a U g mk h => ⟨h.1, h.2.1, KW.go (s := U) (U := U.calling g mk a) (State.WarmedH.refl U) h.2.2.1, va_X.moved (u := U) (U := U.calling g mk a) (Vm.Alike.refl U.vm) h.2.2.2⟩
section VSC
variable {p : Program} {l : Launch} {e : Env} {R : Room} {s : State} {m : MethodId} {args : Array Value} {below : List Frame} {meth : Method} {c : Code} {nL : Nat} {A A1 : Nat → Prop} {Q : State → Prop} {H : Heap} {k n pc pc' : Nat} {ls : List (Nat × Value)} {st rest : List Value}
variable {cc : ByteArray} {own : String} {D : va_G} {kA : Nat → ClassId} {ret : Option FieldType} {Hs : Heap} {σ : SG}
variable {y : MethodName} {bytes : ByteArray} {mL : Nat} {rt : Option FieldType} {fr lc mc ms nn idx : Nat} {av : List Value} {Post : Option Value → Heap → Prop} {sa N : Nat} {f : Nat → Int32}
theorem V_sld (X : Kx p s m args meth c cc nL ret own D kA A) {a N : Nat} {f : Nat → Int32} {i v : Int32} (h : va_X a N f s s.heap ∧ a < s.heap.size ∧ ¬ A a) (hin : vp_in i N) (hv : f i.toNatClampNeg = v) (hd : decode cc pc = .ok (.iaload, 1)) (hpc : pc + 1 = pc') (kk : V p l e R s m args below meth c nL A Q H k n pc' ls (.int v :: st)) : V p l e R s m args below meth c nL A Q H k n pc ls (.int i :: .ref a :: st) := by
  subst hpc hv
  exact fun lsA locs hl hS => va_sld X.1.1 X.1.2.1 h.1 h.2.1 h.2.2 hS hin hd (kk lsA locs hl hS)
theorem V_slen (X : Kx p s m args meth c cc nL ret own D kA A) {a N : Nat} {f : Nat → Int32} (h : va_X a N f s s.heap ∧ a < s.heap.size ∧ ¬ A a) (hd : decode cc pc = .ok (.arraylength, 1)) (hpc : pc + 1 = pc') (kk : V p l e R s m args below meth c nL A Q H k n pc' ls (.int (nI N) :: st)) : V p l e R s m args below meth c nL A Q H k n pc ls (.ref a :: st) := by
  subst hpc
  exact fun lsA locs hl hS => va_slen X.1.1 X.1.2.1 h.1 h.2.1 h.2.2 hS hd (kk lsA locs hl hS)
theorem CtA.of {H0 : Heap} {ls0 : List (Nat × Value)} (hM : Mi y bytes mL rt nn) (hlen : (lg_sl av).length ≤ mL) (hls : lv_args 0 av = ls0)
    (hg : Ag Hs H0) (hA0 : ∀ q, A q → Hs.size ≤ q)
    (body : ∀ (p : Program) (e : Env) (s : State) (m : MethodId) (args : Array Value) (below : List Frame) (meth : Method) (c : Code), Ys p s m args meth c bytes mL rt y.cls D kA (AA H0 A) Hs σ → s.heap = H0 → va_X sa N f s Hs → (va_X sa N f s s.heap ∧ sa < s.heap.size ∧ ¬ AA H0 A sa) → V p l e (rmO fr lc mc ms) s m args below meth c mL (AA H0 A) (QC below args s mc ms H0 A Post) H0 0 0 0 ls0 []) :
    CtA l D kA Hs σ sa N f y bytes mL rt fr lc mc ms H0 av A Post := by
  refine Met.ofWF (cc := bytes) (maxL := mL) (ret := rt) hM.2.2.1 rfl ?_
  intro p e s m args below meth c s₁ B hml hP
  obtain ⟨rfl, hh, hK, hX⟩ := hP
  have hlt : sa < Hs.size := by
    obtain ⟨scr, h1, -⟩ := hX
    exact (Array.getElem?_eq_some_iff.mp h1).1
  have hts : ∀ w ∈ T0, w.before av.toArray s = true := fun w hw => atoms_spec (ws := .code y bytes mL rt :: T0) B.pre w (List.mem_cons_of_mem _ hw)
  have hown : s.vm.findClass y.cls = some m.cls := findClass_of_methodNamed B.named
  have h := body p e s m av.toArray below meth c ⟨⟨⟨⟨B.exec, B.bytes, hml, hown, hts⟩, hK.1.1, fun q hq => Or.inr (by rw [← hh]; exact hq), B.notSynchronized, B.returns⟩, hK.1.2⟩, hK.2.1, hK.2.2, hK.2.2.go (Vm.Alike.refl _) (fun a ha _ => by rw [hh]; exact hg.2 a ha) (fun q hq => hq.elim (hA0 q) (fun z => Nat.le_trans hg.1 z))⟩ hh hX
    ⟨hX.kept (by rw [hh]; exact hg.2 sa hlt), by rw [hh]; exact Nat.lt_of_lt_of_le hlt hg.1, fun z => z.elim (fun z => absurd (hA0 sa z) (Nat.not_le.mpr hlt)) (fun z => absurd (Nat.le_trans hg.1 z) (Nat.not_le.mpr hlt))⟩
  rw [lg_entry_eq]
  have hl := lv_entry av hlen
  rw [hls] at hl
  have h9 := h _ [] hl (by rw [hh]; exact va_S.rf)
  rw [hh]
  exact h9
theorem sA (Z : Ys p s m args meth c cc nL ret own D kA A Hs σ) (hX : va_X sa N f s Hs) (hC : CtA l D kA Hs σ sa N f y bytes mL rt fr lc mc ms H av A1 Post) (hM : Mi y bytes mL rt nn) (hs : Si own idx y) (hst : st = av.reverse ++ rest) (hn : av.length = nn) (hcat : (rest.map fun v => v.category).sum ≤ 8) (hR : fr + 1 ≤ R.frames ∧ 8 + (mL + 11) + lc ≤ R.locals) (hk : k + mc ≤ R.cells) (hn2 : n + ms ≤ R.slots) (hd : decode cc pc = .ok (.invokestatic idx, 3)) :
    Rn p l e R s m args below meth c nL H k n pc ls st mc ms rest A1 Post := fun lsA locs hl =>
  ⟨_, va_runS Z.1.1.1 hC ⟨room_c Z.1.1 hM hs.1 hR, Z.1.1.1.2.2.2.2 _ hs.2⟩ ⟨qPreA.blind, fun U hU hW => ⟨rfl, hU, KW.go hW Z.ks, va_X.moved hW.alike hX⟩⟩ rfl hn hl.1 hst (lv_room hcat) hd ⟨hk, hn2⟩⟩
end VSC
theorem ush1 (x : Int32) : ∃ d, d < 2 ^ 31 ∧ (x.toUInt32 >>> ((1 : Int32).toUInt32 &&& Int32.toUInt32 31)).toInt32 = nI d := by
  have h := pk_ushr x 1 1 (by decide)
  have hl := x.toBitVec.isLt
  refine ⟨x.toBitVec.toNat / 2, by omega, ?_⟩
  apply Int32.toBitVec_inj.mp
  apply BitVec.eq_of_toNat_eq
  rw [h, pk_tn (by omega)]
