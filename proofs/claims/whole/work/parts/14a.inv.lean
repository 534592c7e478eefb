/-! What holds at the law's loop. -/
theorem lg_self (x : Int64) : lg_cmp x x = 0 := by
  unfold lg_cmp
  simp
theorem Ag.at {D : va_G} {Hs H : Heap} {b : Nat} {e : va_E} (h : Ag Hs H) (hb : hp D Hs b e) : hp D H b e := va_at.kept hb (h.2 b hb.lt)
/-- all but the relation -/
def Co (D : va_G) (kA : Nat → ClassId) (Hs : Heap) (a : Nat) (H : Heap) (W : Nat → MS) (π : Nat → Nat) (ES : Nat → Prop) (u : Nat) (hs ep fc : Int32) (no : Nat) (go : Nat → Int32) (vs cs ns : Nat) (gs F s b v p uu tt cc : Nat → Int32) : Prop :=
  Fs D kA H a W π ES u hs ep fc no go vs cs ns gs ∧ Rs D kA H (a + 329) F s b v p uu tt cc ∧ (∃ w, hp D H (a + 337) (eL kA 1 w)) ∧ (∃ w, hp D H (a + 338) (eD kA 1 w)) ∧ Ag Hs H ∧ Hs.size ≤ a ∧ (∀ q, ES q → a + 339 ≤ q) ∧ (vs = a + 324 ∨ a + 339 ≤ vs)
def Inv (D : va_G) (kA : Nat → ClassId) (Hs : Heap) (a : Nat) (H : Heap) (q : Nat) : Prop :=
  ∃ W π ES u hs ep fc no go vs cs ns gs F s b v p uu tt cc n t, Co D kA Hs a H W π ES u hs ep fc no go vs cs ns gs F s b v p uu tt cc ∧ Gp W π u hs ep fc no go ns gs F s v p uu tt n t q
section COS
variable {D : va_G} {kA : Nat → ClassId} {Hs H H1 : Heap} {a : Nat} {W W1 : Nat → MS} {π π1 : Nat → Nat} {ES ES1 A : Nat → Prop} {u u1 : Nat} {hs ep fc hs1 ep1 fc1 : Int32} {no no1 : Nat} {go go1 : Nat → Int32} {vs cs ns vs1 cs1 ns1 : Nat} {gs gs1 F s b v p uu tt cc F1 s1 b1 v1 p1 uu1 tt1 cc1 : Nat → Int32}
/-- the answer's cell has changed -/
theorem Co.out (h : Co D kA Hs a H W π ES u hs ep fc no go vs cs ns gs F s b v p uu tt cc) (o : off (fun q => q = a + 337) H H1) (ho : ∃ w, hp D H1 (a + 337) (eL kA 1 w)) : Co D kA Hs a H1 W π ES u hs ep fc no go vs cs ns gs F s b v p uu tt cc := by
  obtain ⟨h1, h2, h3, ⟨w4, h4⟩, h5, h6, h7, h8⟩ := h
  refine ⟨h1.kept o (fun q z e => ?_) (fun e => ?_) (fun q z e => ?_), h2.keep o (fun q z e => ?_), ho, ⟨w4, h4.off o (fun e => ?_)⟩, h5.keep o (fun q e => ?_), h6, h7, h8⟩
  · have e : q = a + 337 := e; have := z.2; omega
  · have e : vs = a + 337 := e; omega
  · have e : q = a + 337 := e; have := h7 q z; omega
  · have e : q = a + 337 := e; have := z.2; omega
  · have e : a + 338 = a + 337 := e; omega
  · have e : q = a + 337 := e; omega
/-- the reference has changed -/
theorem Co.mod (h : Co D kA Hs a H W π ES u hs ep fc no go vs cs ns gs F s b v p uu tt cc) (o : off (blk (a + 329) 8) H H1) (hR : Rs D kA H1 (a + 329) F1 s1 b1 v1 p1 uu1 tt1 cc1) : Co D kA Hs a H1 W π ES u hs ep fc no go vs cs ns gs F1 s1 b1 v1 p1 uu1 tt1 cc1 := by
  obtain ⟨h1, h2, ⟨w3, h3⟩, ⟨w4, h4⟩, h5, h6, h7, h8⟩ := h
  refine ⟨h1.kept o (fun q z e => ?_) (fun e => ?_) (fun q z e => ?_), hR, ⟨w3, h3.off o (fun e => ?_)⟩, ⟨w4, h4.off o (fun e => ?_)⟩, h5.keep o (fun q e => ?_), h6, h7, h8⟩
  · have := z.2; have := e.1; omega
  · have := e.1; have := e.2; omega
  · have := h7 q z; have := e.2; omega
  · have := e.2; omega
  · have := e.2; omega
  · have := e.1; omega
/-- the class has changed, and the answer's cell -/
theorem Co.cls (h : Co D kA Hs a H W π ES u hs ep fc no go vs cs ns gs F s b v p uu tt cc) (o : off A H H1) (hA : ∀ q, A q → blk a 329 q ∨ q = vs ∨ q = a + 337) (hF : Fs D kA H1 a W1 π1 ES1 u1 hs1 ep1 fc1 no1 go1 vs1 cs1 ns1 gs1) (ho : ∃ w, hp D H1 (a + 337) (eL kA 1 w)) (h7' : ∀ q, ES1 q → a + 339 ≤ q) (h8' : vs1 = a + 324 ∨ a + 339 ≤ vs1) : Co D kA Hs a H1 W1 π1 ES1 u1 hs1 ep1 fc1 no1 go1 vs1 cs1 ns1 gs1 F s b v p uu tt cc := by
  obtain ⟨h1, h2, h3, ⟨w4, h4⟩, h5, h6, h7, h8⟩ := h
  refine ⟨hF, h2.keep o (fun q z e => ?_), ho, ⟨w4, h4.off o (fun e => ?_)⟩, h5.keep o (fun q e => ?_), h6, h7', h8'⟩
  · rcases hA q e with g | g | g
    · have := z.1; have := g.2; omega
    · have := z.1; have := z.2; omega
    · have := z.2; omega
  · rcases hA _ e with g | g | g
    · have := g.2; omega
    · omega
    · omega
  · rcases hA q e with g | g | g
    · have := g.1; omega
    · omega
    · omega
theorem Co.size (h : Co D kA Hs a H W π ES u hs ep fc no go vs cs ns gs F s b v p uu tt cc) : a + 339 ≤ H.size := by
  obtain ⟨-, -, -, ⟨w4, h4⟩, -⟩ := h
  exact h4.lt
theorem Co.gro {H0 : Heap} (h : Co D kA Hs a H0 W π ES u hs ep fc no go vs cs ns gs F s b v p uu tt cc) : ∀ q, gro ES H0 H1 q → a + 339 ≤ q := fun q z => z.elim (h.2.2.2.2.2.2.1 q) (fun y => Nat.le_trans h.size y.1)
end COS
section VSC
variable {p : Program} {l : Launch} {e : Env} {R : Room} {s : State} {m : MethodId} {args : Array Value} {below : List Frame} {meth : Method} {c : Code} {nL : Nat} {A : Nat → Prop} {Q : State → Prop} {H : Heap} {k n pc pc' : Nat} {ls : List (Nat × Value)} {st : List Value}
variable {cc : ByteArray} {own : String} {D : va_G} {kA : Nat → ClassId} {ret : Option FieldType}
theorem V_sld (X : Kx p s m args meth c cc nL ret own D kA A) {a N : Nat} {f : Nat → Int32} {i v : Int32} (h : va_X a N f s s.heap ∧ a < s.heap.size ∧ ¬ A a) (hin : vp_in i N) (hv : f i.toNatClampNeg = v) (hd : decode cc pc = .ok (.iaload, 1)) (hpc : pc + 1 = pc') (kk : V p l e R s m args below meth c nL A Q H k n pc' ls (.int v :: st)) : V p l e R s m args below meth c nL A Q H k n pc ls (.int i :: .ref a :: st) := by
  subst hpc hv
  exact fun lsA locs hl hS => va_sld X.1.1 X.1.2.1 h.1 h.2.1 h.2.2 hS hin hd (kk lsA locs hl hS)
theorem V_slen (X : Kx p s m args meth c cc nL ret own D kA A) {a N : Nat} {f : Nat → Int32} (h : va_X a N f s s.heap ∧ a < s.heap.size ∧ ¬ A a) (hd : decode cc pc = .ok (.arraylength, 1)) (hpc : pc + 1 = pc') (kk : V p l e R s m args below meth c nL A Q H k n pc' ls (.int (nI N) :: st)) : V p l e R s m args below meth c nL A Q H k n pc ls (.ref a :: st) := by
  subst hpc
  exact fun lsA locs hl hS => va_slen X.1.1 X.1.2.1 h.1 h.2.1 h.2.2 hS hd (kk lsA locs hl hS)
end VSC
