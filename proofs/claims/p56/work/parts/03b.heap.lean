/-! Heap rows of V: fields, arrays, new. -/
/-- a field's static facts: own class, pool index, class number, place -/
def Fi (own : String) (idx ci kf : Nat) (C : String) (T : u_T) (N : Nat) : Prop := vwCl[ci]? = some (C, T, N) ∧ (∀ w ∈ u_ws C T N, w ∈ T0) ∧ kf < N ∧ Cond.fieldLink own idx (T kf).1 (T kf).2.1 (T kf).2.2.1 ∈ T0
/-- a class's facts for its stores -/
def Fw (C : String) (T : u_T) (N : Nat) (ty0 : Nat → FieldType) : Prop := (∀ k, k < N → parseFieldDescriptor (T k).2.2.1 = some (ty0 k)) ∧ ∀ a, a < N → ∀ b, b < N → a ≠ b → (T a).2.1 ≠ (T b).2.1
theorem upd_arr_i (cA : ClassId) (n j : Nat) (f : Nat → Int32) (x : Int32) : (vp_cell cA (n, .inl f)).setSlot j (.int x) = vp_cell cA (n, .inl (upd f j x)) := by
  rw [vp_cell_i, vp_cell_i, arrV_store]
  congr 1
  funext q
  by_cases hq : q = j <;> simp [updV, upd, hq]
theorem upd_arr_l (cA : ClassId) (n j : Nat) (f : Nat → Int64) (x : Int64) : (vp_cell cA (n, .inr (.inl f))).setSlot j (.long x) = vp_cell cA (n, .inr (.inl (vp_updL f j x))) := by
  rw [vp_cell_l, vp_cell_l, arrV_store]
  congr 1
  funext q
  by_cases hq : q = j <;> simp [updV, vp_updL, hq]
theorem upd_arr_q (cA : ClassId) (n j : Nat) (f : Nat → Option Nat) (x : Nat) : (vp_cell cA (n, .inr (.inr (.inr (.inr f))))).setSlot j (.ref x) = vp_cell cA (n, .inr (.inr (.inr (.inr (va_up f j (some x)))))) := by
  rw [vp_cell_q, vp_cell_q, arrV_store]
  congr 1
  funext q
  by_cases hq : q = j <;> simp [updV, va_up, va_rf, hq]
theorem vin_lt {i : Int32} {n : Nat} (h : vp_in i n) : i.toNatClampNeg < n := Nat.not_le.mp fun q => h (Or.inr q)
theorem hp.one {D : va_G} {H : Heap} {a : Nat} {e : va_E} (h : hp D H a e) : va_P D vwCl [(a, e)] H := by
  intro k q hk
  cases k with
  | zero => cases Option.some.inj hk; exact h
  | succ k => cases hk
section VH
variable {p : Program} {l : Launch} {e : Env} {R : Room} {s : State} {m : MethodId} {args : Array Value} {below : List Frame} {meth : Method} {c : Code} {nL : Nat} {A : Nat → Prop} {Q : State → Prop} {H : Heap} {k n pc pc' : Nat} {ls ls' : List (Nat × Value)} {st : List Value}
variable {cc : ByteArray} {own : String} {D : va_G} {kA : Nat → ClassId} {ret : Option FieldType}
theorem V_get (X : Kx p s m args meth c cc nL ret own D kA A) {idx ci kf : Nat} {C : String} {T : u_T} {N a : Nat} {fs : List Value} {v : Value} (hF : Fi own idx ci kf C T N) (h : hp D H a (.inr (ci, fs))) (hv : fs[kf]? = some v) (hd : decode cc pc = .ok (.getfield idx, 3)) (hpc : pc + 3 = pc')
    (kk : V p l e R s m args below meth c nL A Q H k n pc' ls (v :: st)) : V p l e R s m args below meth c nL A Q H k n pc ls (.ref a :: st) := by
  subst hpc
  obtain ⟨hc, hin, hk, hl⟩ := hF
  obtain ⟨r, h1, cell, q1, q2, q3, q4⟩ := h
  have hr : r = (C, T, N) := Option.some.inj (h1.symm.trans hc)
  subst hr
  obtain ⟨hS9, hfc, kC, hkC, hkind⟩ := X.2.1.1 ci _ hc
  obtain ⟨cf, kf9, fi, f, hi, hsl⟩ := hS9 kf hk
  intro lsA locs hl9 hS
  refine W.getf X.1.1 X.1.2.1 X.1.2.2.2.1 (X.1.2.2.2.2 _ hl) hi (u_facts hfc hkC (u_lays X.1.2.2.2.2 hin hk) hi).1 q1 (by rw [q3]; exact fun h => by cases h) (v := v) ?_ rfl rfl hd (kk lsA locs hl9 hS)
  rw [hsl, q4 kf hk]
  simp [vp_V, hv]
theorem V_put (X : Kx p s m args meth c cc nL ret own D kA A) {idx ci kf : Nat} {C : String} {T : u_T} {N a : Nat} {fs : List Value} {ty0 : Nat → FieldType} {ty : FieldType} {v : Value} (hF : Fi own idx ci kf C T N) (hw : Fw C T N ty0) (hfin : (T kf).2.2.2 = false) (hty : ty0 kf = ty) (h : hp D H a (.inr (ci, fs))) (hA : A a) (hn : narrow ty v = v) (hfit : fits ty v = true) (hlen : kf < fs.length) (hd : decode cc pc = .ok (.putfield idx, 3)) (hpc : pc + 3 = pc')
    (kk : ∀ H1 : Heap, hp D H1 a (.inr (ci, fs.set kf v)) → sto a H H1 → V p l e R s m args below meth c nL A Q H1 k n pc' ls st) : V p l e R s m args below meth c nL A Q H k n pc ls (v :: .ref a :: st) := by
  subst hpc
  subst hty
  obtain ⟨hc, hin, hk, hl⟩ := hF
  have hap := va_apart (own := own) X.1.2.2.2.2 hin ty0 hw.1 hw.2 X.2.1 hc
  obtain ⟨r, h1, cell, q1, q2, q3, q4⟩ := h
  have hr : r = (C, T, N) := Option.some.inj (h1.symm.trans hc)
  subst hr
  obtain ⟨hS9, hfc, kC, hkC, hkind⟩ := X.2.1.1 ci _ hc
  obtain ⟨cf, kf9, fi, f, hi, hsl⟩ := hS9 kf hk
  have hlay := X.1.2.2.2.2 _ (hin _ (u_in_lay hk))
  unfold u_lay at hlay
  rw [if_neg (by rw [hfin]; decide)] at hlay
  have hst := (u_facts hfc hkC (u_lays X.1.2.2.2.2 hin hk) hi).1
  have h6 := u_store hfc hkC hkind hlay hi (hw.1 kf hk) hn hfit
  intro lsA locs hl9 hS
  refine W.putK X.1.1 X.1.2.1 (f := f) ⟨X.1.2.2.2.1, X.1.2.2.2.2 _ hl, ⟨_, _, _, hi⟩, hst⟩ (by rw [q2]; exact h6) q1 q3 (by rw [hsl]; exact k2_hasslot (q4 kf hk)) rfl rfl hd fun H' e1 e2 e3 => ?_
  rw [hsl] at e1 ⊢
  exact kk H' ⟨_, hc, t_OB.to (V := updV (vp_V fs) kf v) ⟨_, e1, q2, q3, t_set q4 hap hk v⟩ (fun j _ => vp_updV_set hlen v j)⟩ ⟨e2, e3⟩ lsA _ hl9 (hS.put e2 e3 hA)
theorem V_putF (X : Kx p s m args meth c cc nL ret own D kA A) {idx ci kf : Nat} {C : String} {T : u_T} {N a : Nat} {fs : List Value} {ty0 : Nat → FieldType} {ty : FieldType} {v : Value} (hF : Fi own idx ci kf C T N) (hw : Fw C T N ty0) (hfin : (T kf).2.2.2 = true) (hin2 : meth.name = "<init>") (hdecl : (T kf).1 = own) (hty : ty0 kf = ty) (h : hp D H a (.inr (ci, fs))) (hA : A a) (hn : narrow ty v = v) (hfit : fits ty v = true) (hlen : kf < fs.length) (hd : decode cc pc = .ok (.putfield idx, 3)) (hpc : pc + 3 = pc')
    (kk : ∀ H1 : Heap, hp D H1 a (.inr (ci, fs.set kf v)) → sto a H H1 → V p l e R s m args below meth c nL A Q H1 k n pc' ls st) : V p l e R s m args below meth c nL A Q H k n pc ls (v :: .ref a :: st) := by
  subst hpc
  subst hty
  obtain ⟨hc, hin, hk, hl⟩ := hF
  have hap := va_apart (own := own) X.1.2.2.2.2 hin ty0 hw.1 hw.2 X.2.1 hc
  obtain ⟨r, h1, cell, q1, q2, q3, q4⟩ := h
  have hr : r = (C, T, N) := Option.some.inj (h1.symm.trans hc)
  subst hr
  obtain ⟨hS9, hfc, kC, hkC, hkind⟩ := X.2.1.1 ci _ hc
  obtain ⟨cf, kf9, fi, f, hi, hsl⟩ := hS9 kf hk
  have hlay := X.1.2.2.2.2 _ (hin _ (u_in_lay hk))
  unfold u_lay at hlay
  rw [if_pos hfin] at hlay
  have hst := (u_facts hfc hkC (u_lays X.1.2.2.2.2 hin hk) hi).1
  have hcf : m.cls = cf := by
    obtain ⟨_, _, c', _, _, _, -, -, hf', -, -, -, hown2, -⟩ := Cond.laysFinal_spec hlay
    have e1 : c' = cf := by have := hi.symm.trans hf'; simp at this; exact this.1.symm
    rw [hdecl] at hown2
    rw [← e1]; exact Option.some.inj (X.1.2.2.2.1.symm.trans hown2)
  have h6 := u_fits hfc hkC hkind (Or.inr hlay) hi (hw.1 kf hk) hn hfit
  intro lsA locs hl9 hS
  refine W.putFinK X.1.1 X.1.2.1 X.1.2.2.2.1 (X.1.2.2.2.2 _ hl) hi hst hcf hin2 (by rw [q2]; exact h6) q1 q3 (by rw [hsl]; exact k2_hasslot (q4 kf hk)) rfl rfl hd fun H' e1 e2 e3 => ?_
  rw [hsl] at e1 ⊢
  exact kk H' ⟨_, hc, t_OB.to (V := updV (vp_V fs) kf v) ⟨_, e1, q2, q3, t_set q4 hap hk v⟩ (fun j _ => vp_updV_set hlen v j)⟩ ⟨e2, e3⟩ lsA _ hl9 (hS.put e2 e3 hA)
theorem V_iald (X : Kx p s m args meth c cc nL ret own D kA A) {a N : Nat} {f : Nat → Int32} {i : Int32} {v : Int32} (h : hp D H a (.inl (kA 0, N, .inl f))) (hin : vp_in i N) (hv : f i.toNatClampNeg = v) (hd : decode cc pc = .ok (.iaload, 1)) (hpc : pc + 1 = pc') (kk : V p l e R s m args below meth c nL A Q H k n pc' ls (.int v :: st)) : V p l e R s m args below meth c nL A Q H k n pc ls (.int i :: .ref a :: st) := by
  subst hpc
  subst hv
  intro lsA locs hl hS
  exact W.iald (v := .int (f i.toNatClampNeg)) X.1.1 X.1.2.1 h ((X.2.1.2 0 _ rfl).1 N (fun j => .int (f j))) (fun q => by cases q) (by show ¬ (i < 0 ∨ (arrV _ _ _).slots.size ≤ _); rw [arrV_size]; exact hin) (by show (arrV _ _ _).slots[_]? = _; rw [arrV_read _ _ (vin_lt hin)]) rfl rfl hd (kk lsA locs hl hS)
theorem V_zald (X : Kx p s m args meth c cc nL ret own D kA A) {a N : Nat} {f : Nat → Int32} {i : Int32} {v : Int32} (h : hp D H a (.inl (kA 1, N, .inl f))) (hin : vp_in i N) (hv : f i.toNatClampNeg = v) (hd : decode cc pc = .ok (.baload, 1)) (hpc : pc + 1 = pc') (kk : V p l e R s m args below meth c nL A Q H k n pc' ls (.int v :: st)) : V p l e R s m args below meth c nL A Q H k n pc ls (.int i :: .ref a :: st) := by
  subst hpc
  subst hv
  intro lsA locs hl hS
  exact W.zald (v := .int (f i.toNatClampNeg)) X.1.1 X.1.2.1 h ((X.2.1.2 1 _ rfl).1 N (fun j => .int (f j))) (fun q => by cases q) (by show ¬ (i < 0 ∨ (arrV _ _ _).slots.size ≤ _); rw [arrV_size]; exact hin) (by show (arrV _ _ _).slots[_]? = _; rw [arrV_read _ _ (vin_lt hin)]) rfl rfl hd (kk lsA locs hl hS)
theorem V_bald (X : Kx p s m args meth c cc nL ret own D kA A) {a N : Nat} {f : Nat → Int32} {i : Int32} {v : Int32} (h : hp D H a (.inl (kA 4, N, .inl f))) (hin : vp_in i N) (hv : f i.toNatClampNeg = v) (hd : decode cc pc = .ok (.baload, 1)) (hpc : pc + 1 = pc') (kk : V p l e R s m args below meth c nL A Q H k n pc' ls (.int v :: st)) : V p l e R s m args below meth c nL A Q H k n pc ls (.int i :: .ref a :: st) := by
  subst hpc
  subst hv
  intro lsA locs hl hS
  exact W.bald (v := .int (f i.toNatClampNeg)) X.1.1 X.1.2.1 h ((X.2.1.2 4 _ rfl).1 N (fun j => .int (f j))) (fun q => by cases q) (by show ¬ (i < 0 ∨ (arrV _ _ _).slots.size ≤ _); rw [arrV_size]; exact hin) (by show (arrV _ _ _).slots[_]? = _; rw [arrV_read _ _ (vin_lt hin)]) rfl rfl hd (kk lsA locs hl hS)
theorem V_lald (X : Kx p s m args meth c cc nL ret own D kA A) {a N : Nat} {f : Nat → Int64} {i : Int32} {v : Int64} (h : hp D H a (.inl (kA 2, N, .inr (.inl f)))) (hin : vp_in i N) (hv : f i.toNatClampNeg = v) (hd : decode cc pc = .ok (.laload, 1)) (hpc : pc + 1 = pc') (kk : V p l e R s m args below meth c nL A Q H k n pc' ls (.long v :: st)) : V p l e R s m args below meth c nL A Q H k n pc ls (.int i :: .ref a :: st) := by
  subst hpc
  subst hv
  intro lsA locs hl hS
  exact W.lald (v := .long (f i.toNatClampNeg)) X.1.1 X.1.2.1 h ((X.2.1.2 2 _ rfl).1 N (fun j => .long (f j))) (fun q => by cases q) (by show ¬ (i < 0 ∨ (arrV _ _ _).slots.size ≤ _); rw [arrV_size]; exact hin) (by show (arrV _ _ _).slots[_]? = _; rw [arrV_read _ _ (vin_lt hin)]) rfl rfl hd (kk lsA locs hl hS)
theorem V_iast (X : Kx p s m args meth c cc nL ret own D kA A) {a N : Nat} {f : Nat → Int32} {i : Int32} {x : Int32} (h : hp D H a (.inl (kA 0, N, .inl f))) (hA : A a) (hin : vp_in i N) (hd : decode cc pc = .ok (.iastore, 1)) (hpc : pc + 1 = pc') (kk : ∀ H1 : Heap, hp D H1 a (.inl (kA 0, N, .inl (upd f i.toNatClampNeg x))) → sto a H H1 → V p l e R s m args below meth c nL A Q H1 k n pc' ls st) : V p l e R s m args below meth c nL A Q H k n pc ls (.int x :: .int i :: .ref a :: st) := by
  subst hpc
  intro lsA locs hl hS
  refine W.iast X.1.1 X.1.2.1 h ((X.2.1.2 0 _ rfl).1 N (fun j => .int (f j))) (fun q => by cases q) (by show ¬ (i < 0 ∨ (arrV _ _ _).slots.size ≤ _); rw [arrV_size]; exact hin) rfl rfl hd fun H1 e1 z oq => ?_
  refine kk H1 ?_ ⟨z, oq⟩ lsA _ hl (hS.put z oq hA)
  show H1[a]? = some (vp_cell _ _)
  rw [e1, upd_arr_i]
theorem V_last (X : Kx p s m args meth c cc nL ret own D kA A) {a N : Nat} {f : Nat → Int64} {i : Int32} {x : Int64} (h : hp D H a (.inl (kA 2, N, .inr (.inl f)))) (hA : A a) (hin : vp_in i N) (hd : decode cc pc = .ok (.lastore, 1)) (hpc : pc + 1 = pc') (kk : ∀ H1 : Heap, hp D H1 a (.inl (kA 2, N, .inr (.inl (vp_updL f i.toNatClampNeg x)))) → sto a H H1 → V p l e R s m args below meth c nL A Q H1 k n pc' ls st) : V p l e R s m args below meth c nL A Q H k n pc ls (.long x :: .int i :: .ref a :: st) := by
  subst hpc
  intro lsA locs hl hS
  refine W.last X.1.1 X.1.2.1 h ((X.2.1.2 2 _ rfl).1 N (fun j => .long (f j))) (fun q => by cases q) (by show ¬ (i < 0 ∨ (arrV _ _ _).slots.size ≤ _); rw [arrV_size]; exact hin) rfl rfl hd fun H1 e1 z oq => ?_
  refine kk H1 ?_ ⟨z, oq⟩ lsA _ hl (hS.put z oq hA)
  show H1[a]? = some (vp_cell _ _)
  rw [e1, upd_arr_l]
theorem V_zast (X : Kx p s m args meth c cc nL ret own D kA A) {a N : Nat} {f : Nat → Int32} {i x y : Int32} (h : hp D H a (.inl (kA 1, N, .inl f))) (hA : A a) (hin : vp_in i N) (hx : narrow .boolean (.int x) = .int y) (hd : decode cc pc = .ok (.bastore, 1)) (hpc : pc + 1 = pc') (kk : ∀ H1 : Heap, hp D H1 a (.inl (kA 1, N, .inl (upd f i.toNatClampNeg y))) → sto a H H1 → V p l e R s m args below meth c nL A Q H1 k n pc' ls st) : V p l e R s m args below meth c nL A Q H k n pc ls (.int x :: .int i :: .ref a :: st) := by
  subst hpc
  intro lsA locs hl hS
  refine W.zast X.1.1 X.1.2.1 h ((X.2.1.2 1 _ rfl).1 N (fun j => .int (f j))) (fun q => by cases q) (by show ¬ (i < 0 ∨ (arrV _ _ _).slots.size ≤ _); rw [arrV_size]; exact hin) rfl rfl hd fun H1 e1 z oq => ?_
  refine kk H1 ?_ ⟨z, oq⟩ lsA _ hl (hS.put z oq hA)
  show H1[a]? = some (vp_cell _ _)
  rw [e1, hx, upd_arr_i]
theorem V_bast (X : Kx p s m args meth c cc nL ret own D kA A) {a N : Nat} {f : Nat → Int32} {i x y : Int32} (h : hp D H a (.inl (kA 4, N, .inl f))) (hA : A a) (hin : vp_in i N) (hx : narrow .byte (.int x) = .int y) (hd : decode cc pc = .ok (.bastore, 1)) (hpc : pc + 1 = pc') (kk : ∀ H1 : Heap, hp D H1 a (.inl (kA 4, N, .inl (upd f i.toNatClampNeg y))) → sto a H H1 → V p l e R s m args below meth c nL A Q H1 k n pc' ls st) : V p l e R s m args below meth c nL A Q H k n pc ls (.int x :: .int i :: .ref a :: st) := by
  subst hpc
  intro lsA locs hl hS
  refine W.bast X.1.1 X.1.2.1 h ((X.2.1.2 4 _ rfl).1 N (fun j => .int (f j))) (fun q => by cases q) (by show ¬ (i < 0 ∨ (arrV _ _ _).slots.size ≤ _); rw [arrV_size]; exact hin) rfl rfl hd fun H1 e1 z oq => ?_
  refine kk H1 ?_ ⟨z, oq⟩ lsA _ hl (hS.put z oq hA)
  show H1[a]? = some (vp_cell _ _)
  rw [e1, hx, upd_arr_i]
theorem V_aldM (X : Kx p s m args meth c cc nL ret own D kA A) {a N : Nat} {f : Nat → Option Nat} {i : Int32} {v : Nat} (h : hp D H a (.inl (kA 5, N, .inr (.inr (.inr (.inr f)))))) (hin : vp_in i N) (hv : f i.toNatClampNeg = some v) (hd : decode cc pc = .ok (.aaload, 1)) (hpc : pc + 1 = pc') (kk : V p l e R s m args below meth c nL A Q H k n pc' ls (.ref v :: st)) : V p l e R s m args below meth c nL A Q H k n pc ls (.int i :: .ref a :: st) := by
  subst hpc
  intro lsA locs hl hS
  have h9 := kk lsA locs hl hS
  refine W.aald (v := .ref v) X.1.1 X.1.2.1 h ((X.2.1.2 5 _ rfl).1 N (fun j => va_rf (f j))) rfl (fun q => by cases q) (by show ¬ (i < 0 ∨ (arrV _ _ _).slots.size ≤ _); rw [arrV_size]; exact hin) (by show (arrV _ _ _).slots[_]? = _; rw [arrV_read _ _ (vin_lt hin), hv]; rfl) rfl rfl hd h9
theorem V_astM (X : Kx p s m args meth c cc nL ret own D kA A) {a N : Nat} {f : Nat → Option Nat} {i : Int32} {v : Nat} {vs : List Value} (h : hp D H a (.inl (kA 5, N, .inr (.inr (.inr (.inr f)))))) (hA : A a) (hin : vp_in i N) (hv : hp D H v (.inr (7, vs))) (hd : decode cc pc = .ok (.aastore, 1)) (hpc : pc + 1 = pc') (kk : ∀ H1 : Heap, hp D H1 a (.inl (kA 5, N, .inr (.inr (.inr (.inr (va_up f i.toNatClampNeg (some v))))))) → sto a H H1 → V p l e R s m args below meth c nL A Q H1 k n pc' ls st) : V p l e R s m args below meth c nL A Q H k n pc ls (.ref v :: .int i :: .ref a :: st) := by
  subst hpc
  intro lsA locs hl hS
  obtain ⟨r', hr', cellV, g1, g2, g3, -⟩ := hv
  have hcls := (X.2.1.1 7 _ rfl).2
  obtain ⟨kA9, comp, k1, k2, k3, -⟩ := (X.2.1.2 5 _ rfl).2
  have hcomp : comp = D.1 7 := Option.some.inj (k3.symm.trans hcls.1)
  subst hcomp
  obtain ⟨kC, hkC, -⟩ := hcls.2
  refine W.aast X.1.1 X.1.2.1 h (fun q h => by cases h) (fun h => by cases h) k1 k2 rfl hkC ⟨fun q => hin (Or.inl q), by show _ < (arrV _ _ _).slots.size; rw [arrV_size]; exact vin_lt hin⟩ g1 (fun q h => by rw [g3] at h; cases h) (by rw [g2]; exact hkC) (by rw [g2]; exact va_assign hcls) rfl rfl hd fun H1 e1 z oq => ?_
  refine kk H1 ?_ ⟨z, oq⟩ lsA _ hl (hS.put z oq hA)
  show H1[a]? = some (vp_cell _ _)
  rw [e1, upd_arr_q]
theorem V_aldK (X : Kx p s m args meth c cc nL ret own D kA A) {a N : Nat} {f : Nat → Option Nat} {i : Int32} {v : Nat} (h : hp D H a (.inl (kA 6, N, .inr (.inr (.inr (.inr f)))))) (hin : vp_in i N) (hv : f i.toNatClampNeg = some v) (hd : decode cc pc = .ok (.aaload, 1)) (hpc : pc + 1 = pc') (kk : V p l e R s m args below meth c nL A Q H k n pc' ls (.ref v :: st)) : V p l e R s m args below meth c nL A Q H k n pc ls (.int i :: .ref a :: st) := by
  subst hpc
  intro lsA locs hl hS
  have h9 := kk lsA locs hl hS
  refine W.aald (v := .ref v) X.1.1 X.1.2.1 h ((X.2.1.2 6 _ rfl).1 N (fun j => va_rf (f j))) rfl (fun q => by cases q) (by show ¬ (i < 0 ∨ (arrV _ _ _).slots.size ≤ _); rw [arrV_size]; exact hin) (by show (arrV _ _ _).slots[_]? = _; rw [arrV_read _ _ (vin_lt hin), hv]; rfl) rfl rfl hd h9
theorem V_astK (X : Kx p s m args meth c cc nL ret own D kA A) {a N : Nat} {f : Nat → Option Nat} {i : Int32} {v : Nat} {vs : List Value} (h : hp D H a (.inl (kA 6, N, .inr (.inr (.inr (.inr f)))))) (hA : A a) (hin : vp_in i N) (hv : hp D H v (.inr (4, vs))) (hd : decode cc pc = .ok (.aastore, 1)) (hpc : pc + 1 = pc') (kk : ∀ H1 : Heap, hp D H1 a (.inl (kA 6, N, .inr (.inr (.inr (.inr (va_up f i.toNatClampNeg (some v))))))) → sto a H H1 → V p l e R s m args below meth c nL A Q H1 k n pc' ls st) : V p l e R s m args below meth c nL A Q H k n pc ls (.ref v :: .int i :: .ref a :: st) := by
  subst hpc
  intro lsA locs hl hS
  obtain ⟨r', hr', cellV, g1, g2, g3, -⟩ := hv
  have hcls := (X.2.1.1 4 _ rfl).2
  obtain ⟨kA9, comp, k1, k2, k3, -⟩ := (X.2.1.2 6 _ rfl).2
  have hcomp : comp = D.1 4 := Option.some.inj (k3.symm.trans hcls.1)
  subst hcomp
  obtain ⟨kC, hkC, -⟩ := hcls.2
  refine W.aast X.1.1 X.1.2.1 h (fun q h => by cases h) (fun h => by cases h) k1 k2 rfl hkC ⟨fun q => hin (Or.inl q), by show _ < (arrV _ _ _).slots.size; rw [arrV_size]; exact vin_lt hin⟩ g1 (fun q h => by rw [g3] at h; cases h) (by rw [g2]; exact hkC) (by rw [g2]; exact va_assign hcls) rfl rfl hd fun H1 e1 z oq => ?_
  refine kk H1 ?_ ⟨z, oq⟩ lsA _ hl (hS.put z oq hA)
  show H1[a]? = some (vp_cell _ _)
  rw [e1, upd_arr_q]
theorem V_alen (X : Kx p s m args meth c cc nL ret own D kA A) {a : Nat} {t0 : Nat} {cA : ClassId} {ty : FieldType} {x : vp_A} {v : Int32} (h : hp D H a (.inl (cA, x))) (ht : (tyA kA)[t0]? = some (cA, ty)) (hv : Int32.ofNat x.1 = v) (hd : decode cc pc = .ok (.arraylength, 1)) (hpc : pc + 1 = pc') (kk : V p l e R s m args below meth c nL A Q H k n pc' ls (.int v :: st)) : V p l e R s m args below meth c nL A Q H k n pc ls (.ref a :: st) := by
  subst hpc
  intro lsA locs hl hS
  exact va_alen (ws := [(a, .inl (cA, x))]) X.1.1 X.1.2.1 X.2.1 (hp.one h) 0 t0 rfl ht hv hd (kk lsA locs hl hS)
/-- new: the cell's address is the heap's size -/
theorem V_new (X : Kx p s m args meth c cc nL ret own D kA A) {idx ci : Nat} {C : String} {T : u_T} {N : Nat} {ty0 : Nat → FieldType} {fs : List Value} (hc : vwCl[ci]? = some (C, T, N)) (hin : ∀ w ∈ u_ws C T N, w ∈ T0) (hty : ∀ k, k < N → parseFieldDescriptor (T k).2.2.1 = some (ty0 k)) (hcl : Cond.classLink own idx C ∈ T0) (hinst : Cond.instantiable C N ∈ T0) (hini : Cond.initialized C ∈ T0) (hfs : ∀ j, j < N → defaultValue (ty0 j) = vp_V fs j) (hR1 : k + 1 ≤ R.cells) (hR2 : n + N ≤ R.slots) (hd : decode cc pc = .ok (.new idx, 3)) (hpc : pc + 3 = pc')
    (kk : ∀ (H1 : Heap) (q : Nat), q = H.size → H1.size = q + 1 → hp D H1 q (.inr (ci, fs)) → off (fun _ => False) H H1 → V p l e R s m args below meth c nL A Q H1 (k + 1) (n + N) pc' ls (.ref q :: st)) : V p l e R s m args below meth c nL A Q H k n pc ls st := by
  subst hpc
  intro lsA locs hl hS
  have hKn := X.2.1.1 ci _ hc
  refine W.newcK X.1.1 X.1.2.1 X.1.2.2.2.1 (X.1.2.2.2.2 _ hcl) (X.1.2.2.2.2 _ hinst) (X.1.2.2.2.2 _ hini) rfl hd hR1 hR2 hKn.2.1 rfl fun H1 kC hkC e1 z1 o1 => ?_
  exact kk H1 H.size rfl z1 ⟨_, hc, (u_born ty0 X.1.2.2.2.2 hin hKn hkC e1 hty).to hfs⟩ ⟨by omega, fun q hq _ => o1 q hq⟩ lsA locs hl ⟨Nat.le_trans hS.1 (by omega), fun x h1 h2 => (o1 x (Nat.lt_of_lt_of_le h1 hS.1)).trans (hS.2.1 x h1 h2), hS.2.2⟩
theorem V_newI (X : Kx p s m args meth c cc nL ret own D kA A) {i : Int32} {N : Nat} (hw : Cond.arrayClass .int ∈ T0) (hi : ¬ i < 0) (hN : i.toNatClampNeg = N) (hb : N * 8 ≤ 536870912) (hR1 : k + 1 ≤ R.cells) (hR2 : n + N ≤ R.slots) (hd : decode cc pc = .ok (.newarray .int, 2)) (hpc : pc + 2 = pc')
    (kk : ∀ (H1 : Heap) (q : Nat), q = H.size → H1.size = q + 1 → hp D H1 q (.inl (kA 0, N, (.inl (fun _ => 0)))) → off (fun _ => False) H H1 → V p l e R s m args below meth c nL A Q H1 (k + 1) (n + N) pc' ls (.ref q :: st)) : V p l e R s m args below meth c nL A Q H k n pc ls (.int i :: st) := by
  subst hpc
  intro lsA locs hl hS
  refine va_newaK (atype := .int) X.1.1 X.1.2.1 (X.1.2.2.2.2 _ hw) rfl hd rfl hi hN (Nat.le_trans (Nat.mul_le_mul_left N (by decide)) hb) hR1 hR2 rfl fun H1 cA e1 z1 o1 hAr hNm => ?_
  have hcA : cA = kA 0 := Option.some.inj (hNm.symm.trans (X.2.1.2 0 _ rfl).2)
  subst hcA
  exact kk H1 H.size rfl z1 e1 ⟨by omega, fun q hq _ => o1 q hq⟩ lsA locs hl ⟨Nat.le_trans hS.1 (by omega), fun x h1 h2 => (o1 x (Nat.lt_of_lt_of_le h1 hS.1)).trans (hS.2.1 x h1 h2), hS.2.2⟩
theorem V_newZ (X : Kx p s m args meth c cc nL ret own D kA A) {i : Int32} {N : Nat} (hw : Cond.arrayClass .boolean ∈ T0) (hi : ¬ i < 0) (hN : i.toNatClampNeg = N) (hb : N * 8 ≤ 536870912) (hR1 : k + 1 ≤ R.cells) (hR2 : n + N ≤ R.slots) (hd : decode cc pc = .ok (.newarray .boolean, 2)) (hpc : pc + 2 = pc')
    (kk : ∀ (H1 : Heap) (q : Nat), q = H.size → H1.size = q + 1 → hp D H1 q (.inl (kA 1, N, (.inl (fun _ => 0)))) → off (fun _ => False) H H1 → V p l e R s m args below meth c nL A Q H1 (k + 1) (n + N) pc' ls (.ref q :: st)) : V p l e R s m args below meth c nL A Q H k n pc ls (.int i :: st) := by
  subst hpc
  intro lsA locs hl hS
  refine va_newaK (atype := .boolean) X.1.1 X.1.2.1 (X.1.2.2.2.2 _ hw) rfl hd rfl hi hN (Nat.le_trans (Nat.mul_le_mul_left N (by decide)) hb) hR1 hR2 rfl fun H1 cA e1 z1 o1 hAr hNm => ?_
  have hcA : cA = kA 1 := Option.some.inj (hNm.symm.trans (X.2.1.2 1 _ rfl).2)
  subst hcA
  exact kk H1 H.size rfl z1 e1 ⟨by omega, fun q hq _ => o1 q hq⟩ lsA locs hl ⟨Nat.le_trans hS.1 (by omega), fun x h1 h2 => (o1 x (Nat.lt_of_lt_of_le h1 hS.1)).trans (hS.2.1 x h1 h2), hS.2.2⟩
theorem V_newL (X : Kx p s m args meth c cc nL ret own D kA A) {i : Int32} {N : Nat} (hw : Cond.arrayClass .long ∈ T0) (hi : ¬ i < 0) (hN : i.toNatClampNeg = N) (hb : N * 8 ≤ 536870912) (hR1 : k + 1 ≤ R.cells) (hR2 : n + N ≤ R.slots) (hd : decode cc pc = .ok (.newarray .long, 2)) (hpc : pc + 2 = pc')
    (kk : ∀ (H1 : Heap) (q : Nat), q = H.size → H1.size = q + 1 → hp D H1 q (.inl (kA 2, N, (.inr (.inl (fun _ => 0))))) → off (fun _ => False) H H1 → V p l e R s m args below meth c nL A Q H1 (k + 1) (n + N) pc' ls (.ref q :: st)) : V p l e R s m args below meth c nL A Q H k n pc ls (.int i :: st) := by
  subst hpc
  intro lsA locs hl hS
  refine va_newaK (atype := .long) X.1.1 X.1.2.1 (X.1.2.2.2.2 _ hw) rfl hd rfl hi hN (Nat.le_trans (Nat.mul_le_mul_left N (by decide)) hb) hR1 hR2 rfl fun H1 cA e1 z1 o1 hAr hNm => ?_
  have hcA : cA = kA 2 := Option.some.inj (hNm.symm.trans (X.2.1.2 2 _ rfl).2)
  subst hcA
  exact kk H1 H.size rfl z1 e1 ⟨by omega, fun q hq _ => o1 q hq⟩ lsA locs hl ⟨Nat.le_trans hS.1 (by omega), fun x h1 h2 => (o1 x (Nat.lt_of_lt_of_le h1 hS.1)).trans (hS.2.1 x h1 h2), hS.2.2⟩
theorem V_newB (X : Kx p s m args meth c cc nL ret own D kA A) {i : Int32} {N : Nat} (hw : Cond.arrayClass .byte ∈ T0) (hi : ¬ i < 0) (hN : i.toNatClampNeg = N) (hb : N * 8 ≤ 536870912) (hR1 : k + 1 ≤ R.cells) (hR2 : n + N ≤ R.slots) (hd : decode cc pc = .ok (.newarray .byte, 2)) (hpc : pc + 2 = pc')
    (kk : ∀ (H1 : Heap) (q : Nat), q = H.size → H1.size = q + 1 → hp D H1 q (.inl (kA 4, N, (.inl (fun _ => 0)))) → off (fun _ => False) H H1 → V p l e R s m args below meth c nL A Q H1 (k + 1) (n + N) pc' ls (.ref q :: st)) : V p l e R s m args below meth c nL A Q H k n pc ls (.int i :: st) := by
  subst hpc
  intro lsA locs hl hS
  refine va_newaK (atype := .byte) X.1.1 X.1.2.1 (X.1.2.2.2.2 _ hw) rfl hd rfl hi hN (Nat.le_trans (Nat.mul_le_mul_left N (by decide)) hb) hR1 hR2 rfl fun H1 cA e1 z1 o1 hAr hNm => ?_
  have hcA : cA = kA 4 := Option.some.inj (hNm.symm.trans (X.2.1.2 4 _ rfl).2)
  subst hcA
  exact kk H1 H.size rfl z1 e1 ⟨by omega, fun q hq _ => o1 q hq⟩ lsA locs hl ⟨Nat.le_trans hS.1 (by omega), fun x h1 h2 => (o1 x (Nat.lt_of_lt_of_le h1 hS.1)).trans (hS.2.1 x h1 h2), hS.2.2⟩
theorem V_newM (X : Kx p s m args meth c cc nL ret own D kA A) {i : Int32} {N idx : Nat} (hcl : Cond.classLink own idx RX3 ∈ T0) (hover : va_AO RX3 s) (hi : ¬ i < 0) (hN : i.toNatClampNeg = N) (hb : N * 4 ≤ 536870912) (hR1 : k + 1 ≤ R.cells) (hR2 : n + N ≤ R.slots) (hd : decode cc pc = .ok (.anewarray idx, 3)) (hpc : pc + 3 = pc')
    (kk : ∀ (H1 : Heap) (q : Nat), q = H.size → H1.size = q + 1 → hp D H1 q (.inl (kA 5, N, .inr (.inr (.inr (.inr (fun _ => none)))))) → off (fun _ => False) H H1 → V p l e R s m args below meth c nL A Q H1 (k + 1) (n + N) pc' ls (.ref q :: st)) : V p l e R s m args below meth c nL A Q H k n pc ls (.int i :: st) := by
  subst hpc
  subst hN
  intro lsA locs hl hS
  refine W.anew X.1.1 X.1.2.1 X.1.2.2.2.1 (X.1.2.2.2.2 _ hcl) (va_AO.use hover) rfl hd rfl hi hb hR1 hR2 fun cA kA9 comp f1 f2 f3 f4 => ?_
  have hcA : cA = kA 5 := by
    obtain ⟨_, _, -, -, -, g4⟩ := (X.2.1.2 5 _ rfl).2
    exact Option.some.inj (f1.symm.trans g4)
  subst hcA
  generalize hH1 : H.push ({ cls := kA 5, slots := Array.replicate i.toNatClampNeg .null, vm := .none } : Cell) = H1
  have z1 : H1.size = H.size + 1 := by rw [← hH1, Array.size_push]
  have e1 : H1[H.size]? = some (arrV (kA 5) i.toNatClampNeg (fun _ => .null)) := by rw [← hH1, Array.getElem?_push_size, ← arrV_new]
  have o1 : ∀ q : Nat, q < H.size → H1[q]? = H[q]? := fun q hq => by rw [← hH1, Array.getElem?_push, if_neg (Nat.ne_of_lt hq)]
  exact kk H1 H.size rfl z1 e1 ⟨by omega, fun q hq _ => o1 q hq⟩ lsA locs hl ⟨Nat.le_trans hS.1 (by omega), fun x h1 h2 => (o1 x (Nat.lt_of_lt_of_le h1 hS.1)).trans (hS.2.1 x h1 h2), hS.2.2⟩
theorem V_newK (X : Kx p s m args meth c cc nL ret own D kA A) {i : Int32} {N idx : Nat} (hcl : Cond.classLink own idx RX0 ∈ T0) (hover : va_AO RX0 s) (hi : ¬ i < 0) (hN : i.toNatClampNeg = N) (hb : N * 4 ≤ 536870912) (hR1 : k + 1 ≤ R.cells) (hR2 : n + N ≤ R.slots) (hd : decode cc pc = .ok (.anewarray idx, 3)) (hpc : pc + 3 = pc')
    (kk : ∀ (H1 : Heap) (q : Nat), q = H.size → H1.size = q + 1 → hp D H1 q (.inl (kA 6, N, .inr (.inr (.inr (.inr (fun _ => none)))))) → off (fun _ => False) H H1 → V p l e R s m args below meth c nL A Q H1 (k + 1) (n + N) pc' ls (.ref q :: st)) : V p l e R s m args below meth c nL A Q H k n pc ls (.int i :: st) := by
  subst hpc
  subst hN
  intro lsA locs hl hS
  refine W.anew X.1.1 X.1.2.1 X.1.2.2.2.1 (X.1.2.2.2.2 _ hcl) (va_AO.use hover) rfl hd rfl hi hb hR1 hR2 fun cA kA9 comp f1 f2 f3 f4 => ?_
  have hcA : cA = kA 6 := by
    obtain ⟨_, _, -, -, -, g4⟩ := (X.2.1.2 6 _ rfl).2
    exact Option.some.inj (f1.symm.trans g4)
  subst hcA
  generalize hH1 : H.push ({ cls := kA 6, slots := Array.replicate i.toNatClampNeg .null, vm := .none } : Cell) = H1
  have z1 : H1.size = H.size + 1 := by rw [← hH1, Array.size_push]
  have e1 : H1[H.size]? = some (arrV (kA 6) i.toNatClampNeg (fun _ => .null)) := by rw [← hH1, Array.getElem?_push_size, ← arrV_new]
  have o1 : ∀ q : Nat, q < H.size → H1[q]? = H[q]? := fun q hq => by rw [← hH1, Array.getElem?_push, if_neg (Nat.ne_of_lt hq)]
  exact kk H1 H.size rfl z1 e1 ⟨by omega, fun q hq _ => o1 q hq⟩ lsA locs hl ⟨Nat.le_trans hS.1 (by omega), fun x h1 h2 => (o1 x (Nat.lt_of_lt_of_le h1 hS.1)).trans (hS.2.1 x h1 h2), hS.2.2⟩
end VH
