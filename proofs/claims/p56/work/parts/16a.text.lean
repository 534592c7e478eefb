/-! Texts in cells of their own. -/
section WID
variable {l : Launch} {D : va_G} {kA : Nat → ClassId} {Hs : Heap} {σ : SG} {y : MethodName} {cc : ByteArray} {mL : Nat} {ret : Option FieldType} {fr lc mc ms : Nat} {H0 : Heap} {av : List Value} {A A' : Nat → Prop} {Post : Option Value → Heap → Prop}
/-- more cells may change -/
theorem CtS.wide (h : CtS l D kA Hs σ y cc mL ret fr lc mc ms H0 av A Post) (hA : ∀ q, A q → A' q) : CtS l D kA Hs σ y cc mL ret fr lc mc ms H0 av A' Post := by
  unfold CtS Met at h ⊢
  refine MetFree.mono h (fun _ _ z => z) (fun _ _ _ _ _ z => z) (fun a s o s' hP hQ => ?_)
  obtain ⟨⟨h1, hf⟩, L, h2, h3⟩ := hQ
  have g : ∀ q, AA H0 A q → AA H0 A' q := fun q z => z.imp (hA q) id
  exact ⟨⟨h1, hf.1, fun q hq hn => hf.2 q hq (fun z => hn (g q z))⟩, L, h2, fun q hq => g _ (h3 q hq)⟩
end WID
section LDW
variable {p : Program} {l : Launch} {e : Env} {R : Room} {s : State} {m : MethodId} {args : Array Value} {below : List Frame} {meth : Method} {c : Code} {nL : Nat} {A : Nat → Prop} {Q : State → Prop} {H : Heap} {k n pc pc' cells slots : Nat} {ls : List (Nat × Value)} {st : List Value} {locs : List Loc}
variable {cc : ByteArray} {own : String} {D : va_G} {kA : Nat → ClassId} {ret : Option FieldType}
theorem st_ldcwS {T : State} (X : Stand p l e R s m args below meth c T locs cells slots) (hexec : p.tables.exec = Jvm.exec) {own text : String} {index : Nat} {a : Addr} (hown : s.vm.findClass own = some m.cls)
    (hconst : (Cond.stringRef own index text).before args s = true) (hev : (Term.string own index).eval args s none [] s = some (.ref a)) {g : JFrame} (hg : g.method = m) (hdg : decode c.code g.pc = .ok (.ldc_w index, 3)) :
    ∀ target, Steps p.tables e below (T.setTop { g with pc := g.pc + 3, stack := .ref a :: g.stack }) target → Steps p.tables e below (T.setTop g) target := by
  obtain ⟨k, cf, i, a', hk, hcf, hcp, -, hr, hev'⟩ := Cond.stringRef_spec hown hconst
  cases hev.symm.trans hev'
  obtain ⟨k', hk', he⟩ := X.warmed.alike.2.2 _ _ hk
  have hr' : k'.resolved[index]? = some (some (.string a)) := by
    rcases X.warmed.entry hk hk' index with h | ⟨h, -⟩
    · rw [h]; exact hr
    · rw [hr] at h; cases h
  intro target hrest
  subst hg
  jvm_step X.here [hexec, hdg, ldc_w.wp_string (e := e) (s := T) (f := g) X.here.top hk' (by rw [he]; exact hcf) hcp hr']
  exact hrest
theorem V_ldcwS (Y : Ky p s m args meth c cc nL ret own D kA A) {i a : Nat} {tx : String} (hZ : vk_R own i tx a s) (hd : decode cc pc = .ok (.ldc_w i, 3)) (hpc : pc + 3 = pc') (kk : V p l e R s m args below meth c nL A Q H k n pc' ls (.ref a :: st)) : V p l e R s m args below meth c nL A Q H k n pc ls st := by
  subst hpc
  intro lsA locs hl hS T hT X
  obtain ⟨t, a1, b1⟩ := kk lsA locs hl hS T hT X
  exact ⟨t, st_ldcwS X Y.1.1.1 Y.1.1.2.2.2.1 (text := tx) (a := a) hZ.1 hZ.2 (g := F0 m pc lsA st) rfl (by rw [Y.1.1.2.1]; exact hd) t a1, b1⟩
end LDW
/-- a String of the chars L, in cells from lo to hi -/
def TR (D : va_G) (kA : Nat → ClassId) (H : Heap) (lo hi r : Nat) (L : List Int32) : Prop :=
  ∃ (v : Nat) (w1 w2 : Int32), lo ≤ r ∧ r < hi ∧ lo ≤ v ∧ v < hi ∧ hp D H r (eO 0 [.ref v, .int 0, .int w1, .int w2]) ∧ hp D H v (eB kA L.length (fun j => L.getD j 0)) ∧ r ≠ v ∧ L.length ≤ 100 ∧ ∀ y ∈ L, ∃ c, c < 128 ∧ y = nI c
/-- a StringBuilder with the text L, in cells from lo to hi -/
def TQ (D : va_G) (kA : Nat → ClassId) (H : Heap) (lo hi b cap : Nat) (L : List Int32) : Prop :=
  ∃ (v : Nat) (g : Nat → Int32), lo ≤ b ∧ b < hi ∧ lo ≤ v ∧ v < hi ∧ Sb D kA H b v cap L.length g ∧ (∀ j, j < L.length → g j = L.getD j 0) ∧ ∀ y ∈ L, ∃ c, c < 128 ∧ y = nI c
section TRS
variable {D : va_G} {kA : Nat → ClassId} {H H1 : Heap} {lo hi r b cap : Nat} {L : List Int32} {F : Nat → Prop}
theorem TR.ts (h : TR D kA H lo hi r L) : TS D kA H lo r L := by
  obtain ⟨v, w1, w2, h1, h2, h3, h4, h5⟩ := h
  exact ⟨v, w1, w2, h1, h3, h5⟩
theorem TR.ch (h : TR D kA H lo hi r L) : ∀ y ∈ L, ∃ c, c < 128 ∧ y = nI c := by
  obtain ⟨v, w1, w2, h1, h2, h3, h4, h5, h6, h7, h8, h9⟩ := h
  exact h9
theorem TR.rcv (h : TR D kA H lo hi r L) : ∃ fs, hp D H r (eO 0 fs) := by
  obtain ⟨v, w1, w2, h1, h2, h3, h4, h5, -⟩ := h
  exact ⟨_, h5⟩
theorem TR.keep (h : TR D kA H lo hi r L) (o : off F H H1) (hn : ∀ q, lo ≤ q → q < hi → ¬ F q) : TR D kA H1 lo hi r L := by
  obtain ⟨v, w1, w2, h1, h2, h3, h4, h5, h6, h7⟩ := h
  exact ⟨v, w1, w2, h1, h2, h3, h4, h5.off o (hn _ h1 h2), h6.off o (hn _ h3 h4), h7⟩
theorem TQ.rcv (h : TQ D kA H lo hi b cap L) : ∃ fs, hp D H b (eO 1 fs) := by
  obtain ⟨v, g, h1, h2, h3, h4, h5, -⟩ := h
  exact ⟨_, h5.1.choose_spec⟩
theorem TQ.keep (h : TQ D kA H lo hi b cap L) (o : off F H H1) (hn : ∀ q, lo ≤ q → q < hi → ¬ F q) : TQ D kA H1 lo hi b cap L := by
  obtain ⟨v, g, h1, h2, h3, h4, h5, h6⟩ := h
  exact ⟨v, g, h1, h2, h3, h4, h5.off o (hn _ h1 h2) (hn _ h3 h4), h6⟩
end TRS
theorem ch_app {A B : List Int32} (hA : ∀ y ∈ A, ∃ c, c < 128 ∧ y = nI c) (hB : ∀ y ∈ B, ∃ c, c < 128 ∧ y = nI c) : ∀ y ∈ A ++ B, ∃ c, c < 128 ∧ y = nI c := fun y hy => (List.mem_append.mp hy).elim (hA y) (hB y)
theorem getD_l {A B : List Int32} {j : Nat} (h : j < A.length) : (A ++ B).getD j 0 = A.getD j 0 := by
  rw [List.getD_eq_getElem?_getD, List.getD_eq_getElem?_getD, List.getElem?_append_left h]
theorem getD_r {A B : List Int32} {j : Nat} (h : A.length ≤ j) : (A ++ B).getD j 0 = B.getD (j - A.length) 0 := by
  rw [List.getD_eq_getElem?_getD, List.getD_eq_getElem?_getD, List.getElem?_append_right h]
theorem put_lt9 : ∀ (L : List Int32) (u : Nat → Int32) (q k : Nat), k < q → r_put u q L k = u k
  | [], _, _, _, _ => rfl
  | x :: L, u, q, k, h => by
    show r_put (upd u q x) (q + 1) L k = _
    rw [put_lt9 L _ _ _ (by omega), pk_un (by omega)]
theorem put_ge9 : ∀ (L : List Int32) (u : Nat → Int32) (q j : Nat), j < L.length → r_put u q L (q + j) = L.getD j 0
  | [], _, _, _, h => absurd h (Nat.not_lt_zero _)
  | x :: L, u, q, j, h => by
    show r_put (upd u q x) (q + 1) L (q + j) = _
    cases j with
    | zero =>
      show r_put (upd u q x) (q + 1) L q = x
      rw [put_lt9 L _ _ _ (by omega), pk_us]
    | succ j =>
      rw [show q + (j + 1) = q + 1 + j by omega, put_ge9 L _ _ j (by simpa using h)]
      rfl
theorem put_app {A B : List Int32} {g : Nat → Int32} (hg : ∀ j, j < A.length → g j = A.getD j 0) : ∀ j, j < (A ++ B).length → r_put g A.length B j = (A ++ B).getD j 0 := fun j hj => by
  rw [List.length_append] at hj
  by_cases h : j < A.length
  · rw [put_lt9 B _ _ _ h, getD_l h]
    exact hg j h
  · rw [getD_r (by omega)]
    have := put_ge9 B g A.length (j - A.length) (by omega)
    rw [show A.length + (j - A.length) = j by omega] at this
    exact this
theorem cpy_app {A B : List Int32} {g : Nat → Int32} (hg : ∀ j, j < A.length → g j = A.getD j 0) : ∀ j, j < (A ++ B).length → va_cpy (fun j => B.getD j 0) g 0 A.length B.length j = (A ++ B).getD j 0 := fun j hj => by
  rw [List.length_append] at hj
  unfold va_cpy
  by_cases h : j < A.length
  · rw [if_neg (by omega), getD_l h]
    exact hg j h
  · rw [if_pos (by omega), getD_r (by omega), Nat.zero_add]
theorem c_T_init (l : Launch) (D : va_G) (kA : Nat → ClassId) (Hs : Heap) (σ : SG) (H0 : Heap) (hg : Ag Hs H0) (lo b : Nat) (fs : List Value) (h0 : hp D H0 b (eO 1 fs)) (hf : fs = [.null, .int 0, .int 0, .int 0]) (hlo : Hs.size ≤ lo) (hlb : lo ≤ b) : CtS l D kA Hs σ yJ4_init_da8c8 cJ4_init_da8c8 1 none 2 45 1 16 H0 [.ref b] (fun q => lo ≤ q) (pV fun H => TQ D kA H lo H.size b 16 []) := by
  have hb9 := h0.lt
  refine (CtS.wide (c_J4_init_da8c8 l D kA Hs σ H0 hg b fs h0 hf (Nat.le_trans hlo hlb)) (fun q hq => Nat.le_trans hlb hq.1)).mono (fun v H o h => ?_)
  obtain ⟨e, hS, hz⟩ := h
  exact ⟨e, H0.size, _, hlb, by omega, by omega, by omega, hS, fun j hj => absurd hj (Nat.not_lt_zero j), fun y hy => absurd hy List.not_mem_nil⟩

theorem c_T_appI (l : Launch) (D : va_G) (kA : Nat → ClassId) (Hs : Heap) (σ : SG) (H0 : Heap) (hg : Ag Hs H0) (lo hi b cap : Nat) (L : List Int32) (x : Int32) (hT : TQ D kA H0 lo hi b cap L) (hlo : Hs.size ≤ lo) (h1 : -100000 < x.toInt) (h2 : x.toInt < 100000) (hk : L.length + (sg x).length ≤ cap) : CtS l D kA Hs σ yJ4_append_bf812 cJ4_append_bf812 2 (some (.object "java/lang/StringBuilder")) 5 117 0 0 H0 [.ref b, .int x] (fun q => lo ≤ q) (pR fun r H => r = b ∧ TQ D kA H lo hi b cap (L ++ sg x)) := by
  obtain ⟨v, g, g1, g2, g3, g4, hS, hL, hch⟩ := hT
  refine (CtS.wide (c_J4_append_bf812 l D kA Hs σ H0 hg b v cap L.length g x h1 h2 hk hS (Nat.le_trans hlo g1) (Nat.le_trans hlo g3)) (fun q hq => hq.elim (fun e => e ▸ g1) (fun e => e ▸ g3))).mono (fun v9 H o h => ?_)
  obtain ⟨r9, e9, e8, hS9, -⟩ := h
  refine ⟨r9, e9, e8, v, _, g1, g2, g3, g4, by rw [List.length_append]; exact hS9, fun j hj => ?_, ch_app hch (sg_ch x)⟩
  exact put_app hL j hj

theorem c_T_appS (l : Launch) (D : va_G) (kA : Nat → ClassId) (Hs : Heap) (σ : SG) (H0 : Heap) (hg : Ag Hs H0) (lo hi b cap : Nat) (L : List Int32) (x : String × Nat × String) (hT : TQ D kA H0 lo hi b cap L) (hlo : Hs.size ≤ lo) (hx : x ∈ wL) (hk : L.length + (byt x.2.2).length ≤ cap) : CtS l D kA Hs σ yJ4_append_15ec4 cJ4_append_15ec4 2 (some (.object "java/lang/StringBuilder")) 5 116 0 0 H0 [.ref b, .ref (σ x.1 x.2.1).1] (fun q => lo ≤ q) (pR fun r9 H => r9 = b ∧ TQ D kA H lo hi b cap (L ++ (byt x.2.2))) := by
  obtain ⟨v, g, g1, g2, g3, g4, hS, hL, hch⟩ := hT
  refine (CtS.wide (c_J4_appSs_k l D kA Hs σ H0 hg b v cap L.length g x hx hk hS (Nat.le_trans hlo g1) (Nat.le_trans hlo g3)) (fun q hq => hq.elim (fun e => e ▸ g1) (fun e => e ▸ g3))).mono (fun v9 H o h => ?_)
  obtain ⟨r9, e9, e8, hS9, -⟩ := h
  refine ⟨r9, e9, e8, v, _, g1, g2, g3, g4, by rw [List.length_append]; exact hS9, fun j hj => ?_, ch_app hch (byt_ch x hx)⟩
  exact cpy_app hL j hj

theorem c_T_appSh (l : Launch) (D : va_G) (kA : Nat → ClassId) (Hs : Heap) (σ : SG) (H0 : Heap) (hg : Ag Hs H0) (lo hi b cap : Nat) (L : List Int32) (x : String × Nat × String) (hT : TQ D kA H0 lo hi b cap L) (hlo : Hs.size ≤ lo) (hx : x ∈ wL) (hk : cap < L.length + (byt x.2.2).length) (hk2 : L.length + (byt x.2.2).length ≤ cap + (cap + 2)) (hc2 : cap + (cap + 2) ≤ 120) : CtS l D kA Hs σ yJ4_append_15ec4 cJ4_append_15ec4 2 (some (.object "java/lang/StringBuilder")) 5 116 1 200 H0 [.ref b, .ref (σ x.1 x.2.1).1] (fun q => lo ≤ q) (pR fun r9 H => r9 = b ∧ TQ D kA H lo H.size b (cap + (cap + 2)) (L ++ (byt x.2.2))) := by
  obtain ⟨v, g, g1, g2, g3, g4, hS, hL, hch⟩ := hT
  have hb9 := hS.1.choose_spec.lt
  refine (CtS.wide (c_J4_appSs_h l D kA Hs σ H0 hg b v cap L.length g x hx hk hk2 hc2 hS (Nat.le_trans hlo g1)) (fun q hq => hq ▸ g1)).mono (fun v9 H o h => ?_)
  obtain ⟨r9, e9, e8, hS9, hz9⟩ := h
  have hn9 := hS.2.2.2.1
  refine ⟨r9, e9, e8, H0.size, _, g1, by omega, by omega, by omega, by rw [List.length_append]; exact hS9, fun j hj => ?_, ch_app hch (byt_ch x hx)⟩
  exact cpy_app (fun i hi => by unfold va_cpy; rw [if_pos (by omega), show 0 + (i - 0) = i by omega]; exact hL i hi) j hj

theorem c_T_appM (l : Launch) (D : va_G) (kA : Nat → ClassId) (Hs : Heap) (σ : SG) (H0 : Heap) (hg : Ag Hs H0) (lo hi b cap : Nat) (L : List Int32) (lo2 hi2 r : Nat) (L2 : List Int32) (hT : TQ D kA H0 lo hi b cap L) (hlo : Hs.size ≤ lo) (hR : TR D kA H0 lo2 hi2 r L2) (hk : L.length + L2.length ≤ cap) : CtS l D kA Hs σ yJ4_append_15ec4 cJ4_append_15ec4 2 (some (.object "java/lang/StringBuilder")) 5 116 0 0 H0 [.ref b, .ref r] (fun q => lo ≤ q) (pR fun r9 H => r9 = b ∧ TQ D kA H lo hi b cap (L ++ L2)) := by
  obtain ⟨v, g, g1, g2, g3, g4, hS, hL, hch⟩ := hT
  refine (CtS.wide (c_J4_appSm_k l D kA Hs σ H0 hg b v cap L.length g lo2 r L2 hk hS (Nat.le_trans hlo g1) (Nat.le_trans hlo g3) hR.ts) (fun q hq => hq.elim (fun e => e ▸ g1) (fun e => e ▸ g3))).mono (fun v9 H o h => ?_)
  obtain ⟨r9, e9, e8, hS9, -⟩ := h
  refine ⟨r9, e9, e8, v, _, g1, g2, g3, g4, by rw [List.length_append]; exact hS9, fun j hj => ?_, ch_app hch hR.ch⟩
  exact cpy_app hL j hj

theorem c_T_toStr (l : Launch) (D : va_G) (kA : Nat → ClassId) (Hs : Heap) (σ : SG) (H0 : Heap) (hg : Ag Hs H0) (lo hi b cap : Nat) (L : List Int32) (hT : TQ D kA H0 lo hi b cap L) (hn : L.length < cap) (h100 : L.length ≤ 100) : CtS l D kA Hs σ yJ4_toString_0e30d cJ4_toString_0e30d 1 (some (.object "java/lang/String")) 5 139 2 124 H0 [.ref b] (nof) (pR fun r H => TR D kA H H0.size H.size r L) := by
  obtain ⟨v, g, g1, g2, g3, g4, hS, hL, hch⟩ := hT
  refine CtS.mono (c_J4_toString_0e30d l D kA Hs σ H0 hg b v cap L.length g hn hS) (fun v9 H o h => ?_)
  obtain ⟨r9, e9, e8, ⟨w1, w2, hr⟩, hv, hz⟩ := h
  refine ⟨r9, e9, H0.size + 1, w1, w2, by omega, by omega, by omega, by omega, hr, hv.cong (fun i hi => ?_), by omega, h100, hch⟩
  unfold va_cpy
  rw [if_pos (by omega), show 0 + (i - 0) = i by omega]
  exact hL i hi

theorem c_T_len (l : Launch) (D : va_G) (kA : Nat → ClassId) (Hs : Heap) (σ : SG) (H0 : Heap) (hg : Ag Hs H0) (lo hi r : Nat) (L : List Int32) (hR : TR D kA H0 lo hi r L) : CtS l D kA Hs σ yJ0_length_8abf5 cJ0_length_8abf5 1 (some .int) 1 20 0 0 H0 [.ref r] (nof) (pI fun v9 H => v9 = nI L.length ∧ H = H0) := by
  exact c_J0_length_m l D kA Hs σ H0 hg lo r L hR.ts

theorem c_T_at (l : Launch) (D : va_G) (kA : Nat → ClassId) (Hs : Heap) (σ : SG) (H0 : Heap) (hg : Ag Hs H0) (lo hi r : Nat) (L : List Int32) (i : Nat) (hR : TR D kA H0 lo hi r L) (hi9 : i < L.length) : CtS l D kA Hs σ yJ0_charAt_5068e cJ0_charAt_5068e 2 (some .char) 3 64 0 0 H0 [.ref r, .int (nI i)] (nof) (pI fun v9 H => v9 = L.getD i 0 ∧ H = H0) := by
  exact c_J0_charAt_m l D kA Hs σ H0 hg lo r L i hi9 hR.ts

