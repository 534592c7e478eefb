/-! The law's object: its state; contracts weakened. -/
section SSX
variable {M : MS} {s : Nat → Int32} {n t A B C T : Nat}
theorem SS.lt (h : SS M s n t A B C T) {i : Nat} (hi : nI i < M.1 0) (h8 : i < 8) : i < n := by
  rw [h.1.2.1.1, h.1.1.1, nI_ltI (by omega) (by have := h.1.1.2.1; omega)] at hi
  exact hi
theorem SS.hok (h : SS M s n t A B C T) : ∀ i : Nat, nI i < M.1 0 → i < 8 → k_ok (M.2.2.2.1 i) := fun i hi h8 => h.mi.hok i (h.lt hi h8)
theorem SS.hjt5 (h : SS M s n t A B C T) : ∀ i : Nat, i < 8 → nI i < M.1 0 → ¬ (M.2.2.2.1 i).1 2 = 0 → ∃ j, j < 12 ∧ (M.2.2.2.1 i).1 5 = nI j := fun i h8 hi z => ((h.mi.2.2.2.2 i (h.lt hi h8)).2.1 z).2.1
theorem SS.hjt3 (h : SS M s n t A B C T) : ∀ i : Nat, i < 8 → nI i < M.1 0 → ¬ (M.2.2.2.1 i).1 2 = 0 → ∃ j, j < 12 ∧ (M.2.2.2.1 i).1 3 = nI j := fun i h8 hi z => ((h.mi.2.2.2.2 i (h.lt hi h8)).2.1 z).1
theorem SS.hcb (h : SS M s n t A B C T) : ∀ i : Nat, i < 8 → nI i < M.1 0 → -100000 < ((M.2.2.2.1 i).1 1).toInt ∧ ((M.2.2.2.1 i).1 1).toInt < 100000 := fun i h8 hi => by
  obtain ⟨-, -, b⟩ := h.1.2.2.2.2.2.2.2 i (h.lt hi h8)
  have := b.1
  have := b.2.2.1
  omega
theorem SS.hcons (h : SS M s n t A B C T) : ∀ i, i < n → ∀ q, t / 1440 - 2 ≤ q → q ≤ t / 1440 → k_sumOf (M.2.2.2.1 i) q = k_recs (nI q) (M.2.2.2.2 i) 0 ∧ k_sumOf (M.2.2.2.1 i) q ≤ k_cap (M.2.2.2.1 i) := fun i hi q h1 h2 => by
  obtain ⟨a, -, -⟩ := h.1.2.2.2.2.2.2.2 i hi
  exact ⟨(a.rc q h1 h2).symm, Int32.le_iff_toInt_le.mpr (a.cp q h1 h2).2⟩
theorem SS.hz9 (h : SS M s n t A B C T) : ∀ j, j < 12 → ∃ w, w < 10 ∧ M.2.1 j = nI w := fun j hj => by
  obtain ⟨z, z1, z6, e⟩ := h.1.zo j hj
  exact ⟨z, by omega, e⟩
end SSX
/-- contracts: weaker behind -/
theorem off_F {H0 : Heap} {A : Nat → Prop} {st t : State} (h : va_F (AA H0 A) st t) (e : st.heap = H0) : off A H0 t.heap := by
  subst e
  exact ⟨h.1, fun q hq hn => h.2 q hq (fun z => z.elim hn (fun z => absurd hq (Nat.not_lt.mpr z)))⟩
section MON
variable {l : Launch} {D : va_G} {kA : Nat → ClassId} {Hs : Heap} {σ : SG} {y : MethodName} {cc : ByteArray} {mL : Nat} {ret : Option FieldType} {hh : List (Nat × Nat × Nat × Nat)} {fr lc mc ms : Nat} {H0 : Heap} {av : List Value} {A : Nat → Prop} {Post Post' : Option Value → Heap → Prop} {PX : String → Heap → Prop}
theorem CtS.mono (h : CtS l D kA Hs σ y cc mL ret fr lc mc ms H0 av A Post) (hp : ∀ v H, off A H0 H → Post v H → Post' v H) : CtS l D kA Hs σ y cc mL ret fr lc mc ms H0 av A Post' := by
  unfold CtS Met at h ⊢
  refine MetFree.mono h (fun _ _ z => z) (fun _ _ _ _ _ z => z) (fun a s o s' hP hQ => ?_)
  obtain ⟨⟨⟨v, hv, hq⟩, hf⟩, hL⟩ := hQ
  exact ⟨⟨⟨v, hv, hp v _ (off_F hf hP.2.1) hq⟩, hf⟩, hL⟩
theorem CtSX.pure (h : CtSX l D kA Hs σ y cc mL ret fr lc mc ms H0 av A Post PX) (hx : ∀ E H, PX E H → False) (hp : ∀ v H, off A H0 H → Post v H → Post' v H) : CtS l D kA Hs σ y cc mL ret fr lc mc ms H0 av A Post' := by
  unfold CtSX vx_Met at h
  unfold CtS Met
  refine MetFree.mono h (fun _ _ z => z) (fun _ _ _ _ _ z => z) (fun a s o s' hP hQ => ?_)
  rcases hQ with ⟨⟨⟨v, hv, hq⟩, hf⟩, hL⟩ | ⟨q, -, E, ce, L, hX, -⟩
  · exact ⟨⟨⟨v, hv, hp v _ (off_F hf hP.2.1) hq⟩, hf⟩, hL⟩
  · exact (hx E _ hX.1).elim
end MON
theorem vu_ne' {α : Type} {f : Nat → α} {i j : Nat} {x : α} (h : j ≠ i) : va_up f i x j = f j := vu_ne h
/-- the rows of the states to go back to -/
def Hq (W : Nat → MS) (π : Nat → Nat) (u : Nat) (p : Nat → Nat → Int32) (q : Nat) : Prop := ∀ k, k < u → ∃ n2 t2, SQ (W (π (3 + k))) (p k) n2 t2 q
def p_ph (p : Nat → Nat → Int32) (s : Nat → Int32) (u : Nat) : Nat → Nat → Int32 := fun k => if u < 8 then (if k = u then s else p k) else if k = 7 then s else p (k + 1)
def p_u (u : Nat) : Nat := if u < 8 then u + 1 else 8
section HQS
variable {W : Nat → MS} {π : Nat → Nat} {u : Nat} {p : Nat → Nat → Int32} {s : Nat → Int32} {n t q q2 : Nat}
theorem Hq.more (h : Hq W π u p q) (hq : q ≤ q2) : Hq W π u p q2 := fun k hk => by
  obtain ⟨a, b, c⟩ := h k hk
  exact ⟨a, b, c.more hq⟩
theorem Hq.push {M2 : MS} (h : Hq W π u p q) (hp : Pm π) (hu : u ≤ 8) (hq : q ≤ q2) (h1 : SQ (W (π 0)) s n t q) : Hq (va_up (va_up W (π 1) (m_copy (W (π 1)) (W (π 0)) n)) (π 0) M2) (p_push π u) (p_u u) (p_ph p s u) q2 := by
  obtain ⟨p1, p2, p3⟩ := hp
  have n01 : π 1 ≠ π 0 := fun z => absurd (p2 1 0 (by decide) (by decide) z) (by decide)
  have nk : ∀ k, k < 8 → π (3 + k) ≠ π 0 ∧ π (3 + k) ≠ π 1 := fun k hk => ⟨fun z => by have := p2 (3 + k) 0 (by omega) (by decide) z; omega, fun z => by have := p2 (3 + k) 1 (by omega) (by decide) z; omega⟩
  intro k hk
  unfold p_u at hk
  unfold p_ph
  by_cases g : u < 8
  · rw [if_pos g] at hk
    rw [if_pos g]
    by_cases ek : k = u
    · subst ek
      have ep9 : p_push π k (3 + k) = π 1 := by unfold p_push; rw [if_pos g, if_neg (by omega), if_pos rfl]
      rw [ep9, vu_ne n01, vu_eq, if_pos rfl]
      exact ⟨n, t, (h1.1.copy _).more (by omega) hq (by omega) hq, by have := h1.2; omega⟩
    · have ep9 : p_push π u (3 + k) = π (3 + k) := by unfold p_push; rw [if_pos g, if_neg (by omega), if_neg (by omega)]
      obtain ⟨a, b, c⟩ := h k (by omega)
      rw [ep9, vu_ne (nk k (by omega)).1, vu_ne (nk k (by omega)).2, if_neg ek]
      exact ⟨a, b, c.more hq⟩
  · rw [if_neg g] at hk
    rw [if_neg g]
    have eu : u = 8 := by omega
    subst eu
    by_cases ek : k = 7
    · subst ek
      have ep9 : p_push π 8 (3 + 7) = π 1 := by unfold p_push; rw [if_neg (by decide), if_neg (by decide), if_pos (by decide)]
      rw [ep9, vu_ne n01, vu_eq, if_pos rfl]
      exact ⟨n, t, (h1.1.copy _).more (by omega) hq (by omega) hq, by have := h1.2; omega⟩
    · have ep9 : p_push π 8 (3 + k) = π (3 + (k + 1)) := by unfold p_push; rw [if_neg (by decide), if_neg (by omega), if_neg (by omega), if_pos (by omega)]; rfl
      obtain ⟨a, b, c⟩ := h (k + 1) (by omega)
      rw [ep9, vu_ne (nk (k + 1) (by omega)).1, vu_ne (nk (k + 1) (by omega)).2, if_neg ek]
      exact ⟨a, b, c.more hq⟩
theorem Hq.back {Mx : MS} (h : Hq W π u p q) (hp : Pm π) (hu : u ≤ 8) : Hq (va_up (va_up W (π 1) (m_copy (W (π 1)) (W (π 0)) n)) (π 0) Mx) (p_swap π 0 1) u p q := by
  obtain ⟨p1, p2, p3⟩ := hp
  intro k hk
  have e : p_swap π 0 1 (3 + k) = π (3 + k) := by unfold p_swap; rw [if_neg (by omega), if_neg (by omega)]
  rw [e, vu_ne (fun z => by have := p2 (3 + k) 0 (by omega) (by decide) z; omega), vu_ne (fun z => by have := p2 (3 + k) 1 (by omega) (by decide) z; omega)]
  exact h k hk
theorem Hq.undo (h : Hq W π (u + 1) p q) : Hq W (p_swap π 0 (3 + u)) u p q := fun k hk => by
  have e : p_swap π 0 (3 + u) (3 + k) = π (3 + k) := by unfold p_swap; rw [if_neg (by omega), if_neg (by omega)]
  rw [e]
  exact h k (by omega)
end HQS
/-- the law's object at a: its Metro M now, the row s that goes with it, u states to go back to with their rows p; its output; how long its script is; X: cells of the law's that are none of its -/
def Lw (D : va_G) (kA : Nat → ClassId) (Hs H : Heap) (a : Nat) (M : MS) (s : Nat → Int32) (n t q u : Nat) (p : Nat → Nat → Int32) (no : Nat) (go : Nat → Int32) (ns : Nat) (X : Nat → Prop) : Prop :=
  ∃ (W : Nat → MS) (π : Nat → Nat) (ES : Nat → Prop) (ep fc : Int32) (vs cs : Nat) (gs tt : Nat → Int32), Fs D kA H a W π ES u 0 ep fc no go vs cs ns gs ∧ W (π 0) = M ∧ SQ M s n t q ∧ Hq W π u p q ∧ Ag Hs H ∧ Hs.size ≤ a ∧ (no ≤ 16 ∧ ∀ j, j < no → ∃ c, c < 128 ∧ go j = nI c) ∧ (ns ≤ 60 ∧ Tx gs tt ns) ∧ ∀ x, X x → Hs.size ≤ x ∧ x < H.size ∧ x ≠ vs ∧ ¬ ES x ∧ ¬ blk a 329 x
section LWS
variable {D : va_G} {kA : Nat → ClassId} {Hs H H1 : Heap} {a : Nat} {M : MS} {s : Nat → Int32} {n t q u : Nat} {p : Nat → Nat → Int32} {no : Nat} {go : Nat → Int32} {ns : Nat} {X X' F : Nat → Prop}
theorem Lw.sq (h : Lw D kA Hs H a M s n t q u p no go ns X) : SQ M s n t q := by
  obtain ⟨W, π, ES, ep, fc, vs, cs, gs, tt, -, -, h, -⟩ := h
  exact h
theorem Lw.ag (h : Lw D kA Hs H a M s n t q u p no go ns X) : Ag Hs H := by
  obtain ⟨W, π, ES, ep, fc, vs, cs, gs, tt, -, -, -, -, h, -⟩ := h
  exact h
theorem Lw.ha (h : Lw D kA Hs H a M s n t q u p no go ns X) : Hs.size ≤ a := by
  obtain ⟨W, π, ES, ep, fc, vs, cs, gs, tt, -, -, -, -, -, h, -⟩ := h
  exact h
theorem Lw.top (h : Lw D kA Hs H a M s n t q u p no go ns X) : a + 329 ≤ H.size := by
  obtain ⟨W, π, ES, ep, fc, vs, cs, gs, tt, h, -⟩ := h
  exact h.2.2.2.2.2.2.1.2.2.2
theorem Lw.u8 (h : Lw D kA Hs H a M s n t q u p no go ns X) : u ≤ 8 := by
  obtain ⟨W, π, ES, ep, fc, vs, cs, gs, tt, h, -⟩ := h
  exact h.2.2.2.2.2.2.2.1
theorem Lw.rcv (h : Lw D kA Hs H a M s n t q u p no go ns X) : ∃ fs, hp D H a (eO 9 fs) := by
  obtain ⟨W, π, ES, ep, fc, vs, cs, gs, tt, h, -⟩ := h
  exact ⟨_, h.1.1⟩
theorem Lw.xs (h : Lw D kA Hs H a M s n t q u p no go ns X) : ∀ x, X x → Hs.size ≤ x ∧ x < H.size := by
  obtain ⟨W, π, ES, ep, fc, vs, cs, gs, tt, -, -, -, -, -, -, -, -, h⟩ := h
  exact fun x hx => ⟨(h x hx).1, (h x hx).2.1⟩
theorem Lw.keep (h : Lw D kA Hs H a M s n t q u p no go ns X) (o : off F H H1) (hF : ∀ x, F x → X x ∨ H.size ≤ x) : Lw D kA Hs H1 a M s n t q u p no go ns X := by
  obtain ⟨W, π, ES, ep, fc, vs, cs, gs, tt, h1, h2, h3, h4, h5, h6, h7, h8, h9⟩ := h
  have hl := h1.2.2.2.2.2.2.1
  refine ⟨W, π, ES, ep, fc, vs, cs, gs, tt, h1.kept o (fun x hx hf => ?_) (fun hf => ?_) (fun x hx hf => ?_), h2, h3, h4, h5.keep o (fun x hf => ?_), h6, h7, h8, fun x hx => ?_⟩
  · rcases hF x hf with z | z
    · exact (h9 x z).2.2.2.2 hx
    · have := hx.2; have := hl.2.2.2; omega
  · rcases hF _ hf with z | z
    · exact (h9 _ z).2.2.1 rfl
    · have := hl.2.2.1; omega
  · rcases hF x hf with z | z
    · exact (h9 x z).2.2.2.1 hx
    · have := (hl.1 x hx).2.1; omega
  · rcases hF x hf with z | z
    · exact (h9 x z).1
    · have := h5.1; omega
  · obtain ⟨a1, a2, a3⟩ := h9 x hx
    exact ⟨a1, Nat.lt_of_lt_of_le a2 o.1, a3⟩
theorem Lw.new (h : Lw D kA Hs H a M s n t q u p no go ns X) (o : off nof H H1) : Lw D kA Hs H1 a M s n t q u p no go ns X := h.keep o (fun _ z => z.elim)
theorem Lw.less (h : Lw D kA Hs H a M s n t q u p no go ns X) (hX : ∀ x, X' x → X x) : Lw D kA Hs H a M s n t q u p no go ns X' := by
  obtain ⟨W, π, ES, ep, fc, vs, cs, gs, tt, h1, h2, h3, h4, h5, h6, h7, h8, h9⟩ := h
  exact ⟨W, π, ES, ep, fc, vs, cs, gs, tt, h1, h2, h3, h4, h5, h6, h7, h8, fun x hx => h9 x (hX x hx)⟩
/-- new cells are the law's own -/
theorem Lw.claim (h : Lw D kA Hs H a M s n t q u p no go ns X) (o : off nof H H1) : Lw D kA Hs H1 a M s n t q u p no go ns (fun x => X x ∨ (H.size ≤ x ∧ x < H1.size)) := by
  obtain ⟨W, π, ES, ep, fc, vs, cs, gs, tt, h1, h2, h3, h4, h5, h6, h7, h8, h9⟩ := h
  have hl := h1.2.2.2.2.2.2.1
  refine ⟨W, π, ES, ep, fc, vs, cs, gs, tt, h1.new o, h2, h3, h4, h5.keep o (fun _ z => z.elim), h6, h7, h8, fun x hx => ?_⟩
  rcases hx with hx | ⟨b1, b2⟩
  · obtain ⟨a1, a2, a3⟩ := h9 x hx
    exact ⟨a1, Nat.lt_of_lt_of_le a2 o.1, a3⟩
  · have := h5.1
    exact ⟨by omega, b2, fun e => by have := hl.2.2.1; omega, fun e => by have := (hl.1 x e).2.1; omega, fun e => by have := e.2; have := hl.2.2.2; omega⟩
theorem Lw.more {q2 : Nat} (h : Lw D kA Hs H a M s n t q u p no go ns X) (hq : q ≤ q2) : Lw D kA Hs H a M s n t q2 u p no go ns X := by
  obtain ⟨W, π, ES, ep, fc, vs, cs, gs, tt, h1, h2, h3, h4, h5⟩ := h
  exact ⟨W, π, ES, ep, fc, vs, cs, gs, tt, h1, h2, h3.more hq, h4.more hq, h5⟩
end LWS
section VPK
variable {p : Program} {l : Launch} {e : Env} {R : Room} {s : State} {m : MethodId} {args : Array Value} {below : List Frame} {meth : Method} {c : Code} {nL : Nat} {A A1 : Nat → Prop} {Q : State → Prop} {H : Heap} {k n pc pc' : Nat} {ls ls' : List (Nat × Value)} {st rest : List Value}
variable {cc : ByteArray} {own : String} {D : va_G} {kA : Nat → ClassId} {ret : Option FieldType} {mc ms : Nat}
/-- a call that leaves the heap as it is: its answer -/
theorem V_cPk (Y : Ky p s m args meth c cc nL ret own D kA A) {r : Int32} (hr : Rn p l e R s m args below meth c nL H k n pc ls st mc ms rest A1 (pI fun v H1 => v = r ∧ H1 = H)) (hA : ∀ q, A1 q → A q) (hpc : pc + 3 = pc')
    (kk : V p l e R s m args below meth c nL A Q H (k + mc) (n + ms) pc' ls (.int r :: rest)) : V p l e R s m args below meth c nL A Q H k n pc ls st :=
  V_cI Y hr hA hpc fun v H1 hq ho => by obtain ⟨rfl, rfl⟩ := hq; exact kk
end VPK
