/-! The class's whole state and the reference's. -/
section GRD
variable {M M' : MS} {s s' : Nat → Int32} {n t A B C T i d q : Nat} {x y : Int32}
theorem SS.cells (h : SS M s n t A B C T) (e : ∀ k, k < 169 → s' k = s k) : SS M s' n t A B C T := by
  have er : ∀ j w, j < 8 → w < 17 → ro s' j w = ro s j w := fun j w hj hw => e _ (by omega)
  obtain ⟨⟨⟨r1, r2, r3, r4, r5⟩, ⟨g0, g1, g2, g3, g4, g5, g6, g7, g8⟩, ⟨b, p, f1, f2, f3, f4⟩, hz, ht, ⟨a, b', c, q1, q2, q3, q4, q5, q6⟩, hb, hc⟩, ha⟩ := h
  refine ⟨⟨⟨by rw [e 0 (by decide)]; exact r1, r2, by rw [e 1 (by decide)]; exact r3, r4, fun j hj => ?_⟩, ⟨?_, ?_, ?_, ?_, ?_, ?_, ?_, ?_, ?_⟩, ⟨b, p, f1, f2, ?_, ?_⟩, fun w hw => ?_, fun w hw => ?_, ⟨a, b', c, q1, ?_, q3, ?_, q5, ?_⟩, hb, fun j hj => ?_⟩, ha⟩
  · rw [er j 2 hj (by decide), er j 4 hj (by decide), er j 8 hj (by decide), er j 9 hj (by decide)]; exact r5 j hj
  · rw [e 0 (by decide)]; exact g0
  · rw [e 1 (by decide)]; exact g1
  · rw [e 4 (by decide)]; exact g2
  · rw [e 5 (by decide)]; exact g3
  · rw [e 6 (by decide)]; exact g4
  · rw [e 7 (by decide)]; exact g5
  · rw [e 8 (by decide)]; exact g6
  · rw [e 2 (by decide)]; exact g7
  · rw [e 3 (by decide)]; exact g8
  · rw [e 2 (by decide)]; exact f3
  · rw [e 3 (by decide)]; exact f4
  · rw [e (9 + w) (by omega)]; exact hz w hw
  · rw [e (21 + w) (by omega)]; exact ht w hw
  · rw [e 5 (by decide)]; exact q2
  · rw [e 7 (by decide)]; exact q4
  · rw [e 8 (by decide)]; exact q6
  · obtain ⟨c1, c2, c3⟩ := hc j hj
    exact ⟨c1.row (fun w hw => er j w (by omega) hw), c2, c3⟩
theorem m_cp_c (M M1 : MS) : ∀ n j, j < n → (m_cp M M1 n).2.2.2.1 j = M1.2.2.2.1 j ∧ (m_cp M M1 n).2.2.2.2 j = M1.2.2.2.2 j
  | 0, j, h => absurd h (Nat.not_lt_zero j)
  | n + 1, j, h => by
    show va_up (m_cp M M1 n).2.2.2.1 n (M1.2.2.2.1 n) j = _ ∧ va_up (m_cp M M1 n).2.2.2.2 n (M1.2.2.2.2 n) j = _
    by_cases e : j = n
    · subst e; exact ⟨vu_eq, vu_eq⟩
    · rw [vu_ne e, vu_ne e]; exact m_cp_c M M1 n j (by omega)
theorem SS.copy (h : SS M s n t A B C T) (M' : MS) : SS (m_copy M' M n) s n t A B C T := by
  obtain ⟨⟨r, g, f, hz, ht, hq, hb, hc⟩, ha⟩ := h
  have e : ∀ j, j < n → (m_copy M' M n).2.2.2.1 j = M.2.2.2.1 j ∧ (m_copy M' M n).2.2.2.2 j = M.2.2.2.2 j := fun j hj => m_cp_c M' M n j hj
  refine ⟨⟨r, g, f, hz, ht, hq, (m_bal_c (M := M) (M' := m_copy M' M n) n (fun j hj => by rw [(e j hj).1])).trans hb, fun j hj => ?_⟩, fun j hj => ?_⟩
  · rw [(e j hj).1, (e j hj).2]; exact hc j hj
  · rw [(e j hj).1]; exact ha j hj
/-- with the bounds of q commands -/
def SQ (M : MS) (s : Nat → Int32) (n t q : Nat) : Prop := SS M s n t (7000 * q) q (10 * q) q ∧ t ≤ 2000 * q
theorem SQ.more {q' : Nat} (h : SQ M s n t q) (hq : q ≤ q') : SQ M s n t q' := ⟨h.1.more (by omega) hq (by omega) hq, by have := h.2; omega⟩
theorem SQ.step (h : SQ M s n t q) (hq : q ≤ 40000) {k : Nat} (hk : k < 8) (x y : Int32) : (m_prob M k x y = 0 → (Q8 s n t k x y).1 = 0 ∧ (m_do M (t / 1440) n k x y).1 = (Q8 s n t k x y).2.1 ∧ ∃ n' t', SQ (m_do M (t / 1440) n k x y).2 (Q8 s n t k x y).2.2 n' t' (q + 1)) ∧ (¬ m_prob M k x y = 0 → (Q8 s n t k x y).1 = pm k (m_prob M k x y)) := by
  have ht := h.2
  obtain ⟨a, b⟩ := sim_all h.1 hk x y (by omega)
  refine ⟨fun z => ?_, b⟩
  obtain ⟨a1, a2, n', t', a3, a4⟩ := a z
  exact ⟨a1, a2, n', t', a4.more (by omega) (by omega) (by omega) (by omega), by omega⟩
theorem pm_ne {k : Nat} {z : Int32} : ¬ pm k z = 0 := by
  unfold pm
  (repeat' split) <;> decide
theorem q_do_8 (c : Nat → Int32) (i : Nat) : q_do s n t (c (3 * i)) (c (3 * i + 1)) (c (3 * i + 2)) = Q8 s n t (s_k c i) (s_x c i) (s_y c i) := by
  unfold q_do s_k s_x s_y kcode
  by_cases h1 : c (3 * i) = 99
  · rw [if_pos h1, if_pos h1, if_pos (Or.inl h1), show (0 : Int32).toNatClampNeg = 0 from rfl, Q8_0]
  · rw [if_neg h1, if_neg h1]
    by_cases h2 : c (3 * i) = 119
    · rw [if_pos h2, if_pos h2, if_pos (Or.inr h2), show (7 : Int32).toNatClampNeg = 7 from rfl, Q8_7]
    · rw [if_neg h2, if_neg h2, if_neg (show ¬ (c (3 * i) = 99 ∨ c (3 * i) = 119) from fun z => z.elim h1 h2)]
      by_cases h3 : c (3 * i) = 108
      · rw [if_pos h3, if_pos h3, show (1 : Int32).toNatClampNeg = 1 from rfl, Q8_1]
      · rw [if_neg h3, if_neg h3]
        by_cases h4 : c (3 * i) = 105
        · rw [if_pos h4, if_pos h4, show (2 : Int32).toNatClampNeg = 2 from rfl, Q8_2]
        · rw [if_neg h4, if_neg h4]
          by_cases h5 : c (3 * i) = 111
          · rw [if_pos h5, if_pos h5, show (3 : Int32).toNatClampNeg = 3 from rfl, Q8_3]
          · rw [if_neg h5, if_neg h5]
            by_cases h6 : c (3 * i) = 102
            · rw [if_pos h6, if_pos h6, show (4 : Int32).toNatClampNeg = 4 from rfl, Q8_4]
            · rw [if_neg h6, if_neg h6, show (5 : Int32).toNatClampNeg = 5 from rfl, Q8_5]
/-- a script's commands -/
theorem run_sim (M : MS) (c : Nat → Int32) : ∀ (r i : Nat) (s : Nat → Int32) (n t q : Nat), SQ (m_st M c i) s n t q → q + r ≤ 40000 →
    ∃ j, i ≤ j ∧ j ≤ i + r ∧ (∀ k, i ≤ k → k < j → m_pb M c k = 0 ∧ ∃ n d, MI (m_st M c k) n d) ∧ ((j < i + r ∧ ¬ m_pb M c j = 0 ∧ (q_run c r i s).1 = some j) ∨ (j = i + r ∧ (q_run c r i s).1 = none ∧ ∃ n' t', SQ (m_st M c j) (q_run c r i s).2 n' t' (q + r)))
  | 0, i, s, n, t, q, h, _ => ⟨i, Nat.le_refl _, Nat.le_refl _, fun k h1 h2 => by omega, Or.inr ⟨rfl, rfl, n, t, h⟩⟩
  | r + 1, i, s, n, t, q, h, hq => by
    have hmi := h.1.mi
    obtain ⟨a, b⟩ := h.step (by omega) (s_k_spec c i).1 (s_x c i) (s_y c i)
    have e1 : q_one s c i = Q8 s n t (s_k c i) (s_x c i) (s_y c i) := by rw [h.1.1.1.one]; exact q_do_8 c i
    by_cases z : m_pb M c i = 0
    · obtain ⟨a1, -, n', t', a2⟩ := a z
      rw [← m_st_s hmi, ← e1] at a2
      rw [← e1] at a1
      obtain ⟨j, j1, j2, j3, j4⟩ := run_sim M c r (i + 1) _ n' t' (q + 1) a2 (by omega)
      have er : q_run c (r + 1) i s = q_run c r (i + 1) (q_one s c i).2.2 := if_pos a1
      refine ⟨j, by omega, by omega, fun k k1 k2 => ?_, ?_⟩
      · by_cases e : k = i
        · subst e; exact ⟨z, n, _, hmi⟩
        · exact j3 k (by omega) k2
      · rw [er]
        rcases j4 with ⟨u1, u2, u3⟩ | ⟨u1, u2, n9, t9, u3⟩
        · exact Or.inl ⟨by omega, u2, u3⟩
        · exact Or.inr ⟨by omega, u2, n9, t9, by rw [show q + (r + 1) = q + 1 + r by omega]; exact u3⟩
    · have er : q_run c (r + 1) i s = (some i, s) := if_neg (by rw [e1, b z]; exact pm_ne)
      refine ⟨i, Nat.le_refl _, by omega, fun k k1 k2 => by omega, Or.inl ⟨by omega, z, by rw [er]⟩⟩
/-- the grand relation -/
def Gp (W : Nat → MS) (π : Nat → Nat) (u : Nat) (hs ep fc : Int32) (no : Nat) (go : Nat → Int32) (ns : Nat) (gs F s v p uu tt : Nat → Int32) (n t q : Nat) : Prop :=
  SQ (W (π 0)) s n t q ∧ (F 5 = nI u ∧ F 3 = hs ∧ F 8 = nI no ∧ F 10 = nI ns ∧ F 13 = ep ∧ F 14 = fc) ∧ (hs = 1 → ∃ n2 t2, SQ (W 2) v n2 t2 q) ∧ (∀ k, k < u → ∃ n2 t2, SQ (W (π (3 + k))) (fun j => p (169 * k + j)) n2 t2 q) ∧
  (no ≤ 16 ∧ ∀ j, j < no → go j = uu j ∧ ∃ c, c < 128 ∧ go j = nI c) ∧ (ns ≤ 60 ∧ Tx gs tt ns) ∧ (ep = -1 ∨ ∃ e, e < 2 ^ 31 ∧ ep = nI e) ∧ (fc = -1 ∨ ∃ e, e < 2 ^ 31 ∧ fc = nI e)
section GPS
variable {W : Nat → MS} {π : Nat → Nat} {u : Nat} {hs ep fc : Int32} {no : Nat} {go : Nat → Int32} {ns : Nat} {gs F F' v p uu tt : Nat → Int32}
theorem Gp.more {q' : Nat} (h : Gp W π u hs ep fc no go ns gs F s v p uu tt n t q) (hq : q ≤ q') : Gp W π u hs ep fc no go ns gs F s v p uu tt n t q' := by
  obtain ⟨h1, h2, h3, h4, h5⟩ := h
  refine ⟨h1.more hq, h2, fun z => ?_, fun k hk => ?_, h5⟩
  · obtain ⟨a, b, c⟩ := h3 z; exact ⟨a, b, c.more hq⟩
  · obtain ⟨a, b, c⟩ := h4 k hk; exact ⟨a, b, c.more hq⟩
/-- only F's other fields -/
theorem Gp.fld (h : Gp W π u hs ep fc no go ns gs F s v p uu tt n t q) (e : F' 5 = F 5 ∧ F' 3 = F 3 ∧ F' 8 = F 8 ∧ F' 10 = F 10 ∧ F' 13 = F 13 ∧ F' 14 = F 14) : Gp W π u hs ep fc no go ns gs F' s v p uu tt n t q := by
  obtain ⟨h1, ⟨f1, f2, f3, f4, f5, f6⟩, h3⟩ := h
  obtain ⟨e1, e2, e3, e4, e5, e6⟩ := e
  exact ⟨h1, ⟨e1.trans f1, e2.trans f2, e3.trans f3, e4.trans f4, e5.trans f5, e6.trans f6⟩, h3⟩
theorem Gp.f6 (h : Gp W π u hs ep fc no go ns gs F s v p uu tt n t q) (z : Int32) : Gp W π u hs ep fc no go ns gs (upd F 6 z) s v p uu tt n t q :=
  h.fld ⟨pk_un (by decide), pk_un (by decide), pk_un (by decide), pk_un (by decide), pk_un (by decide), pk_un (by decide)⟩
/-- a change pushes what was before -/
theorem Gp.push {M2 : MS} {s2 : Nat → Int32} {n2 t2 q2 : Nat} (h : Gp W π u hs ep fc no go ns gs F s v p uu tt n t q) (hp : Pm π) (hu : u ≤ 8) (hq : q ≤ q2) (h2 : SQ M2 s2 n2 t2 q2) (e : F' 5 = nI (r_ok u) ∧ F' 3 = F 3 ∧ F' 8 = F 8 ∧ F' 10 = F 10 ∧ F' 13 = F 13 ∧ F' 14 = F 14) :
    Gp (va_up (va_up W (π 1) (m_copy (W (π 1)) (W (π 0)) n)) (π 0) M2) (p_push π u) (if u < 8 then u + 1 else 8) hs ep fc no go ns gs F' s2 v (r_push p s u) uu tt n2 t2 q2 := by
  obtain ⟨h1, ⟨f1, f2, f3, f4, f5, f6⟩, h3, h4, h5, h6, h7, h8⟩ := h
  obtain ⟨e1, e2, e3, e4, e5, e6⟩ := e
  obtain ⟨p1, p2, p3⟩ := hp
  have n01 : π 1 ≠ π 0 := fun z => absurd (p2 1 0 (by decide) (by decide) z) (by decide)
  have n20 : 2 ≠ π 0 := fun z => absurd (p2 2 0 (by decide) (by decide) (p3.trans z)) (by decide)
  have n21 : 2 ≠ π 1 := fun z => absurd (p2 2 1 (by decide) (by decide) (p3.trans z)) (by decide)
  have nk : ∀ k, k < 8 → π (3 + k) ≠ π 0 ∧ π (3 + k) ≠ π 1 := fun k hk => ⟨fun z => by have := p2 (3 + k) 0 (by omega) (by decide) z; omega, fun z => by have := p2 (3 + k) 1 (by omega) (by decide) z; omega⟩
  have ru : nI (r_ok u) = nI (if u < 8 then u + 1 else 8) := by
    unfold r_ok
    by_cases g : u = 8
    · rw [if_pos g, if_neg (by omega)]
    · rw [if_neg g, if_pos (by omega)]
  refine ⟨by rw [p_push_0, vu_eq]; exact h2, ⟨e1.trans ru, e2.trans f2, e3.trans f3, e4.trans f4, e5.trans f5, e6.trans f6⟩, fun z => ?_, fun k hk => ?_, h5, h6, h7, h8⟩
  · obtain ⟨a, b, c⟩ := h3 z
    rw [vu_ne n20, vu_ne n21]
    exact ⟨a, b, c.more hq⟩
  · by_cases g : u < 8
    · rw [if_pos g] at hk
      have er : r_push p s u = va_cpy s p 0 (169 * u) 169 := if_neg (by omega)
      by_cases ek : k = u
      · subst ek
        have ep9 : p_push π k (3 + k) = π 1 := by unfold p_push; rw [if_pos g, if_neg (by omega), if_pos rfl]
        rw [ep9, vu_ne n01, vu_eq]
        refine ⟨n, t, (h1.1.copy _).more (by omega) hq (by omega) hq |>.cells (fun j hj => ?_), by have := h1.2; omega⟩
        rw [er]
        unfold va_cpy
        rw [if_pos (by omega)]
        exact congrArg s (by omega)
      · have ep9 : p_push π u (3 + k) = π (3 + k) := by unfold p_push; rw [if_pos g, if_neg (by omega), if_neg (by omega)]
        obtain ⟨a, b, c⟩ := h4 k (by omega)
        rw [ep9, vu_ne (nk k (by omega)).1, vu_ne (nk k (by omega)).2]
        refine ⟨a, b, (c.more hq).1.cells (fun j hj => ?_), (c.more hq).2⟩
        rw [er]
        unfold va_cpy
        rw [if_neg (by omega)]
    · rw [if_neg g] at hk
      have eu : u = 8 := by omega
      subst eu
      have er : r_push p s 8 = va_cpy s (va_cpy p p 169 0 1183) 0 (169 * 7) 169 := if_pos rfl
      by_cases ek : k = 7
      · subst ek
        have ep9 : p_push π 8 (3 + 7) = π 1 := by unfold p_push; rw [if_neg (by decide), if_neg (by decide), if_pos (by decide)]
        rw [ep9, vu_ne n01, vu_eq]
        refine ⟨n, t, (h1.1.copy _).more (by omega) hq (by omega) hq |>.cells (fun j hj => ?_), by have := h1.2; omega⟩
        rw [er]
        unfold va_cpy
        rw [if_pos (by omega)]
        exact congrArg s (by omega)
      · have ep9 : p_push π 8 (3 + k) = π (3 + (k + 1)) := by unfold p_push; rw [if_neg (by decide), if_neg (by omega), if_neg (by omega), if_pos (by omega)]; rfl
        obtain ⟨a, b, c⟩ := h4 (k + 1) (by omega)
        rw [ep9, vu_ne (nk (k + 1) (by omega)).1, vu_ne (nk (k + 1) (by omega)).2]
        refine ⟨a, b, (c.more hq).1.cells (fun j hj => ?_), (c.more hq).2⟩
        rw [er]
        unfold va_cpy
        rw [if_neg (by omega), if_pos (by omega)]
        exact congrArg p (by omega)
theorem Gp.save (h : Gp W π u hs ep fc no go ns gs F s v p uu tt n t q) (hp : Pm π) (hu : u ≤ 8) : Gp (va_up W 2 (m_copy (W 2) (W (π 0)) n)) π u 1 ep fc no go ns gs (upd (upd F 6 0) 3 1) s s p uu tt n t q := by
  obtain ⟨h1, ⟨f1, f2, f3, f4, f5, f6⟩, h3, h4, h5⟩ := h
  obtain ⟨p1, p2, p3⟩ := hp
  have n20 : π 0 ≠ 2 := fun z => absurd (p2 0 2 (by decide) (by decide) (z.trans p3.symm)) (by decide)
  refine ⟨by rw [vu_ne n20]; exact h1, ⟨by rw [pk_un (by decide), pk_un (by decide)]; exact f1, pk_us, by rw [pk_un (by decide), pk_un (by decide)]; exact f3, by rw [pk_un (by decide), pk_un (by decide)]; exact f4, by rw [pk_un (by decide), pk_un (by decide)]; exact f5, by rw [pk_un (by decide), pk_un (by decide)]; exact f6⟩, fun _ => ⟨n, t, by rw [vu_eq]; exact h1.1.copy _, h1.2⟩, fun k hk => ?_, h5⟩
  rw [vu_ne (fun z => by have := p2 (3 + k) 2 (by omega) (by decide) (z.trans p3.symm); omega)]
  exact h4 k hk
theorem Gp.rest {n2 t2 : Nat} (h : Gp W π u hs ep fc no go ns gs F s v p uu tt n t q) (hp : Pm π) (h2 : SQ (W 2) v n2 t2 q) : Gp (va_up W (π 0) (m_copy (W (π 0)) (W 2) n2)) π 0 hs ep fc no go ns gs (upd (upd F 6 0) 5 0) v v p uu tt n2 t2 q := by
  obtain ⟨h1, ⟨f1, f2, f3, f4, f5, f6⟩, h3, h4, h5⟩ := h
  obtain ⟨p1, p2, p3⟩ := hp
  have n20 : 2 ≠ π 0 := fun z => absurd (p2 2 0 (by decide) (by decide) (p3.trans z)) (by decide)
  refine ⟨by rw [vu_eq]; exact ⟨h2.1.copy _, h2.2⟩, ⟨pk_us, by rw [pk_un (by decide), pk_un (by decide)]; exact f2, by rw [pk_un (by decide), pk_un (by decide)]; exact f3, by rw [pk_un (by decide), pk_un (by decide)]; exact f4, by rw [pk_un (by decide), pk_un (by decide)]; exact f5, by rw [pk_un (by decide), pk_un (by decide)]; exact f6⟩, fun z => by rw [vu_ne n20]; exact ⟨n2, t2, h2⟩, fun k hk => absurd hk (Nat.not_lt_zero k), h5⟩
theorem Gp.undo (h : Gp W π (u + 1) hs ep fc no go ns gs F s v p uu tt n t q) (hu : u < 8) : ∃ n2 t2, Gp W (p_swap π 0 (3 + u)) u hs ep fc no go ns gs (upd (upd F 6 0) 5 (nI u)) (fun j => p (169 * u + j)) v p uu tt n2 t2 q := by
  obtain ⟨h1, ⟨f1, f2, f3, f4, f5, f6⟩, h3, h4, h5⟩ := h
  obtain ⟨n2, t2, g⟩ := h4 u (Nat.lt_succ_self u)
  refine ⟨n2, t2, by rw [p_sw0]; exact g, ⟨pk_us, by rw [pk_un (by decide), pk_un (by decide)]; exact f2, by rw [pk_un (by decide), pk_un (by decide)]; exact f3, by rw [pk_un (by decide), pk_un (by decide)]; exact f4, by rw [pk_un (by decide), pk_un (by decide)]; exact f5, by rw [pk_un (by decide), pk_un (by decide)]; exact f6⟩, h3, fun k hk => ?_, h5⟩
  have e : p_swap π 0 (3 + u) (3 + k) = π (3 + k) := by unfold p_swap; rw [if_neg (by omega), if_neg (by omega)]
  rw [e]
  exact h4 k (by omega)
end GPS
end GRD
