/-! Metro: a block of 29 cells at m: Metro, Line, zones, taps, cards, 8 times (Card, days, sums). M = (G, Z, T, C, L): G 0 .. 6 the Metro's numbers (issued, minute, loaded, charged, paidBack, complete, incomplete), G 7, G 8 base and zone fare; zones; taps; cards; each card's entries (latest first). -/
abbrev MS : Type := (Nat → Int32) × (Nat → Int32) × (Nat → Int32) × (Nat → KS) × (Nat → List (Int32 × Int32))
def mF (m : Nat) (g : Nat → Int32) : List Value := [.ref (m + 1), .ref (m + 4), .int (g 0), .int (g 1), .int (g 2), .int (g 3), .int (g 4), .int (g 5), .int (g 6)]
def m_ca (m i : Nat) : Nat := m + 5 + 3 * i
def Mt (D : va_G) (kA : Nat → ClassId) (H : Heap) (m : Nat) (M : MS) (E : Nat → Option Nat) : Prop :=
  hp D H m (eO 7 (mF m M.1)) ∧ Ln D kA H (m + 1) M.2.1 M.2.2.1 (M.1 7) (M.1 8) ∧ hp D H (m + 4) (eR kA 6 8 (fun j => some (m_ca m j))) ∧ ∀ i, i < 8 → Cd D kA H (m_ca m i) (M.2.2.2.1 i) (E i)
def Mk (D : va_G) (kA : Nat → ClassId) (H : Heap) (m : Nat) (M : MS) (E : Nat → Option Nat) (ES : Nat → Prop) : Prop :=
  Mt D kA H m M E ∧ (∀ i, i < 8 → Chn D H ES (E i) (M.2.2.2.2 i)) ∧ ∀ q, ES q → ¬ blk m 29 q
def Mc (D : va_G) (kA : Nat → ClassId) (H : Heap) (m : Nat) (M : MS) (ES : Nat → Prop) : Prop := ∃ E, Mk D kA H m M E ES
def m_g (M : MS) (j : Nat) (x : Int32) : MS := (upd M.1 j x, M.2)
def m_card (M : MS) (i : Nat) (κ : KS) : MS := (M.1, M.2.1, M.2.2.1, va_up M.2.2.2.1 i κ, M.2.2.2.2)
def m_book (M : MS) (i : Nat) (e : Int32 × Int32) : MS := (M.1, M.2.1, M.2.2.1, M.2.2.2.1, va_up M.2.2.2.2 i (e :: M.2.2.2.2 i))
def m_tap (M : MS) (w : Nat) : MS := (M.1, M.2.1, upd M.2.2.1 w (M.2.2.1 w + 1), M.2.2.2)
def m_zone (M : MS) (w : Nat) (x : Int32) : MS := (M.1, upd M.2.1 w x, M.2.2)
/-- grown by the cells from a size on -/
def gro (ES : Nat → Prop) (H0 H : Heap) : Nat → Prop := fun q => ES q ∨ (H0.size ≤ q ∧ q < H.size)
theorem Mt.keep {D : va_G} {kA : Nat → ClassId} {H H1 : Heap} {m : Nat} {M : MS} {E : Nat → Option Nat} {F : Nat → Prop} (h : Mt D kA H m M E) (o : off F H H1) (hn : ∀ q, blk m 29 q → ¬ F q) : Mt D kA H1 m M E :=
  ⟨h.1.off o (hn _ ⟨by omega, by omega⟩), h.2.1.off o (fun q hq => hn q ⟨by have := hq.1; omega, by have := hq.2; omega⟩), h.2.2.1.off o (hn _ ⟨by omega, by omega⟩), fun i hi => (h.2.2.2 i hi).off o (fun q hq => hn q ⟨by have := hq.1; unfold m_ca at this; omega, by have := hq.2; unfold m_ca at this; omega⟩)⟩
theorem Mk.keep {D : va_G} {kA : Nat → ClassId} {H H1 : Heap} {m : Nat} {M : MS} {E : Nat → Option Nat} {F ES : Nat → Prop} (h : Mk D kA H m M E ES) (o : off F H H1) (hn : ∀ q, blk m 29 q → ¬ F q) (he : ∀ q, ES q → ¬ F q) : Mk D kA H1 m M E ES :=
  ⟨h.1.keep o hn, fun i hi => Chn.off o he (h.2.1 i hi), h.2.2⟩
theorem Mk.mono {D : va_G} {kA : Nat → ClassId} {H : Heap} {m : Nat} {M : MS} {E : Nat → Option Nat} {ES ES' : Nat → Prop} (h : Mk D kA H m M E ES) (g : ∀ q, ES q → ES' q) (hn : ∀ q, ES' q → ¬ blk m 29 q) : Mk D kA H m M E ES' := ⟨h.1, fun i hi => Chn.mono g (h.2.1 i hi), hn⟩
/-- a number of the Metro's own is written -/
theorem Mk.g {D : va_G} {kA : Nat → ClassId} {H H1 : Heap} {m : Nat} {M : MS} {E : Nat → Option Nat} {ES : Nat → Prop} (h : Mk D kA H m M E ES) (o : sto m H H1) (g : Nat → Int32) (hg : hp D H1 m (eO 7 (mF m g))) (h7 : g 7 = M.1 7) (h8 : g 8 = M.1 8) : Mk D kA H1 m (g, M.2) E ES := by
  have o1 : off (fun q => q = m) H H1 := o.off rfl
  refine ⟨⟨hg, ?_, h.1.2.2.1.off o1 (by omega), fun i hi => (h.1.2.2.2 i hi).off o1 (fun q hq => by have := hq.1; unfold m_ca at this; omega)⟩, fun i hi => Chn.off o1 (fun q hq e => h.2.2 q hq (by subst e; exact ⟨by omega, by omega⟩)) (h.2.1 i hi), h.2.2⟩
  have := h.1.2.1.off o1 (fun q hq => by have := hq.1; omega)
  show Ln D kA H1 (m + 1) M.2.1 M.2.2.1 (g 7) (g 8)
  rw [h7, h8]
  exact this
/-- the line has changed -/
theorem Mk.line {D : va_G} {kA : Nat → ClassId} {H H1 : Heap} {m : Nat} {M : MS} {E : Nat → Option Nat} {ES : Nat → Prop} (h : Mk D kA H m M E ES) (o : off (blk (m + 1) 3) H H1) (z t g : Nat → Int32) (hl : Ln D kA H1 (m + 1) z t (g 7) (g 8)) (hg : ∀ j, j < 7 → g j = M.1 j) : Mk D kA H1 m (g, z, t, M.2.2.2) E ES := by
  refine ⟨⟨?_, hl, h.1.2.2.1.off o (fun q => by have := q.2; omega), fun i hi => (h.1.2.2.2 i hi).off o (fun q hq e => by have := hq.1; have := e.2; unfold m_ca at *; omega)⟩, fun i hi => Chn.off o (fun q hq e => h.2.2 q hq ⟨by have := e.1; omega, by have := e.2; omega⟩) (h.2.1 i hi), h.2.2⟩
  have h9 := h.1.1.off o (fun q => by have := q.1; omega)
  have e9 : mF m g = mF m M.1 := by
    unfold mF
    rw [hg 0 (by omega), hg 1 (by omega), hg 2 (by omega), hg 3 (by omega), hg 4 (by omega), hg 5 (by omega), hg 6 (by omega)]
  show hp D H1 m (eO 7 (mF m g))
  rw [e9]
  exact h9
/-- card i has changed, its entries haven't -/
theorem Mk.card {D : va_G} {kA : Nat → ClassId} {H H1 : Heap} {m i : Nat} {M : MS} {E : Nat → Option Nat} {ES : Nat → Prop} {κ : KS} (h : Mk D kA H m M E ES) (hi : i < 8) (o : off (blk (m_ca m i) 3) H H1) (hk : Cd D kA H1 (m_ca m i) κ (E i)) : Mk D kA H1 m (m_card M i κ) E ES := by
  have hb : ∀ q, blk (m_ca m i) 3 q → blk m 29 q := fun q hq => ⟨by have := hq.1; unfold m_ca at this; omega, by have := hq.2; unfold m_ca at this; omega⟩
  refine ⟨⟨h.1.1.off o (fun e => by have := e.1; unfold m_ca at this; omega), h.1.2.1.off o (fun q hq e => by have := hq.2; have := e.1; unfold m_ca at *; omega), h.1.2.2.1.off o (fun e => by have := e.1; unfold m_ca at this; omega), fun j hj => ?_⟩, fun j hj => Chn.off o (fun q hq e => h.2.2 q hq (hb q e)) (h.2.1 j hj), h.2.2⟩
  by_cases e : j = i
  · subst e
    show Cd D kA H1 _ (va_up M.2.2.2.1 j κ j) (E j)
    rw [show va_up M.2.2.2.1 j κ j = κ by simp [va_up]]
    exact hk
  · show Cd D kA H1 _ (va_up M.2.2.2.1 i κ j) (E j)
    rw [show va_up M.2.2.2.1 i κ j = M.2.2.2.1 j by simp [va_up, e]]
    exact (h.1.2.2.2 j hj).off o (fun q hq z => by have := hq.1; have := hq.2; have := z.1; have := z.2; unfold m_ca at *; omega)
/-- card i has changed and has one more entry, in the new cell -/
theorem Mk.book {D : va_G} {kA : Nat → ClassId} {H H1 : Heap} {m i : Nat} {M : MS} {E : Nat → Option Nat} {ES : Nat → Prop} {κ : KS} {d x : Int32} (h : Mk D kA H m M E ES) (hi : i < 8) (o : off (blk (m_ca m i) 3) H H1) (hz : H1.size = H.size + 1) (hk : Cd D kA H1 (m_ca m i) κ (some H.size)) (he : hp D H1 H.size (eO 5 [.int d, .int x, va_rf (E i)])) : Mk D kA H1 m (m_book (m_card M i κ) i (d, x)) (va_up E i (some H.size)) (gro ES H H1) := by
  have hb : ∀ q, blk (m_ca m i) 3 q → blk m 29 q := fun q hq => ⟨by have := hq.1; unfold m_ca at this; omega, by have := hq.2; unfold m_ca at this; omega⟩
  have hm : ∀ q, gro ES H H1 q → ¬ blk m 29 q := fun q hq => hq.elim (h.2.2 q) (fun g e => by
    have := (h.1.2.2.2 7 (by omega)).2.2.lt
    have := e.2
    unfold m_ca at *
    omega)
  have hc : ∀ j, j < 8 → Chn D H1 (gro ES H H1) (E j) (M.2.2.2.2 j) := fun j hj => Chn.mono (fun q hq => Or.inl hq) (Chn.off o (fun q hq e => h.2.2 q hq (hb q e)) (h.2.1 j hj))
  refine ⟨⟨h.1.1.off o (fun e => by have := e.1; unfold m_ca at this; omega), h.1.2.1.off o (fun q hq e => by have := hq.2; have := e.1; unfold m_ca at *; omega), h.1.2.2.1.off o (fun e => by have := e.1; unfold m_ca at this; omega), fun j hj => ?_⟩, fun j hj => ?_, hm⟩
  · by_cases e : j = i
    · subst e
      show Cd D kA H1 _ (va_up M.2.2.2.1 j κ j) (va_up E j (some H.size) j)
      rw [show va_up M.2.2.2.1 j κ j = κ by simp [va_up], show va_up E j (some H.size) j = some H.size by simp [va_up]]
      exact hk
    · show Cd D kA H1 _ (va_up M.2.2.2.1 i κ j) (va_up E i (some H.size) j)
      rw [show va_up M.2.2.2.1 i κ j = M.2.2.2.1 j by simp [va_up, e], show va_up E i (some H.size) j = E j by simp [va_up, e]]
      exact (h.1.2.2.2 j hj).off o (fun q hq z => by have := hq.1; have := hq.2; have := z.1; have := z.2; unfold m_ca at *; omega)
  · by_cases e : j = i
    · subst e
      show Chn D H1 _ (va_up E j (some H.size) j) (va_up M.2.2.2.2 j ((d, x) :: M.2.2.2.2 j) j)
      rw [show va_up M.2.2.2.2 j ((d, x) :: M.2.2.2.2 j) j = (d, x) :: M.2.2.2.2 j by simp [va_up], show va_up E j (some H.size) j = some H.size by simp [va_up]]
      exact ⟨H.size, E j, rfl, Or.inr ⟨Nat.le_refl _, by omega⟩, he, hc j hj⟩
    · show Chn D H1 _ (va_up E i (some H.size) j) (va_up M.2.2.2.2 i ((d, x) :: M.2.2.2.2 i) j)
      rw [show va_up M.2.2.2.2 i ((d, x) :: M.2.2.2.2 i) j = M.2.2.2.2 j by simp [va_up, e], show va_up E i (some H.size) j = E j by simp [va_up, e]]
      exact hc j hj
def m_anew (M : MS) (i : Nat) (κ : KS) : MS := (M.1, M.2.1, M.2.2.1, va_up M.2.2.2.1 i κ, va_up M.2.2.2.2 i [])
/-- card i is begun anew, without entries -/
theorem Mk.anew {D : va_G} {kA : Nat → ClassId} {H H1 : Heap} {m i : Nat} {M : MS} {E : Nat → Option Nat} {ES : Nat → Prop} {κ : KS} (h : Mk D kA H m M E ES) (hi : i < 8) (o : off (blk (m_ca m i) 3) H H1) (hk : Cd D kA H1 (m_ca m i) κ none) : Mk D kA H1 m (m_anew M i κ) (va_up E i none) ES := by
  have hb : ∀ q, blk (m_ca m i) 3 q → blk m 29 q := fun q hq => ⟨by have := hq.1; unfold m_ca at this; omega, by have := hq.2; unfold m_ca at this; omega⟩
  refine ⟨⟨h.1.1.off o (fun e => by have := e.1; unfold m_ca at this; omega), h.1.2.1.off o (fun q hq e => by have := hq.2; have := e.1; unfold m_ca at *; omega), h.1.2.2.1.off o (fun e => by have := e.1; unfold m_ca at this; omega), fun j hj => ?_⟩, fun j hj => ?_, h.2.2⟩
  · by_cases e : j = i
    · subst e
      show Cd D kA H1 _ (va_up M.2.2.2.1 j κ j) (va_up E j none j)
      rw [show va_up M.2.2.2.1 j κ j = κ by simp [va_up], show va_up E j none j = none by simp [va_up]]
      exact hk
    · show Cd D kA H1 _ (va_up M.2.2.2.1 i κ j) (va_up E i none j)
      rw [show va_up M.2.2.2.1 i κ j = M.2.2.2.1 j by simp [va_up, e], show va_up E i none j = E j by simp [va_up, e]]
      exact (h.1.2.2.2 j hj).off o (fun q hq z => by have := hq.1; have := hq.2; have := z.1; have := z.2; unfold m_ca at *; omega)
  · by_cases e : j = i
    · subst e
      show Chn D H1 _ (va_up E j none j) (va_up M.2.2.2.2 j [] j)
      rw [show va_up M.2.2.2.2 j [] j = [] by simp [va_up], show va_up E j none j = none by simp [va_up]]
      exact rfl
    · show Chn D H1 _ (va_up E i none j) (va_up M.2.2.2.2 i [] j)
      rw [show va_up M.2.2.2.2 i [] j = M.2.2.2.2 j by simp [va_up, e], show va_up E i none j = E j by simp [va_up, e]]
      exact Chn.off o (fun q hq e => h.2.2 q hq (hb q e)) (h.2.1 j hj)
theorem hp.congR {D : va_G} {H : Heap} {a j n : Nat} {kA : Nat → ClassId} {f g : Nat → Option Nat} (h : hp D H a (.inl (kA j, n, .inr (.inr (.inr (.inr f)))))) (e : ∀ i, i < n → f i = g i) : hp D H a (.inl (kA j, n, .inr (.inr (.inr (.inr g))))) := by
  have h1 : vp_cell (kA j) (n, .inr (.inr (.inr (.inr f)))) = vp_cell (kA j) (n, .inr (.inr (.inr (.inr g)))) := by
    rw [vp_cell_q, vp_cell_q]
    unfold arrV
    congr 1
    apply Array.ext
    · simp
    · intro i h1 h2
      simp at h1
      simp [e i h1]
  show H[a]? = some (vp_cell (kA j) _)
  rw [← h1]
  exact h
-- what the Metro's methods answer and do
def b_card (M : MS) (x : Int32) : Int32 := if x < 0 then 0 else if M.1 0 ≤ x then 0 else if 8 ≤ x then 0 else 1
theorem b_card_in {M : MS} {x : Int32} (h : ¬ b_card M x = 0) : vp_in x 8 := by
  unfold b_card at h
  intro hx
  rcases hx with h1 | h1
  · rw [if_pos h1] at h; exact h rfl
  · split at h
    · exact h rfl
    · split at h
      · exact h rfl
      · split at h
        · exact h rfl
        · rename_i h2 h3 h4
          apply h4
          rw [Int32.le_iff_toInt_le]
          have h5 : x.toInt.toNat = x.toNatClampNeg := rfl
          have h6 : ¬ x.toInt < 0 := fun z => h2 (by rw [Int32.lt_iff_toInt_lt]; exact z)
          show (8 : Int) ≤ x.toInt
          omega
theorem b_st_in {x : Int32} (h : ¬ b_st x = 0) : ∃ w : Nat, w < 12 ∧ x = nI w := by
  unfold b_st at h
  split at h
  · exact absurd rfl h
  · split at h
    · exact absurd rfl h
    · rename_i h2 h3
      obtain ⟨j, h4, rfl⟩ := nI_of h2
      refine ⟨j, ?_, rfl⟩
      rcases Nat.lt_or_ge j 12 with q | q
      · exact q
      · exact absurd (nI_le q h4) h3
def m_c (M : MS) (x : Int32) : KS := M.2.2.2.1 x.toNatClampNeg
def m_rep (M : MS) (x : Int32) : Int32 := if 2 < M.1 1 / 1440 - (m_c M x).1 12 then 0 else 1
def m_pLoad (M : MS) (x y : Int32) : Int32 := if b_card M x = 0 then 1 else if y < 1 ∨ ¬ y ≤ 9999 then 2 else if (m_c M x).1 1 + y ≤ 20000 then 0 else 5
def m_pIn (M : MS) (x y : Int32) : Int32 := if b_card M x = 0 ∨ b_st y = 0 then 1 else if (-500) ≤ (m_c M x).1 1 then 0 else 3
def m_pOut (M : MS) (x y : Int32) : Int32 := if b_card M x = 0 ∨ b_st y = 0 then 1 else if (m_c M x).1 2 = 0 then 3 else 0
def m_pRep (M : MS) (x y : Int32) : Int32 := if b_card M x = 0 ∨ b_st y = 0 then 1 else if (m_c M x).1 10 = 0 then 4 else if m_rep M x = 0 then 3 else 0
def m_pZone (x y : Int32) : Int32 := if b_st x = 0 then 1 else if y < 1 ∨ 6 < y then 2 else 0
def m_pFares (x y : Int32) : Int32 := if x < 0 ∨ 999 < x ∨ y < 0 ∨ 99 < y then 2 else 0
def m_prob (M : MS) (k : Nat) (x y : Int32) : Int32 :=
  if k = 0 then (if M.1 0 < 8 then 0 else 3) else if k = 1 then m_pLoad M x y else if k = 2 then m_pIn M x y else if k = 3 then m_pOut M x y else if k = 4 then m_pRep M x y else if k = 5 then m_pZone x y else if k = 6 then m_pFares x y else if x < 1 ∨ ¬ x ≤ 2000 then 2 else 0
def m_addCard (M : MS) (n : Nat) (r : Int32) : MS := let M1 := m_anew M n (k_anew (M.2.2.2.1 n) r); m_g M1 0 (M.1 0 + 1)
def m_load (M : MS) (i : Nat) (x : Int32) : MS := let κ := M.2.2.2.1 i; let M1 := m_card M i (upd κ.1 1 (κ.1 1 + x), κ.2); m_g M1 2 (M.1 2 + x)
def m_incX (M : MS) (i d : Nat) : Int32 := let κ := M.2.2.2.1 i; let p := k_price κ (M.1 7 + 5 * M.1 8); if k_left κ d < p then k_left κ d else p
def m_inc (M : MS) (i d : Nat) : MS := let x := m_incX M i d; let M1 := m_book (m_card M i (k_break (k_enter (M.2.2.2.1 i) d x) (nI d) x)) i (nI d, x); m_g (m_g M1 3 (M.1 3 + x)) 6 (M.1 6 + 1)
def m_enterAt (M : MS) (i w d : Nat) : Int32 × MS := let M0 := if (M.2.2.2.1 i).1 2 = 0 then M else m_inc M i d; let M1 := m_tap M0 w; (k_cont (M1.2.2.2.1 i) (nI w) (M1.1 1), m_card M1 i (k_begin (M1.2.2.2.1 i) (nI w) (M1.1 1)))
def m_leaveX (M : MS) (i j w d : Nat) : Int32 := k_trip (M.2.2.2.1 i) M.2.1 (M.1 7) (M.1 8) j w d
def m_leave (M : MS) (i w d : Nat) (x : Int32) : MS := let M1 := m_tap (m_book (m_card M i (k_complete (k_enter (M.2.2.2.1 i) d x) (nI w) (M.1 1) x)) i (nI d, x)) w; m_g (m_g M1 3 (M.1 3 + x)) 5 (M.1 5 + 1)
def m_backX (M : MS) (i j w : Nat) : Int32 := let κ := M.2.2.2.1 i; let y := κ.1 13 - k_price κ (ln_fare M.2.1 (M.1 7) (M.1 8) j w); if y < 0 then 0 else y
def m_back (M : MS) (i d : Nat) (x : Int32) : MS := let κ := k_enter (M.2.2.2.1 i) d (-x); let M1 := m_book (m_card M i (upd κ.1 10 0, κ.2)) i (nI d, -x); m_g M1 4 (M.1 4 + x)
def m_fares (M : MS) (x y : Int32) : MS := (upd (upd M.1 7 x) 8 y, M.2)
/-- time passed: cards c on, of n, at the minute M.1 1 -/
def m_pass1 (M : MS) (i : Nat) : Prop := ¬ (M.2.2.2.1 i).1 2 = 0 ∧ ¬ M.1 1 < (M.2.2.2.1 i).1 4 + 180
