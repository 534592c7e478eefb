/-! The class's own state: a block of 329 cells at a: the object, 3 Metros, the row of 8, 8 Metros, output and script (each with its first bytes), the reader (4). W: the Metros by their places; π: which place has which role (0 now, 1 spare, 2 snapshot, 3 + k the k-th of the history). -/
def sl (a k : Nat) : Nat := a + 1 + 29 * k + (if k < 3 then 0 else 1)
theorem sl_lo (a k : Nat) : a + 1 ≤ sl a k := by unfold sl; split <;> omega
theorem sl_hi {a k : Nat} (h : k < 11) : sl a k + 29 ≤ a + 321 := by unfold sl; split <;> omega
theorem sl_88 {a k : Nat} : sl a k + 29 ≤ a + 88 ∨ a + 89 ≤ sl a k := by unfold sl; split <;> omega
theorem sl_ap {a j k : Nat} (h : j ≠ k) : sl a j + 29 ≤ sl a k ∨ sl a k + 29 ≤ sl a j := by
  unfold sl
  rcases Nat.lt_or_ge j k with q | q <;> (split <;> split <;> omega)
def Ws (D : va_G) (kA : Nat → ClassId) (H : Heap) (a : Nat) (W : Nat → MS) (ES : Nat → Prop) : Prop := ∀ k, k < 11 → Mc D kA H (sl a k) (W k) ES
/-- the object, its row of the history -/
def Ob (D : va_G) (kA : Nat → ClassId) (H : Heap) (a : Nat) (π : Nat → Nat) (u : Nat) (hs ep fc : Int32) : Prop :=
  hp D H a (eO 9 [.ref (a + 88), .ref (sl a 2), .ref (a + 321), .ref (a + 323), .ref (a + 325), .ref (sl a (π 0)), .ref (sl a (π 1)), .int (nI u), .int hs, .int ep, .int fc]) ∧ hp D H (a + 88) (eR kA 5 8 (fun k => some (sl a (π (3 + k)))))
def Rdx (D : va_G) (kA : Nat → ClassId) (H : Heap) (r : Nat) : Prop := ∃ K1 K2 K3 n p y, Rd D kA H r K1 K2 K3 n p y
/-- what the roles must be; where the entries and the script's bytes lie -/
def Pm (π : Nat → Nat) : Prop := (∀ j, j < 11 → π j < 11) ∧ (∀ i j, i < 11 → j < 11 → π i = π j → i = j) ∧ π 2 = 2
def Lay (H : Heap) (a vs : Nat) (ES : Nat → Prop) : Prop := (∀ q, ES q → a + 329 ≤ q ∧ q < H.size ∧ q ≠ vs) ∧ (vs = a + 324 ∨ a + 329 ≤ vs) ∧ vs < H.size ∧ a + 329 ≤ H.size
def Fs (D : va_G) (kA : Nat → ClassId) (H : Heap) (a : Nat) (W : Nat → MS) (π : Nat → Nat) (ES : Nat → Prop) (u : Nat) (hs ep fc : Int32) (no : Nat) (go : Nat → Int32) (vs cs ns : Nat) (gs : Nat → Int32) : Prop :=
  Ob D kA H a π u hs ep fc ∧ Ws D kA H a W ES ∧ Sb D kA H (a + 321) (a + 322) 16 no go ∧ Sb D kA H (a + 323) vs cs ns gs ∧ Rdx D kA H (a + 325) ∧ Pm π ∧ Lay H a vs ES ∧ u ≤ 8 ∧ (hs = 0 ∨ hs = 1)
theorem Mc.keep {D : va_G} {kA : Nat → ClassId} {H H1 : Heap} {m : Nat} {M : MS} {F ES : Nat → Prop} (h : Mc D kA H m M ES) (o : off F H H1) (hn : ∀ q, blk m 29 q → ¬ F q) (he : ∀ q, ES q → ¬ F q) : Mc D kA H1 m M ES := by
  obtain ⟨E, h⟩ := h
  exact ⟨E, h.keep o hn he⟩
theorem Mc.mono {D : va_G} {kA : Nat → ClassId} {H : Heap} {m : Nat} {M : MS} {ES ES' : Nat → Prop} (h : Mc D kA H m M ES) (g : ∀ q, ES q → ES' q) (hn : ∀ q, ES' q → ¬ blk m 29 q) : Mc D kA H m M ES' := by
  obtain ⟨E, h⟩ := h
  exact ⟨E, h.mono g hn⟩
section FSX
variable {D : va_G} {kA : Nat → ClassId} {H H1 : Heap} {a : Nat} {W : Nat → MS} {π : Nat → Nat} {ES F : Nat → Prop} {u : Nat} {hs ep fc : Int32} {no : Nat} {go : Nat → Int32} {vs cs ns : Nat} {gs : Nat → Int32}
theorem Ws.kept (h : Ws D kA H a W ES) (o : off F H H1) (hn : ∀ k, k < 11 → ∀ q, blk (sl a k) 29 q → ¬ F q) (he : ∀ q, ES q → ¬ F q) : Ws D kA H1 a W ES := fun k hk => (h k hk).keep o (hn k hk) he
theorem Ws.put (h : Ws D kA H a W ES) {b : Nat} (o : sto b H H1) (hn : ∀ k, k < 11 → b < sl a k ∨ sl a k + 29 ≤ b) (he : ∀ q, ES q → q ≠ b) : Ws D kA H1 a W ES :=
  h.kept (o.off (F := fun q => q = b) rfl) (fun k hk q hq e => by subst e; have := hn k hk; have := hq.1; have := hq.2; omega) he
theorem Ws.upd {ES' : Nat → Prop} {j : Nat} {M : MS} (h : Ws D kA H a W ES) (hj : j < 11) (o : off (blk (sl a j) 29) H H1) (hm : Mc D kA H1 (sl a j) M ES') (g : ∀ q, ES q → ES' q) (hl : ∀ q, ES q → a + 329 ≤ q) (hl' : ∀ q, ES' q → a + 329 ≤ q) : Ws D kA H1 a (va_up W j M) ES' := by
  intro k hk
  by_cases e : k = j
  · subst e
    show Mc D kA H1 _ (va_up W k M k) ES'
    rw [show va_up W k M k = M by simp [va_up]]
    exact hm
  · show Mc D kA H1 _ (va_up W j M k) ES'
    rw [show va_up W j M k = W k by simp [va_up, e]]
    refine ((h k hk).keep o (fun q hq z => ?_) (fun q hq z => ?_)).mono g (fun q hq z => ?_)
    · have := sl_ap (a := a) e; have := hq.1; have := hq.2; have := z.1; have := z.2; omega
    · have := hl q hq; have := z.2; have := sl_hi (a := a) hj; omega
    · have := hl' q hq; have := z.2; have := sl_hi (a := a) hk; omega
theorem Rdx.off {r : Nat} (h : Rdx D kA H r) (o : off F H H1) (hn : ∀ q, blk r 4 q → ¬ F q) : Rdx D kA H1 r := by
  obtain ⟨K1, K2, K3, n, p, y, h⟩ := h
  exact ⟨K1, K2, K3, n, p, y, h.off o hn⟩
theorem Ob.off (h : Ob D kA H a π u hs ep fc) (o : off F H H1) (h1 : ¬ F a) (h2 : ¬ F (a + 88)) : Ob D kA H1 a π u hs ep fc := ⟨h.1.off o h1, h.2.off o h2⟩
theorem Lay.off (h : Lay H a vs ES) (o : off F H H1) : Lay H1 a vs ES := ⟨fun q hq => ⟨(h.1 q hq).1, Nat.lt_of_lt_of_le (h.1 q hq).2.1 o.1, (h.1 q hq).2.2⟩, h.2.1, Nat.lt_of_lt_of_le h.2.2.1 o.1, Nat.le_trans h.2.2.2 o.1⟩
/-- the whole state, when only cells outside it change -/
theorem Fs.kept (h : Fs D kA H a W π ES u hs ep fc no go vs cs ns gs) (o : off F H H1) (h1 : ∀ q, blk a 329 q → ¬ F q) (h2 : ¬ F vs) (h3 : ∀ q, ES q → ¬ F q) : Fs D kA H1 a W π ES u hs ep fc no go vs cs ns gs := by
  obtain ⟨a1, a2, a3, a4, a5, a6, a7, a8⟩ := h
  exact ⟨a1.off o (h1 _ ⟨by omega, by omega⟩) (h1 _ ⟨by omega, by omega⟩), a2.kept o (fun k hk q hq => h1 q ⟨by have := sl_lo a k; have := hq.1; omega, by have := sl_hi (a := a) hk; have := hq.2; omega⟩) h3,
    a3.off o (h1 _ ⟨by omega, by omega⟩) (h1 _ ⟨by omega, by omega⟩), a4.off o (h1 _ ⟨by omega, by omega⟩) h2, a5.off o (fun q hq => h1 q ⟨by have := hq.1; omega, by have := hq.2; omega⟩), a6, a7.off o, a8⟩
theorem Fs.new (h : Fs D kA H a W π ES u hs ep fc no go vs cs ns gs) (o : off (fun _ => False) H H1) : Fs D kA H1 a W π ES u hs ep fc no go vs cs ns gs := h.kept o (fun _ _ z => z) (fun z => z) (fun _ _ z => z)
theorem Fs.now (h : Fs D kA H a W π ES u hs ep fc no go vs cs ns gs) : Mc D kA H (sl a (π 0)) (W (π 0)) ES := h.2.1 _ (h.2.2.2.2.2.1.1 0 (by decide))
end FSX
