/-! One card's calls. -/
theorem z01 (h : (0 : Int32) = 1) : False := absurd h (by decide)
theorem rp_lo {r : Nat → Int32} {d q : Nat} {x : Int32} (h : q < 11) (h1 : q ≠ 1) : rp r d x q = r q := by
  unfold rp
  rw [if_neg h1, if_neg (by omega), if_neg (by omega)]
def SK (κ : KS) (L : List (Int32 × Int32)) (r : Nat → Int32) (t : Nat) : Prop := SC κ L r t ∧ SP κ t ∧ SB κ ∧ SA κ t
theorem SK.row {κ : KS} {L : List (Int32 × Int32)} {r r' : Nat → Int32} {t : Nat} (h : SK κ L r t) (e : ∀ w, w < 17 → r' w = r w) : SK κ L r' t := by
  obtain ⟨⟨h1, h2, h3, h4, h5, h6, h7, h8, h9⟩, hp⟩ := h
  refine ⟨⟨h1, by rw [e 0 (by decide)]; exact h2, by rw [e 1 (by decide)]; exact h3, ?_, ?_, ?_, ?_, ?_, h9⟩, hp⟩
  · rw [e 2 (by decide), e 3 (by decide)]; exact h4
  · rw [e 4 (by decide), e 5 (by decide)]; exact h5
  · rw [e 6 (by decide), e 7 (by decide)]; exact h6
  · rw [e 8 (by decide), e 9 (by decide), e 10 (by decide)]; exact h7
  · intro q hq
    rw [e (14 + q) (by omega), e (11 + q) (by omega)]
    exact h8 q hq
section SKS
variable {κ : KS} {L : List (Int32 × Int32)} {r : Nat → Int32} {t d : Nat}
theorem k_left_b (h : SC κ L r t) (h1 : t / 1440 - 2 ≤ d) (h2 : d ≤ t / 1440) : (k_left κ d).toInt = (k_cap κ).toInt - (k_sumOf κ d).toInt ∧ 0 ≤ (k_left κ d).toInt ∧ (k_left κ d).toInt ≤ 700 := by
  have a := h.cp d h1 h2
  have b := k_cap_le κ
  have e : (k_left κ d).toInt = (k_cap κ).toInt - (k_sumOf κ d).toInt := i_sub (by omega) (by omega)
  omega
/-- what is charged of a price -/
def k_min (κ : KS) (d : Nat) (P : Int32) : Int32 := if k_left κ d < P then k_left κ d else P
theorem k_min_b (h : SC κ L r t) (h1 : t / 1440 - 2 ≤ d) (h2 : d ≤ t / 1440) {P : Int32} (hP : 0 ≤ P.toInt) : 0 ≤ (k_min κ d P).toInt ∧ (k_min κ d P).toInt ≤ 700 ∧ 0 ≤ (k_sumOf κ d).toInt + (k_min κ d P).toInt ∧ (k_sumOf κ d).toInt + (k_min κ d P).toInt ≤ (k_cap κ).toInt := by
  obtain ⟨a1, a2, a3⟩ := k_left_b h h1 h2
  have a := h.cp d h1 h2
  unfold k_min
  by_cases g : k_left κ d < P
  · rw [if_pos g]; omega
  · rw [if_neg g]
    rw [Int32.lt_iff_toInt_lt] at g
    omega
/-- a card's row behind a trip that became incomplete -/
def rl (r : Nat → Int32) (d : Nat) (c : Int32) : Nat → Int32 := fun w => if w = 6 then -1 else if w = 2 then -1 else if w = 10 then c else if w = 9 then nI d else if w = 8 then r 2 else rp r d c w
theorem SK.brk (h : SC κ L r t) (hp : SP κ t) (hb : SB κ) (h1 : t / 1440 - 2 ≤ d) (h2 : d ≤ t / 1440) (h30 : t < 2 ^ 30) (h2t : κ.1 2 = 1) {x : Int32} (x0 : 0 ≤ x.toInt) (x7 : x.toInt ≤ 700) (hs1 : 0 ≤ (k_sumOf κ d).toInt + x.toInt) (hs2 : (k_sumOf κ d).toInt + x.toInt ≤ (k_cap κ).toInt) : SK (k_break (k_enter κ d x) (nI d) x) ((nI d, x) :: L) (rl r d x) t := by
  have g := h.enter h1 h2 h30 x ⟨by omega, x7⟩ ⟨hs1, hs2⟩
  obtain ⟨j, b, hj, t3, r2, t4, r3, hbt⟩ := (h.tr.resolve_left (fun z => absurd (z.1.symm.trans h2t) (by decide))).2
  obtain ⟨b1, b2, b3, b4⟩ := hb
  have b2 := b2 h2t
  have hx : ∃ c : Nat, c ≤ 700 ∧ x = nI c := by
    obtain ⟨c, hc, rfl⟩ := nI_of (x := x) (by rw [Int32.lt_iff_toInt_lt, i_zero]; omega)
    rw [nI_toInt hc] at x7
    exact ⟨c, by omega, rfl⟩
  have hc1 : (κ.1 1 - x).toInt = (κ.1 1).toInt - x.toInt := i_sub (by omega) (by omega)
  have hsum : ∀ q, k_sumOf (k_break (k_enter κ d x) (nI d) x) q = k_sumOf (k_enter κ d x) q := fun _ => rfl
  have hcap : k_cap (k_break (k_enter κ d x) (nI d) x) = k_cap (k_enter κ d x) := rfl
  refine ⟨⟨g.z0, g.e0, g.e1, Or.inl ⟨rfl, rfl⟩, fun z => z.elim (fun z => (z01 z).elim) (fun z => (z01 z).elim), Or.inl ⟨rfl, rfl⟩, ?_, ?_, g.en, g.rc, g.cp⟩, ?_, ?_, ?_⟩
  · obtain ⟨c, hc, e⟩ := hx
    exact Or.inr ⟨rfl, j, d, c, hj, t3, r2, h2, rfl, rfl, hc, e, e⟩
  · intro q hq
    have e1 : rl r d x (14 + q) = rp r d x (14 + q) := by unfold rl; rw [if_neg (by omega), if_neg (by omega), if_neg (by omega), if_neg (by omega), if_neg (by omega)]
    have e2 : rl r d x (11 + q) = rp r d x (11 + q) := by unfold rl; rw [if_neg (by omega), if_neg (by omega), if_neg (by omega), if_neg (by omega), if_neg (by omega)]
    rw [e1, e2]
    exact g.ss q hq
  · intro _ q h3 h4 e
    have e : nI d = nI q := e
    rw [nI_eq (by omega) (by omega)] at e
    subst e
    rw [hsum, k_sum_enter x d (Or.inl rfl), if_pos rfl]
    have hk := k_cap_le κ
    rw [i_add (by omega) (by omega)]
    have := (h.cp d h1 h2).1
    show x.toInt ≤ _
    omega
  · refine ⟨?_, fun z => (z01 z).elim, ?_, fun _ => ?_⟩
    · show -1900 ≤ (κ.1 1 - x).toInt
      omega
    · show (κ.1 1 - x).toInt ≤ 20700
      omega
    · show (κ.1 1 - x).toInt + x.toInt ≤ 20700
      omega
  · exact fun z => (z01 z).elim
/-- behind a completed trip -/
def rcm (r : Nat → Int32) (d : Nat) (c y mn : Int32) : Nat → Int32 := fun w => if w = 7 then mn else if w = 6 then y else if w = 2 then -1 else if w = 5 then r 5 + c else rp r d c w
theorem SK.cmp (h : SC κ L r t) (hp : SP κ t) (hb : SB κ) (h1 : t / 1440 - 2 ≤ d) (h2 : d ≤ t / 1440) (h30 : t < 2 ^ 30) (h2t : κ.1 2 = 1) {x : Int32} (x0 : 0 ≤ x.toInt) (x7 : x.toInt ≤ 700) (hs1 : 0 ≤ (k_sumOf κ d).toInt + x.toInt) (hs2 : (k_sumOf κ d).toInt + x.toInt ≤ (k_cap κ).toInt) {w : Nat} (hw : w < 12) (mn : Int32) : SK (k_complete (k_enter κ d x) (nI w) mn x) ((nI d, x) :: L) (rcm r d x (nI w) mn) t := by
  have g := h.enter h1 h2 h30 x ⟨by omega, x7⟩ ⟨hs1, hs2⟩
  obtain ⟨b1, b2, b3, b4⟩ := hb
  have b2 := b2 h2t
  obtain ⟨⟨j, hj, t5, r4⟩, r5⟩ := h.jo (Or.inl h2t)
  have hc1 : (κ.1 1 - x).toInt = (κ.1 1).toInt - x.toInt := i_sub (by omega) (by omega)
  refine ⟨⟨g.z0, g.e0, g.e1, Or.inl ⟨rfl, rfl⟩, fun _ => ⟨⟨j, hj, t5, (rp_lo (by decide) (by decide)).trans r4⟩, ?_⟩, Or.inr ⟨rfl, ⟨w, hw, rfl⟩, rfl, rfl⟩, g.nc, ?_, g.en, g.rc, g.cp⟩, ?_, ?_, ?_⟩
  · show r 5 + x = κ.1 6 + x
    rw [r5]
  · intro q hq
    have e1 : rcm r d x (nI w) mn (14 + q) = rp r d x (14 + q) := by unfold rcm; rw [if_neg (by omega), if_neg (by omega), if_neg (by omega), if_neg (by omega)]
    have e2 : rcm r d x (nI w) mn (11 + q) = rp r d x (11 + q) := by unfold rcm; rw [if_neg (by omega), if_neg (by omega), if_neg (by omega), if_neg (by omega)]
    rw [e1, e2]
    exact g.ss q hq
  · intro h10 q h3 h4 e
    have h10 : κ.1 10 = 1 := h10
    have e : κ.1 12 = nI q := e
    show (κ.1 13).toInt ≤ (k_sumOf (k_enter κ d x) q).toInt
    have hk := k_cap_le κ
    rw [k_sum_enter x q (k_win h1 h2 h3 h4)]
    have := hp h10 q h3 h4 e
    by_cases eq : q = d
    · subst eq
      rw [if_pos rfl, i_add (by omega) (by omega)]
      omega
    · rw [if_neg eq]; exact this
  · refine ⟨?_, fun z => (z01 z).elim, ?_, fun z => ?_⟩
    · show -1900 ≤ (κ.1 1 - x).toInt
      omega
    · show (κ.1 1 - x).toInt ≤ 20700
      omega
    · show (κ.1 1 - x).toInt + (κ.1 13).toInt ≤ 20700
      have := b4 z
      omega
  · exact fun z => (z01 z).elim
/-- behind a tap in -/
def rbg (r : Nat → Int32) (c y mn : Int32) : Nat → Int32 := fun w => if w = 3 then mn else if w = 2 then y else if c = 0 then (if w = 5 then 0 else if w = 4 then y else r w) else r w
theorem SK.bgn (h30 : t < 2 ^ 30) (h : SC κ L r t) (hp : SP κ t) (hb : SB κ) (h0 : κ.1 2 = 0) (hb2 : -1200 ≤ (κ.1 1).toInt) {w : Nat} (hw : w < 12) : SK (k_begin κ (nI w) (nI t)) L (rbg r (k_cont κ (nI w) (nI t)) (nI w) (nI t)) t := by
  have hnz : ∀ c : Int32, ∀ q, 5 < q → rbg r c (nI w) (nI t) q = r q := fun c q hq => by
    unfold rbg
    rw [if_neg (by omega), if_neg (by omega)]
    split
    · rw [if_neg (by omega), if_neg (by omega)]
    · rfl
  have hlo : ∀ c : Int32, ∀ q, q < 2 → rbg r c (nI w) (nI t) q = r q := fun c q hq => by
    unfold rbg
    rw [if_neg (by omega), if_neg (by omega)]
    split
    · rw [if_neg (by omega), if_neg (by omega)]
    · rfl
  obtain ⟨b1, -, b3, b4⟩ := hb
  by_cases e : k_cont κ (nI w) (nI t) = 0
  · have eb : k_begin κ (nI w) (nI t) = (fun j => if j = 2 then 1 else if j = 3 then nI w else if j = 4 then nI t else if j = 5 then nI w else if j = 6 then 0 else κ.1 j, κ.2.1, κ.2.2) := if_pos e
    rw [eb, e]
    refine ⟨⟨h.z0, by rw [hlo _ 0 (by decide)]; exact h.e0, by rw [hlo _ 1 (by decide)]; exact h.e1, Or.inr ⟨rfl, w, t, hw, rfl, rfl, rfl, rfl, Nat.le_refl _⟩, fun _ => ⟨⟨w, hw, rfl, rfl⟩, rfl⟩, ?_, ?_, ?_, h.en, h.rc, h.cp⟩, hp, ⟨b1, fun _ => hb2, b3, b4⟩, fun _ => ⟨t, by omega, rfl, by omega⟩⟩
    · rw [hnz _ 6 (by decide), hnz _ 7 (by decide)]; exact h.la
    · rw [hnz _ 8 (by decide), hnz _ 9 (by decide), hnz _ 10 (by decide)]; exact h.nc
    · intro q hq
      rw [hnz _ (14 + q) (by omega), hnz _ (11 + q) (by omega)]
      exact h.ss q hq
  · have eb : k_begin κ (nI w) (nI t) = (fun j => if j = 2 then 1 else if j = 3 then nI w else if j = 4 then nI t else κ.1 j, κ.2.1, κ.2.2) := if_neg e
    have h7 : κ.1 7 = 1 := by
      rcases h.la with ⟨a, -⟩ | ⟨a, -⟩
      · exfalso
        apply e
        unfold k_cont
        rw [if_neg (fun z => z.2.1 a)]
      · exact a
    have e45 : ∀ q, q = 4 ∨ q = 5 → rbg r (k_cont κ (nI w) (nI t)) (nI w) (nI t) q = r q := fun q hq => by
      unfold rbg
      rw [if_neg (by omega), if_neg (by omega), if_neg e]
    rw [eb]
    refine ⟨⟨h.z0, by rw [hlo _ 0 (by decide)]; exact h.e0, by rw [hlo _ 1 (by decide)]; exact h.e1, Or.inr ⟨rfl, w, t, hw, rfl, rfl, rfl, rfl, Nat.le_refl _⟩, fun _ => ?_, ?_, ?_, ?_, h.en, h.rc, h.cp⟩, hp, ⟨b1, fun _ => hb2, b3, b4⟩, fun _ => ⟨t, by omega, rfl, by omega⟩⟩
    · rw [e45 4 (Or.inl rfl), e45 5 (Or.inr rfl)]; exact h.jo (Or.inr h7)
    · rw [hnz _ 6 (by decide), hnz _ 7 (by decide)]; exact h.la
    · rw [hnz _ 8 (by decide), hnz _ 9 (by decide), hnz _ 10 (by decide)]; exact h.nc
    · intro q hq
      rw [hnz _ (14 + q) (by omega), hnz _ (11 + q) (by omega)]
      exact h.ss q hq
/-- paid back -/
def rbk (r : Nat → Int32) (d : Nat) (c : Int32) : Nat → Int32 := fun w => if w = 8 then -1 else rp r d (-c) w
theorem SK.bck (h : SC κ L r t) (hp : SP κ t) (hb : SB κ) (ha : SA κ t) (h1 : t / 1440 - 2 ≤ d) (h2 : d ≤ t / 1440) (h30 : t < 2 ^ 30) (h10 : κ.1 10 = 1) (h12 : κ.1 12 = nI d) {x : Int32} (x0 : 0 ≤ x.toInt) (x1 : x.toInt ≤ (κ.1 13).toInt) : SK (upd (k_enter κ d (-x)).1 10 0, (k_enter κ d (-x)).2) ((nI d, -x) :: L) (rbk r d x) t := by
  obtain ⟨j, e, c, hj, t11, r8, he, t12, r9, hc, t13, r10⟩ := (h.nc.resolve_left (fun z => absurd (z.1.symm.trans h10) (by decide))).2
  have hx7 : x.toInt ≤ 700 := by rw [t13, nI_toInt (by omega)] at x1; omega
  have hn : (-x).toInt = -x.toInt := i_neg (by omega)
  have hsp := hp h10 d h1 h2 h12
  have hcp := h.cp d h1 h2
  have g := h.enter h1 h2 h30 (-x) ⟨by omega, by omega⟩ ⟨by omega, by omega⟩
  obtain ⟨b1, b2, b3, b4⟩ := hb
  have b4 := b4 h10
  have hc1 : (κ.1 1 - -x).toInt = (κ.1 1).toInt + x.toInt := by rw [i_sub (by omega) (by omega)]; omega
  have hlo : ∀ q, q ≠ 8 → rbk r d x q = rp r d (-x) q := fun q hq => if_neg hq
  have h101 : upd (k_enter κ d (-x)).1 10 0 10 = 0 := pk_us
  have h100 : upd (k_enter κ d (-x)).1 10 0 10 = 1 → False := fun z => z01 (pk_us.symm.trans z)
  have hk : ∀ q, q ≠ 10 → upd (k_enter κ d (-x)).1 10 0 q = (k_enter κ d (-x)).1 q := fun q hq => pk_un hq
  refine ⟨⟨?_, ?_, ?_, ?_, ?_, ?_, Or.inl ⟨h101, rfl⟩, ?_, g.en, g.rc, g.cp⟩, fun z => (h100 z).elim, ⟨?_, fun z => ?_, ?_, fun z => (h100 z).elim⟩, fun z => ?_⟩
  · show upd (k_enter κ d (-x)).1 10 0 0 = 0 ∨ upd (k_enter κ d (-x)).1 10 0 0 = 1
    rw [hk 0 (by decide)]; exact g.z0
  · show rbk r d x 0 = upd (k_enter κ d (-x)).1 10 0 0
    rw [hlo 0 (by decide), hk 0 (by decide)]; exact g.e0
  · show rbk r d x 1 = upd (k_enter κ d (-x)).1 10 0 1
    rw [hlo 1 (by decide), hk 1 (by decide)]; exact g.e1
  · show (upd (k_enter κ d (-x)).1 10 0 2 = 0 ∧ rbk r d x 2 = -1) ∨ (upd (k_enter κ d (-x)).1 10 0 2 = 1 ∧ ∃ j b : Nat, j < 12 ∧ upd (k_enter κ d (-x)).1 10 0 3 = nI j ∧ rbk r d x 2 = nI j ∧ upd (k_enter κ d (-x)).1 10 0 4 = nI b ∧ rbk r d x 3 = nI b ∧ b ≤ t)
    rw [hk 2 (by decide), hk 3 (by decide), hk 4 (by decide), hlo 2 (by decide), hlo 3 (by decide)]; exact g.tr
  · show (upd (k_enter κ d (-x)).1 10 0 2 = 1 ∨ upd (k_enter κ d (-x)).1 10 0 7 = 1) → (∃ j : Nat, j < 12 ∧ upd (k_enter κ d (-x)).1 10 0 5 = nI j ∧ rbk r d x 4 = nI j) ∧ rbk r d x 5 = upd (k_enter κ d (-x)).1 10 0 6
    rw [hk 2 (by decide), hk 7 (by decide), hk 5 (by decide), hk 6 (by decide), hlo 4 (by decide), hlo 5 (by decide)]; exact g.jo
  · show (upd (k_enter κ d (-x)).1 10 0 7 = 0 ∧ rbk r d x 6 = -1) ∨ (upd (k_enter κ d (-x)).1 10 0 7 = 1 ∧ (∃ j : Nat, j < 12 ∧ upd (k_enter κ d (-x)).1 10 0 8 = nI j) ∧ rbk r d x 6 = upd (k_enter κ d (-x)).1 10 0 8 ∧ rbk r d x 7 = upd (k_enter κ d (-x)).1 10 0 9)
    rw [hk 7 (by decide), hk 8 (by decide), hk 9 (by decide), hlo 6 (by decide), hlo 7 (by decide)]; exact g.la
  · intro q hq
    show ((k_enter κ d (-x)).2.1 q = rbk r d x (14 + q) ∧ (k_enter κ d (-x)).2.2 q = rbk r d x (11 + q) ∧ ∃ e, e ≤ t / 1440 ∧ e % 3 = q ∧ (k_enter κ d (-x)).2.1 q = nI e) ∨ ((k_enter κ d (-x)).2.1 q = -1 ∧ rbk r d x (14 + q) = 0 ∧ rbk r d x (11 + q) = 0)
    rw [hlo (14 + q) (by omega), hlo (11 + q) (by omega)]
    exact g.ss q hq
  · show -1900 ≤ (upd (k_enter κ d (-x)).1 10 0 1).toInt
    rw [hk 1 (by decide)]
    show -1900 ≤ (upd κ.1 1 (κ.1 1 - -x) 1).toInt
    rw [pk_us]; omega
  · have z : κ.1 2 = 1 := z
    show -1200 ≤ (upd (k_enter κ d (-x)).1 10 0 1).toInt
    rw [hk 1 (by decide)]
    show -1200 ≤ (upd κ.1 1 (κ.1 1 - -x) 1).toInt
    have := b2 z
    rw [pk_us]; omega
  · show (upd (k_enter κ d (-x)).1 10 0 1).toInt ≤ 20700
    rw [hk 1 (by decide)]
    show (upd κ.1 1 (κ.1 1 - -x) 1).toInt ≤ 20700
    rw [pk_us]; omega
  · have z : κ.1 2 = 1 := z
    exact ha z
theorem SK.load (h : SK κ L r t) {y : Int32} (hy : 1 ≤ y.toInt ∧ y.toInt ≤ 9999) (hm : κ.1 1 + y ≤ 20000) : SK (upd κ.1 1 (κ.1 1 + y), κ.2) L (upd r 1 (r 1 + y)) t := by
  obtain ⟨⟨h1, h2, h3, h4, h5, h6, h7, h8, h9⟩, hp, ⟨b1, b2, b3, b4⟩, ha⟩ := h
  have hc1 : (κ.1 1 + y).toInt = (κ.1 1).toInt + y.toInt := i_add (by omega) (by omega)
  rw [Int32.le_iff_toInt_le, hc1, show (20000 : Int32).toInt = 20000 from by decide] at hm
  refine ⟨⟨h1, h2, ?_, h4, h5, h6, h7, ?_, h9⟩, hp, ⟨?_, fun z => ?_, ?_, fun z => ?_⟩, ha⟩
  · show upd r 1 (r 1 + y) 1 = upd κ.1 1 (κ.1 1 + y) 1
    rw [pk_us, pk_us, h3]
  · intro q hq
    rw [pk_un (show 14 + q ≠ 1 by omega), pk_un (show 11 + q ≠ 1 by omega)]
    exact h8 q hq
  · show -1900 ≤ (upd κ.1 1 (κ.1 1 + y) 1).toInt
    rw [pk_us]; omega
  · have := b2 z
    show -1200 ≤ (upd κ.1 1 (κ.1 1 + y) 1).toInt
    rw [pk_us]; omega
  · show (upd κ.1 1 (κ.1 1 + y) 1).toInt ≤ 20700
    rw [pk_us]; omega
  · show (upd κ.1 1 (κ.1 1 + y) 1).toInt + (κ.1 13).toInt ≤ 20700
    have z : κ.1 10 = 1 := z
    obtain ⟨j, e, c, -, -, -, -, -, -, hc, t13, -⟩ := (h7.resolve_left (fun q => absurd (q.1.symm.trans z) (by decide))).2
    rw [pk_us, t13, nI_toInt (by omega)]; omega
/-- a card begun -/
theorem SK.anew (κ : KS) (t : Nat) (h30 : t < 2 ^ 30) {x : Int32} (hx : x = 0 ∨ x = 1) {r : Nat → Int32} (r0 : r 0 = x) (r1 : r 1 = 0) (r2 : r 2 = -1) (r6 : r 6 = -1) (r8 : r 8 = -1) (rz : ∀ q, 11 ≤ q → q < 17 → r q = 0) : SK (k_anew κ x) [] r t := by
  have hd : ∀ q, q < 3 → (k_anew κ x).2.1 q = -1 := fun q hq => by
    show upd (upd (upd κ.2.1 0 (-1)) 1 (-1)) 2 (-1) q = -1
    unfold upd
    (repeat' split) <;> first | rfl | omega
  have hs : ∀ q, q < 2 ^ 31 → k_sumOf (k_anew κ x) q = 0 := fun q hq => by
    unfold k_sumOf
    rw [hd _ (Nat.mod_lt _ (by decide)), if_neg (nI_m1 hq)]
  refine ⟨⟨hx, r0, r1, Or.inl ⟨rfl, r2⟩, fun z => z.elim (fun z => (z01 z).elim) (fun z => (z01 z).elim), Or.inl ⟨rfl, r6⟩, Or.inl ⟨rfl, r8⟩, fun q hq => Or.inr ⟨hd q hq, rz _ (by omega) (by omega), rz _ (by omega) (by omega)⟩, fun _ z => absurd z List.not_mem_nil, ?_, ?_⟩, fun z => (z01 z).elim, ⟨?_, fun z => (z01 z).elim, ?_, fun z => (z01 z).elim⟩, fun z => (z01 z).elim⟩
  · intro d h1 h2
    rw [hs d (by omega)]
    rfl
  · intro d h1 h2
    rw [hs d (by omega), i_zero]
    refine ⟨Int.le_refl _, ?_⟩
    unfold k_cap
    split <;> decide
  · show -1900 ≤ (0 : Int32).toInt
    decide
  · show (0 : Int32).toInt ≤ 20700
    decide
end SKS
