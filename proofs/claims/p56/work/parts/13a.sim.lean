/-! The class's Metro and the reference's row: one card. -/
theorem i_add {a b : Int32} (h1 : -2147483648 ≤ a.toInt + b.toInt) (h2 : a.toInt + b.toInt < 2147483648) : (a + b).toInt = a.toInt + b.toInt := by
  rw [Int32.toInt_add]
  apply Int.bmod_eq_of_le <;> omega
theorem i_sub {a b : Int32} (h1 : -2147483648 ≤ a.toInt - b.toInt) (h2 : a.toInt - b.toInt < 2147483648) : (a - b).toInt = a.toInt - b.toInt := by
  rw [Int32.toInt_sub]
  apply Int.bmod_eq_of_le <;> omega
theorem i_neg {a : Int32} (h1 : -2147483648 < a.toInt) : (-a).toInt = -a.toInt := by
  rw [Int32.toInt_neg]
  have := Int32.toInt_lt a
  apply Int.bmod_eq_of_le <;> omega
theorem i_zero : (0 : Int32).toInt = 0 := by decide
theorem nI_m1 {e : Nat} (h : e < 2 ^ 31) : ¬ (-1 : Int32) = nI e := fun q => nI_nm1 h q.symm
/-- one card: without the trip's end, what may be paid back, the balance's bounds -/
def SC (κ : KS) (L : List (Int32 × Int32)) (r : Nat → Int32) (t : Nat) : Prop :=
  (κ.1 0 = 0 ∨ κ.1 0 = 1) ∧
  (r 0 = κ.1 0) ∧
  (r 1 = κ.1 1) ∧
  ((κ.1 2 = 0 ∧ r 2 = -1) ∨ (κ.1 2 = 1 ∧ ∃ j b : Nat, j < 12 ∧ κ.1 3 = nI j ∧ r 2 = nI j ∧ κ.1 4 = nI b ∧ r 3 = nI b ∧ b ≤ t)) ∧
  ((κ.1 2 = 1 ∨ κ.1 7 = 1) → (∃ j : Nat, j < 12 ∧ κ.1 5 = nI j ∧ r 4 = nI j) ∧ r 5 = κ.1 6) ∧
  ((κ.1 7 = 0 ∧ r 6 = -1) ∨ (κ.1 7 = 1 ∧ (∃ j : Nat, j < 12 ∧ κ.1 8 = nI j) ∧ r 6 = κ.1 8 ∧ r 7 = κ.1 9)) ∧
  ((κ.1 10 = 0 ∧ r 8 = -1) ∨ (κ.1 10 = 1 ∧ ∃ j e c : Nat, j < 12 ∧ κ.1 11 = nI j ∧ r 8 = nI j ∧ e ≤ t / 1440 ∧ κ.1 12 = nI e ∧ r 9 = nI e ∧ c ≤ 700 ∧ κ.1 13 = nI c ∧ r 10 = nI c)) ∧
  (∀ q, q < 3 → (κ.2.1 q = r (14 + q) ∧ κ.2.2 q = r (11 + q) ∧ ∃ e, e ≤ t / 1440 ∧ e % 3 = q ∧ κ.2.1 q = nI e) ∨ (κ.2.1 q = -1 ∧ r (14 + q) = 0 ∧ r (11 + q) = 0)) ∧
  (∀ x ∈ L, ∃ e, e ≤ t / 1440 ∧ x.1 = nI e) ∧
  (∀ d, t / 1440 - 2 ≤ d → d ≤ t / 1440 → k_recs (nI d) L 0 = k_sumOf κ d) ∧
  (∀ d, t / 1440 - 2 ≤ d → d ≤ t / 1440 → 0 ≤ (k_sumOf κ d).toInt ∧ (k_sumOf κ d).toInt ≤ (k_cap κ).toInt)
theorem SC.z0 {κ : KS} {L : List (Int32 × Int32)} {r : Nat → Int32} {t : Nat} (h : SC κ L r t) : κ.1 0 = 0 ∨ κ.1 0 = 1 := h.1
theorem SC.e0 {κ : KS} {L : List (Int32 × Int32)} {r : Nat → Int32} {t : Nat} (h : SC κ L r t) : r 0 = κ.1 0 := h.2.1
theorem SC.e1 {κ : KS} {L : List (Int32 × Int32)} {r : Nat → Int32} {t : Nat} (h : SC κ L r t) : r 1 = κ.1 1 := h.2.2.1
theorem SC.tr {κ : KS} {L : List (Int32 × Int32)} {r : Nat → Int32} {t : Nat} (h : SC κ L r t) : (κ.1 2 = 0 ∧ r 2 = -1) ∨ (κ.1 2 = 1 ∧ ∃ j b : Nat, j < 12 ∧ κ.1 3 = nI j ∧ r 2 = nI j ∧ κ.1 4 = nI b ∧ r 3 = nI b ∧ b ≤ t) := h.2.2.2.1
theorem SC.jo {κ : KS} {L : List (Int32 × Int32)} {r : Nat → Int32} {t : Nat} (h : SC κ L r t) : (κ.1 2 = 1 ∨ κ.1 7 = 1) → (∃ j : Nat, j < 12 ∧ κ.1 5 = nI j ∧ r 4 = nI j) ∧ r 5 = κ.1 6 := h.2.2.2.2.1
theorem SC.la {κ : KS} {L : List (Int32 × Int32)} {r : Nat → Int32} {t : Nat} (h : SC κ L r t) : (κ.1 7 = 0 ∧ r 6 = -1) ∨ (κ.1 7 = 1 ∧ (∃ j : Nat, j < 12 ∧ κ.1 8 = nI j) ∧ r 6 = κ.1 8 ∧ r 7 = κ.1 9) := h.2.2.2.2.2.1
theorem SC.nc {κ : KS} {L : List (Int32 × Int32)} {r : Nat → Int32} {t : Nat} (h : SC κ L r t) : (κ.1 10 = 0 ∧ r 8 = -1) ∨ (κ.1 10 = 1 ∧ ∃ j e c : Nat, j < 12 ∧ κ.1 11 = nI j ∧ r 8 = nI j ∧ e ≤ t / 1440 ∧ κ.1 12 = nI e ∧ r 9 = nI e ∧ c ≤ 700 ∧ κ.1 13 = nI c ∧ r 10 = nI c) := h.2.2.2.2.2.2.1
theorem SC.ss {κ : KS} {L : List (Int32 × Int32)} {r : Nat → Int32} {t : Nat} (h : SC κ L r t) : ∀ q, q < 3 → (κ.2.1 q = r (14 + q) ∧ κ.2.2 q = r (11 + q) ∧ ∃ e, e ≤ t / 1440 ∧ e % 3 = q ∧ κ.2.1 q = nI e) ∨ (κ.2.1 q = -1 ∧ r (14 + q) = 0 ∧ r (11 + q) = 0) := h.2.2.2.2.2.2.2.1
theorem SC.en {κ : KS} {L : List (Int32 × Int32)} {r : Nat → Int32} {t : Nat} (h : SC κ L r t) : ∀ x ∈ L, ∃ e, e ≤ t / 1440 ∧ x.1 = nI e := h.2.2.2.2.2.2.2.2.1
theorem SC.rc {κ : KS} {L : List (Int32 × Int32)} {r : Nat → Int32} {t : Nat} (h : SC κ L r t) : ∀ d, t / 1440 - 2 ≤ d → d ≤ t / 1440 → k_recs (nI d) L 0 = k_sumOf κ d := h.2.2.2.2.2.2.2.2.2.1
theorem SC.cp {κ : KS} {L : List (Int32 × Int32)} {r : Nat → Int32} {t : Nat} (h : SC κ L r t) : ∀ d, t / 1440 - 2 ≤ d → d ≤ t / 1440 → 0 ≤ (k_sumOf κ d).toInt ∧ (k_sumOf κ d).toInt ≤ (k_cap κ).toInt := h.2.2.2.2.2.2.2.2.2.2
/-- what may be paid back was charged -/
def SP (κ : KS) (t : Nat) : Prop := κ.1 10 = 1 → ∀ d, t / 1440 - 2 ≤ d → d ≤ t / 1440 → κ.1 12 = nI d → (κ.1 13).toInt ≤ (k_sumOf κ d).toInt
/-- the balance's bounds -/
def SB (κ : KS) : Prop := -1900 ≤ (κ.1 1).toInt ∧ (κ.1 2 = 1 → -1200 ≤ (κ.1 1).toInt) ∧ (κ.1 1).toInt ≤ 20700 ∧ (κ.1 10 = 1 → (κ.1 1).toInt + (κ.1 13).toInt ≤ 20700)
/-- a trip hasn't ended -/
def SA (κ : KS) (t : Nat) : Prop := κ.1 2 = 1 → ∃ b : Nat, b < 2 ^ 31 ∧ κ.1 4 = nI b ∧ t < b + 180
theorem k_cap_le (κ : KS) : (k_cap κ).toInt ≤ 700 := by
  unfold k_cap
  split <;> decide
theorem k_recs_acc (d : Int32) : ∀ (L : List (Int32 × Int32)) (a : Int32), k_recs d L a = a + k_recs d L 0
  | [], a => by show a = a + 0; rw [Int32.add_zero]
  | (x, c) :: T, a => by
    show k_recs d T (if x = d then a + c else a) = a + k_recs d T (if x = d then 0 + c else 0)
    by_cases e : x = d
    · rw [if_pos e, if_pos e, k_recs_acc d T (a + c), k_recs_acc d T (0 + c), Int32.zero_add, Int32.add_assoc]
    · rw [if_neg e, if_neg e]; exact k_recs_acc d T a
theorem k_recs_z {d : Nat} {t : Nat} (hd : t / 1440 < d) (h31 : d < 2 ^ 31) : ∀ L : List (Int32 × Int32), (∀ x ∈ L, ∃ e, e ≤ t / 1440 ∧ x.1 = nI e) → k_recs (nI d) L 0 = 0
  | [], _ => rfl
  | (x, c) :: T, h => by
    obtain ⟨e, he, hx⟩ := h (x, c) List.mem_cons_self
    show k_recs (nI d) T (if x = nI d then 0 + c else 0) = 0
    rw [if_neg (fun q => by
      have q2 : nI e = nI d := hx.symm.trans q
      rw [nI_eq (by omega) h31] at q2
      omega)]
    exact k_recs_z hd h31 T (fun y hy => h y (List.mem_cons_of_mem _ hy))
section SCS
variable {κ : KS} {L : List (Int32 × Int32)} {r : Nat → Int32} {t d : Nat}
theorem SC.sum (h : SC κ L r t) (h31 : d < 2 ^ 31) : k_sumOf κ d = if r (14 + d % 3) = nI d then r (11 + d % 3) else 0 := by
  unfold k_sumOf
  rcases h.ss (d % 3) (Nat.mod_lt _ (by decide)) with ⟨a, b, -⟩ | ⟨a, b, c⟩
  · rw [a, b]
  · rw [a, b, c, if_neg (nI_m1 h31)]
    split <;> rfl
theorem SC.sumz (h : SC κ L r t) (hd : t / 1440 < d) (h31 : d < 2 ^ 31) : k_sumOf κ d = 0 := by
  unfold k_sumOf
  rcases h.ss (d % 3) (Nat.mod_lt _ (by decide)) with ⟨-, -, e, h1, -, h3⟩ | ⟨a, -⟩
  · rw [h3, if_neg (fun q => by rw [nI_eq (by omega) h31] at q; omega)]
  · rw [a, if_neg (nI_m1 h31)]
theorem SC.later {t' : Nat} (h : SC κ L r t) (ht : t ≤ t') (h30 : t' < 2 ^ 30) : SC κ L r t' := by
  have hd : t / 1440 ≤ t' / 1440 := Nat.div_le_div_right ht
  refine ⟨h.z0, h.e0, h.e1, ?_, h.jo, h.la, ?_, ?_, ?_, ?_, ?_⟩
  · exact h.tr.imp id fun ⟨a, j, b, h1, h2, h3, h4, h5, h6⟩ => ⟨a, j, b, h1, h2, h3, h4, h5, Nat.le_trans h6 ht⟩
  · exact h.nc.imp id fun ⟨a, j, e, c, h1, h2, h3, h4, h5⟩ => ⟨a, j, e, c, h1, h2, h3, Nat.le_trans h4 hd, h5⟩
  · intro q hq
    exact (h.ss q hq).imp (fun ⟨a, b, e, h1, h2⟩ => ⟨a, b, e, Nat.le_trans h1 hd, h2⟩) id
  · intro x hx
    obtain ⟨e, h1, h2⟩ := h.en x hx
    exact ⟨e, Nat.le_trans h1 hd, h2⟩
  · intro q h1 h2
    rcases Nat.lt_or_ge (t / 1440) q with g | g
    · rw [h.sumz g (by omega), k_recs_z g (by omega) L h.en]
    · exact h.rc q (by omega) g
  · intro q h1 h2
    rcases Nat.lt_or_ge (t / 1440) q with g | g
    · rw [h.sumz g (by omega), i_zero]
      refine ⟨Int.le_refl _, ?_⟩
      unfold k_cap
      split <;> decide
    · exact h.cp q (by omega) g
theorem SP.later {t' : Nat} (hp : SP κ t) (h : SC κ L r t) (ht : t ≤ t') (h30 : t' < 2 ^ 30) : SP κ t' := by
  intro h10 q h1 h2 h3
  have hd : t / 1440 ≤ t' / 1440 := Nat.div_le_div_right ht
  rcases h.nc with ⟨a, -⟩ | ⟨-, j, e, c, -, -, -, he, h4, -⟩
  · rw [a] at h10; exact absurd h10 (by decide)
  · have q2 : nI e = nI q := h4.symm.trans h3
    rw [nI_eq (by omega) (by omega)] at q2
    exact hp h10 q (by omega) (by omega) h3
theorem k_sum_enter (x : Int32) (q : Nat) (h : q = d ∨ ¬ q % 3 = d % 3) : k_sumOf (k_enter κ d x) q = if q = d then k_sumOf κ d + x else k_sumOf κ q := by
  unfold k_enter k_sumOf k_enterD k_enterS
  dsimp only
  by_cases g : q = d
  · subst g
    rw [if_pos rfl]
    by_cases e : κ.2.1 (q % 3) = nI q
    · rw [if_pos e, if_pos e, if_pos e, if_pos e, pk_us]
    · rw [if_neg e, if_neg e, if_neg e]
      exact (if_pos pk_us).trans pk_us
  · have g2 : ¬ q % 3 = d % 3 := h.resolve_left g
    rw [if_neg g]
    by_cases e : κ.2.1 (d % 3) = nI d
    · rw [if_pos e, if_pos e, pk_un g2]
    · rw [if_neg e, if_neg e]
      simp only [pk_un g2]
/-- a card's row behind a charge -/
def rp (r : Nat → Int32) (d : Nat) (c : Int32) : Nat → Int32 := fun w => if w = 1 then r 1 - c else if w = 11 + d % 3 then (if r (14 + d % 3) = nI d then r (11 + d % 3) else 0) + c else if w = 14 + d % 3 then nI d else r w
theorem k_win {q : Nat} (h1 : t / 1440 - 2 ≤ d) (h2 : d ≤ t / 1440) (h3 : t / 1440 - 2 ≤ q) (h4 : q ≤ t / 1440) : q = d ∨ ¬ q % 3 = d % 3 := by omega
theorem SC.enter (h : SC κ L r t) (h1 : t / 1440 - 2 ≤ d) (h2 : d ≤ t / 1440) (h30 : t < 2 ^ 30) (x : Int32) (hx : -700 ≤ x.toInt ∧ x.toInt ≤ 700) (hs : 0 ≤ (k_sumOf κ d).toInt + x.toInt ∧ (k_sumOf κ d).toInt + x.toInt ≤ (k_cap κ).toInt) : SC (k_enter κ d x) ((nI d, x) :: L) (rp r d x) t := by
  have hm : d % 3 < 3 := Nat.mod_lt _ (by decide)
  have hk : ∀ j, j ≠ 1 → (k_enter κ d x).1 j = κ.1 j := fun j hj => pk_un hj
  have hr : ∀ w, w < 11 → w ≠ 1 → rp r d x w = r w := fun w hw hn => by unfold rp; rw [if_neg hn, if_neg (by omega), if_neg (by omega)]
  have hcap : k_cap (k_enter κ d x) = k_cap κ := by unfold k_cap; rw [hk 0 (by decide)]
  refine ⟨?_, ?_, ?_, ?_, ?_, ?_, ?_, ?_, ?_, ?_, ?_⟩
  · rw [hk 0 (by decide)]; exact h.z0
  · rw [hk 0 (by decide), hr 0 (by decide) (by decide)]; exact h.e0
  · show rp r d x 1 = upd κ.1 1 (κ.1 1 - x) 1
    rw [pk_us, ← h.e1]; rfl
  · rw [hk 2 (by decide), hk 3 (by decide), hk 4 (by decide), hr 2 (by decide) (by decide), hr 3 (by decide) (by decide)]; exact h.tr
  · rw [hk 2 (by decide), hk 7 (by decide), hk 5 (by decide), hk 6 (by decide), hr 4 (by decide) (by decide), hr 5 (by decide) (by decide)]; exact h.jo
  · rw [hk 7 (by decide), hk 8 (by decide), hk 9 (by decide), hr 6 (by decide) (by decide), hr 7 (by decide) (by decide)]; exact h.la
  · rw [hk 10 (by decide), hk 11 (by decide), hk 12 (by decide), hk 13 (by decide), hr 8 (by decide) (by decide), hr 9 (by decide) (by decide), hr 10 (by decide) (by decide)]; exact h.nc
  · intro q hq
    by_cases e : q = d % 3
    · subst e
      left
      have a1 : rp r d x (14 + d % 3) = nI d := by unfold rp; rw [if_neg (by omega), if_neg (by omega), if_pos rfl]
      have a2 : rp r d x (11 + d % 3) = k_sumOf κ d + x := by rw [h.sum (by omega)]; unfold rp; rw [if_neg (by omega), if_pos rfl]
      have a3 : (k_enter κ d x).2.1 (d % 3) = nI d := by
        show k_enterD κ d (d % 3) = nI d
        unfold k_enterD
        split
        · rename_i g; exact g
        · exact pk_us
      have a4 : (k_enter κ d x).2.2 (d % 3) = k_sumOf κ d + x := by
        show k_enterS κ d x (d % 3) = _
        unfold k_enterS k_sumOf
        split
        · exact pk_us
        · exact pk_us
      exact ⟨by rw [a1, a3], by rw [a2, a4], d, h2, rfl, a3⟩
    · have b1 : rp r d x (14 + q) = r (14 + q) := by unfold rp; rw [if_neg (by omega), if_neg (by omega), if_neg (by omega)]
      have b2 : rp r d x (11 + q) = r (11 + q) := by unfold rp; rw [if_neg (by omega), if_neg (by omega), if_neg (by omega)]
      have b3 : (k_enter κ d x).2.1 q = κ.2.1 q := by
        show k_enterD κ d q = _
        unfold k_enterD
        split
        · rfl
        · exact pk_un e
      have b4 : (k_enter κ d x).2.2 q = κ.2.2 q := by
        show k_enterS κ d x q = _
        unfold k_enterS
        split <;> exact pk_un e
      rw [b1, b2, b3, b4]
      exact h.ss q hq
  · intro y hy
    rcases List.mem_cons.mp hy with rfl | hy
    · exact ⟨d, h2, rfl⟩
    · exact h.en y hy
  · intro q h3 h4
    rw [k_sum_enter x q (k_win h1 h2 h3 h4)]
    show k_recs (nI q) L (if nI d = nI q then 0 + x else 0) = _
    by_cases e : q = d
    · subst e
      rw [if_pos rfl, if_pos rfl, k_recs_acc, h.rc q h3 h4, Int32.zero_add, Int32.add_comm]
    · rw [if_neg (fun z => e ((nI_eq (by omega) (by omega)).mp z).symm), if_neg e]
      exact h.rc q h3 h4
  · intro q h3 h4
    rw [k_sum_enter x q (k_win h1 h2 h3 h4), hcap]
    by_cases e : q = d
    · subst e
      have := k_cap_le κ
      rw [if_pos rfl, i_add (by omega) (by omega)]
      exact hs
    · rw [if_neg e]
      exact h.cp q h3 h4
end SCS
