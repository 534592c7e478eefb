theorem sw_in {q : Nat} (h : 99 ≤ q ∧ q ≤ 122) (h1 : ¬ q = 99) (h2 : ¬ q = 108) (h3 : ¬ q = 105) (h4 : ¬ q = 111) (h5 : ¬ q = 102) (h6 : ¬ q = 122) (h7 : ¬ q = 119) : (#[111, 283, 283, 210, 283, 283, 160, 283, 283, 135, 283, 283, 185, 283, 283, 283, 283, 283, 283, 283, 259, 283, 283, 235] : Array Int)[((nI q).toInt - 99).toNat]? = some 283 := by
  have g : ∀ i : Fin 24, ¬ i.1 = 0 → ¬ i.1 = 3 → ¬ i.1 = 6 → ¬ i.1 = 9 → ¬ i.1 = 12 → ¬ i.1 = 20 → ¬ i.1 = 23 → (#[111, 283, 283, 210, 283, 283, 160, 283, 283, 135, 283, 283, 185, 283, 283, 283, 283, 283, 283, 283, 259, 283, 283, 235] : Array Int)[i.1]? = some 283 := by decide +kernel
  have e : ((nI q).toInt - 99).toNat = q - 99 := by rw [nI_toInt (by omega)]; omega
  rw [e]
  exact g ⟨q - 99, by omega⟩ (by dsimp only; omega) (by dsimp only; omega) (by dsimp only; omega) (by dsimp only; omega) (by dsimp only; omega) (by dsimp only; omega) (by dsimp only; omega)
def kcode (k : Int32) : Int32 := if k = 99 then 0 else if k = 119 then 7 else if k = 108 then 1 else if k = 105 then 2 else if k = 111 then 3 else if k = 102 then 4 else 5
/-- what a command's reading leaves: w = 0: read, in the n-th place -/
def Rk (D : va_G) (kA : Nat → ClassId) (H : Heap) (r : Nat) (K1 K2 K3 : Nat → Int32) (n w p : Nat) (k f s : Int32) : Prop :=
  ∃ y, (w = 0 → Rd D kA H r (upd K1 n k) (upd K2 n f) (upd K3 n s) (n + 1) p y) ∧ (¬ w = 0 → Rd D kA H r K1 K2 K3 n p y)
section RKS
variable {D : va_G} {kA : Nat → ClassId} {H : Heap} {r n w p : Nat} {K1 K2 K3 : Nat → Int32} {k f s y x : Int32}
theorem Rk.bad (hw : ¬ w = 0) (h : Rd D kA H r K1 K2 K3 n p y) : Rk D kA H r K1 K2 K3 n w p k f s := ⟨y, fun q => absurd q hw, fun _ => h⟩
theorem Rk.good (h : Rd D kA H r (upd K1 n k) (upd K2 n f) (upd K3 n s) (n + 1) p y) : Rk D kA H r K1 K2 K3 n 0 p k f s := ⟨y, fun _ => h, fun q => absurd rfl q⟩
theorem Rk.e0 (h : x = (if w = 0 then 1 else 0)) (h0 : x = 0) : ¬ w = 0 := fun q => by rw [h, if_pos q] at h0; exact absurd h0 (by decide)
theorem Rk.e1 (h : x = (if w = 0 then 1 else 0)) (h0 : ¬ x = 0) : w = 0 := Decidable.byContradiction fun q => h0 (by rw [h, if_neg q])
end RKS
theorem q_num_w {t : Nat → Int32} {len most w a : Nat} (h : ¬ w = 0) : q_num t len most w a = (1, a, 0) := if_pos h
section QC
variable {t c : Nat → Int32} {len a n yw ya : Nat}
theorem qc_bad {k : Int32} (h0 : r_beh t len a = k) (h1 : ¬ k = 99) (h2 : ¬ k = 119) (hy : (q_skip t len (byt (r_word k)) (0, a)) = (yw, ya)) (hw : ¬ yw = 0) : (q_cmd t len (0, a, n, c)).1 = 1 ∧ (q_cmd t len (0, a, n, c)).2.1 = ya := by
  have e : q_skip t len (byt " ") (1, ya) = (1, ya) := q_skip_w Nat.one_ne_zero
  unfold q_cmd
  rw [if_neg (not_not_intro rfl)]
  dsimp only
  rw [h0, hy, if_neg h1, if_neg h2]
  dsimp only
  rw [q_num_w hw]
  dsimp only
  rw [e]
  dsimp only
  rw [q_num_w (by decide)]
  exact ⟨rfl, rfl⟩
theorem qc_w99 (h0 : r_beh t len a = nI 99) (hy : q_skip t len (byt "card ") (0, a) = (yw, ya)) (hw : ¬ yw = 0) : (q_cmd t len (0, a, n, c)).1 = 1 ∧ (q_cmd t len (0, a, n, c)).2.1 = ya := by
  unfold q_cmd
  rw [if_neg (not_not_intro rfl)]
  dsimp only
  rw [h0, show r_word (nI 99) = "card " by decide +kernel, hy, if_pos (show nI 99 = 99 from rfl)]
  dsimp only
  rw [if_pos hw]
  exact ⟨rfl, if_neg (by decide)⟩
theorem qc_w119 (h0 : r_beh t len a = nI 119) (hy : q_skip t len (byt "wait ") (0, a) = (yw, ya)) (hw : ¬ yw = 0) : (q_cmd t len (0, a, n, c)).1 = 1 ∧ (q_cmd t len (0, a, n, c)).2.1 = ya := by
  unfold q_cmd
  rw [if_neg (not_not_intro rfl)]
  dsimp only
  rw [h0, show r_word (nI 119) = "wait " by decide +kernel, hy, if_neg (show ¬ nI 119 = 99 by decide), if_pos (show nI 119 = 119 from rfl)]
  dsimp only
  rw [q_num_w hw]
  exact ⟨rfl, rfl⟩
theorem qc_w108 (h0 : r_beh t len a = nI 108) (hy : q_skip t len (byt "load ") (0, a) = (yw, ya)) (hw : ¬ yw = 0) : (q_cmd t len (0, a, n, c)).1 = 1 ∧ (q_cmd t len (0, a, n, c)).2.1 = ya := qc_bad h0 (by decide) (by decide) (by rw [show r_word (nI 108) = "load " by decide +kernel]; exact hy) hw
theorem qc_w105 (h0 : r_beh t len a = nI 105) (hy : q_skip t len (byt "in ") (0, a) = (yw, ya)) (hw : ¬ yw = 0) : (q_cmd t len (0, a, n, c)).1 = 1 ∧ (q_cmd t len (0, a, n, c)).2.1 = ya := qc_bad h0 (by decide) (by decide) (by rw [show r_word (nI 105) = "in " by decide +kernel]; exact hy) hw
theorem qc_w111 (h0 : r_beh t len a = nI 111) (hy : q_skip t len (byt "out ") (0, a) = (yw, ya)) (hw : ¬ yw = 0) : (q_cmd t len (0, a, n, c)).1 = 1 ∧ (q_cmd t len (0, a, n, c)).2.1 = ya := qc_bad h0 (by decide) (by decide) (by rw [show r_word (nI 111) = "out " by decide +kernel]; exact hy) hw
theorem qc_w102 (h0 : r_beh t len a = nI 102) (hy : q_skip t len (byt "fix ") (0, a) = (yw, ya)) (hw : ¬ yw = 0) : (q_cmd t len (0, a, n, c)).1 = 1 ∧ (q_cmd t len (0, a, n, c)).2.1 = ya := qc_bad h0 (by decide) (by decide) (by rw [show r_word (nI 102) = "fix " by decide +kernel]; exact hy) hw
theorem qc_w122 (h0 : r_beh t len a = nI 122) (hy : q_skip t len (byt "zone ") (0, a) = (yw, ya)) (hw : ¬ yw = 0) : (q_cmd t len (0, a, n, c)).1 = 1 ∧ (q_cmd t len (0, a, n, c)).2.1 = ya := qc_bad h0 (by decide) (by decide) (by rw [show r_word (nI 122) = "zone " by decide +kernel]; exact hy) hw
theorem qc_zn {k : Int32} (h0 : r_beh t len a = k) (h1 : ¬ k = 99) (h2 : ¬ k = 119) (h3 : r_word k = "zone ") (h4 : ¬ k = 122) : (q_cmd t len (0, a, n, c)).1 = 1 ∧ (q_cmd t len (0, a, n, c)).2.1 = a := by
  refine qc_bad (yw := 1) (ya := a) h0 h1 h2 ?_ (by decide)
  rw [h3]
  show q_skip t len (122 :: [111, 110, 101, 32]) (0, a) = _
  rw [q_skip, if_neg (not_not_intro rfl), if_neg (by rw [h0]; exact h4)]
theorem qc_m1 (h0 : r_beh t len a = -1) : (q_cmd t len (0, a, n, c)).1 = 1 ∧ (q_cmd t len (0, a, n, c)).2.1 = a := qc_zn h0 (by decide) (by decide) (by decide +kernel) (by decide)
theorem qc_no {q : Nat} (h0 : r_beh t len a = nI q) (hq : q < 128) (h1 : ¬ q = 99) (h2 : ¬ q = 119) (h3 : ¬ q = 108) (h4 : ¬ q = 105) (h5 : ¬ q = 111) (h6 : ¬ q = 102) (h7 : ¬ q = 122) : (q_cmd t len (0, a, n, c)).1 = 1 ∧ (q_cmd t len (0, a, n, c)).2.1 = a := by
  have g : ∀ x : Nat, x < 128 → ¬ q = x → ¬ nI q = nI x := fun x hx h e => h ((nI_eq (by omega) (by omega)).mp e)
  have g1 : ¬ nI q = 99 := g 99 (by decide) h1
  have g2 : ¬ nI q = 119 := g 119 (by decide) h2
  have g3 : ¬ nI q = 108 := g 108 (by decide) h3
  have g4 : ¬ nI q = 105 := g 105 (by decide) h4
  have g5 : ¬ nI q = 111 := g 111 (by decide) h5
  have g6 : ¬ nI q = 102 := g 102 (by decide) h6
  have g7 : ¬ nI q = 122 := g 122 (by decide) h7
  refine qc_zn h0 g1 g2 ?_ g7
  unfold r_word
  rw [if_neg g1, if_neg g2, if_neg g3, if_neg g4, if_neg g5, if_neg g6]
theorem qc_g99 (h0 : r_beh t len a = nI 99) (hy : q_skip t len (byt "card ") (0, a) = (0, ya)) :
    (q_cmd t len (0, a, n, c)).1 = (if r_beh t len ya = 114 then 0 else if r_beh t len ya = 102 then 0 else 1) ∧ (q_cmd t len (0, a, n, c)).2.1 = (if r_beh t len ya = 114 then ya + 1 else if r_beh t len ya = 102 then ya + 1 else ya) ∧ kcode (r_beh t len a) = 0 ∧ (q_cmd t len (0, a, n, c)).2.2.2 (3 * n + 1) = (if r_beh t len ya = 114 then 1 else 0) ∧ (if r_beh t len a = 99 ∨ r_beh t len a = 119 then 0 else (q_cmd t len (0, a, n, c)).2.2.2 (3 * n + 2)) = 0 := by
  refine ⟨?_, ?_, by rw [h0]; decide, ?_, if_pos (Or.inl h0)⟩
  all_goals
    unfold q_cmd
    rw [if_neg (not_not_intro rfl)]
    dsimp only
    rw [h0, show r_word (nI 99) = "card " by decide +kernel, hy, if_pos (show nI 99 = 99 from rfl)]
    dsimp only
  · rfl
  · by_cases b1 : r_beh t len ya = 114
    · rw [if_pos b1, if_pos b1]; rfl
    · rw [if_neg b1, if_neg b1]
      by_cases b2 : r_beh t len ya = 102
      · rw [if_pos b2, if_pos b2]; rfl
      · rw [if_neg b2, if_neg b2]; rfl
  · rw [pk_us]
theorem qc_g119 (h0 : r_beh t len a = nI 119) (hy : q_skip t len (byt "wait ") (0, a) = (0, ya)) :
    (q_cmd t len (0, a, n, c)).1 = (q_num t len 4 0 ya).1 ∧ (q_cmd t len (0, a, n, c)).2.1 = (q_num t len 4 0 ya).2.1 ∧ kcode (r_beh t len a) = 7 ∧ (q_cmd t len (0, a, n, c)).2.2.2 (3 * n + 1) = (q_num t len 4 0 ya).2.2 ∧ (if r_beh t len a = 99 ∨ r_beh t len a = 119 then 0 else (q_cmd t len (0, a, n, c)).2.2.2 (3 * n + 2)) = 0 := by
  refine ⟨?_, ?_, by rw [h0]; decide, ?_, if_pos (Or.inr h0)⟩
  all_goals
    unfold q_cmd
    rw [if_neg (not_not_intro rfl)]
    dsimp only
    rw [h0, show r_word (nI 119) = "wait " by decide +kernel, hy, if_neg (show ¬ nI 119 = 99 by decide), if_pos (show nI 119 = 119 from rfl)]
  · exact pk_us
theorem qc_g108 (h0 : r_beh t len a = nI 108) (hy : q_skip t len (byt "load ") (0, a) = (0, ya)) :
    (q_cmd t len (0, a, n, c)).1 = (q_num t len 4 (q_skip t len [32] ((q_num t len 1 0 ya).1, (q_num t len 1 0 ya).2.1)).1 (q_skip t len [32] ((q_num t len 1 0 ya).1, (q_num t len 1 0 ya).2.1)).2).1 ∧ (q_cmd t len (0, a, n, c)).2.1 = (q_num t len 4 (q_skip t len [32] ((q_num t len 1 0 ya).1, (q_num t len 1 0 ya).2.1)).1 (q_skip t len [32] ((q_num t len 1 0 ya).1, (q_num t len 1 0 ya).2.1)).2).2.1 ∧ kcode (r_beh t len a) = 1 ∧ (q_cmd t len (0, a, n, c)).2.2.2 (3 * n + 1) = (q_num t len 1 0 ya).2.2 ∧ (if r_beh t len a = 99 ∨ r_beh t len a = 119 then 0 else (q_cmd t len (0, a, n, c)).2.2.2 (3 * n + 2)) = (q_num t len 4 (q_skip t len [32] ((q_num t len 1 0 ya).1, (q_num t len 1 0 ya).2.1)).1 (q_skip t len [32] ((q_num t len 1 0 ya).1, (q_num t len 1 0 ya).2.1)).2).2.2 := by
  have e : byt " " = [32] := by decide +kernel
  have g : q_cmd t len (0, a, n, c) = ((q_num t len 4 (q_skip t len [32] ((q_num t len 1 0 ya).1, (q_num t len 1 0 ya).2.1)).1 (q_skip t len [32] ((q_num t len 1 0 ya).1, (q_num t len 1 0 ya).2.1)).2).1, (q_num t len 4 (q_skip t len [32] ((q_num t len 1 0 ya).1, (q_num t len 1 0 ya).2.1)).1 (q_skip t len [32] ((q_num t len 1 0 ya).1, (q_num t len 1 0 ya).2.1)).2).2.1, n + 1, upd (upd (upd c (3 * n) (nI 108)) (3 * n + 1) (q_num t len 1 0 ya).2.2) (3 * n + 2) (q_num t len 4 (q_skip t len [32] ((q_num t len 1 0 ya).1, (q_num t len 1 0 ya).2.1)).1 (q_skip t len [32] ((q_num t len 1 0 ya).1, (q_num t len 1 0 ya).2.1)).2).2.2) := by
    unfold q_cmd
    rw [if_neg (not_not_intro rfl)]
    dsimp only
    rw [h0, show r_word (nI 108) = "load " by decide +kernel, hy, if_neg (by decide), if_neg (by decide), if_neg (show ¬ nI 108 = 122 by decide), if_neg (show ¬ nI 108 = 122 by decide), e]
  rw [g]
  refine ⟨rfl, rfl, by rw [h0]; decide, ?_, ?_⟩
  · dsimp only
    rw [pk_un (by omega), pk_us]
  · rw [if_neg (by rw [h0]; decide)]
    exact pk_us
theorem qc_g105 (h0 : r_beh t len a = nI 105) (hy : q_skip t len (byt "in ") (0, a) = (0, ya)) :
    (q_cmd t len (0, a, n, c)).1 = (q_num t len 4 (q_skip t len [32] ((q_num t len 1 0 ya).1, (q_num t len 1 0 ya).2.1)).1 (q_skip t len [32] ((q_num t len 1 0 ya).1, (q_num t len 1 0 ya).2.1)).2).1 ∧ (q_cmd t len (0, a, n, c)).2.1 = (q_num t len 4 (q_skip t len [32] ((q_num t len 1 0 ya).1, (q_num t len 1 0 ya).2.1)).1 (q_skip t len [32] ((q_num t len 1 0 ya).1, (q_num t len 1 0 ya).2.1)).2).2.1 ∧ kcode (r_beh t len a) = 2 ∧ (q_cmd t len (0, a, n, c)).2.2.2 (3 * n + 1) = (q_num t len 1 0 ya).2.2 ∧ (if r_beh t len a = 99 ∨ r_beh t len a = 119 then 0 else (q_cmd t len (0, a, n, c)).2.2.2 (3 * n + 2)) = (q_num t len 4 (q_skip t len [32] ((q_num t len 1 0 ya).1, (q_num t len 1 0 ya).2.1)).1 (q_skip t len [32] ((q_num t len 1 0 ya).1, (q_num t len 1 0 ya).2.1)).2).2.2 := by
  have e : byt " " = [32] := by decide +kernel
  have g : q_cmd t len (0, a, n, c) = ((q_num t len 4 (q_skip t len [32] ((q_num t len 1 0 ya).1, (q_num t len 1 0 ya).2.1)).1 (q_skip t len [32] ((q_num t len 1 0 ya).1, (q_num t len 1 0 ya).2.1)).2).1, (q_num t len 4 (q_skip t len [32] ((q_num t len 1 0 ya).1, (q_num t len 1 0 ya).2.1)).1 (q_skip t len [32] ((q_num t len 1 0 ya).1, (q_num t len 1 0 ya).2.1)).2).2.1, n + 1, upd (upd (upd c (3 * n) (nI 105)) (3 * n + 1) (q_num t len 1 0 ya).2.2) (3 * n + 2) (q_num t len 4 (q_skip t len [32] ((q_num t len 1 0 ya).1, (q_num t len 1 0 ya).2.1)).1 (q_skip t len [32] ((q_num t len 1 0 ya).1, (q_num t len 1 0 ya).2.1)).2).2.2) := by
    unfold q_cmd
    rw [if_neg (not_not_intro rfl)]
    dsimp only
    rw [h0, show r_word (nI 105) = "in " by decide +kernel, hy, if_neg (by decide), if_neg (by decide), if_neg (show ¬ nI 105 = 122 by decide), if_neg (show ¬ nI 105 = 122 by decide), e]
  rw [g]
  refine ⟨rfl, rfl, by rw [h0]; decide, ?_, ?_⟩
  · dsimp only
    rw [pk_un (by omega), pk_us]
  · rw [if_neg (by rw [h0]; decide)]
    exact pk_us
theorem qc_g111 (h0 : r_beh t len a = nI 111) (hy : q_skip t len (byt "out ") (0, a) = (0, ya)) :
    (q_cmd t len (0, a, n, c)).1 = (q_num t len 4 (q_skip t len [32] ((q_num t len 1 0 ya).1, (q_num t len 1 0 ya).2.1)).1 (q_skip t len [32] ((q_num t len 1 0 ya).1, (q_num t len 1 0 ya).2.1)).2).1 ∧ (q_cmd t len (0, a, n, c)).2.1 = (q_num t len 4 (q_skip t len [32] ((q_num t len 1 0 ya).1, (q_num t len 1 0 ya).2.1)).1 (q_skip t len [32] ((q_num t len 1 0 ya).1, (q_num t len 1 0 ya).2.1)).2).2.1 ∧ kcode (r_beh t len a) = 3 ∧ (q_cmd t len (0, a, n, c)).2.2.2 (3 * n + 1) = (q_num t len 1 0 ya).2.2 ∧ (if r_beh t len a = 99 ∨ r_beh t len a = 119 then 0 else (q_cmd t len (0, a, n, c)).2.2.2 (3 * n + 2)) = (q_num t len 4 (q_skip t len [32] ((q_num t len 1 0 ya).1, (q_num t len 1 0 ya).2.1)).1 (q_skip t len [32] ((q_num t len 1 0 ya).1, (q_num t len 1 0 ya).2.1)).2).2.2 := by
  have e : byt " " = [32] := by decide +kernel
  have g : q_cmd t len (0, a, n, c) = ((q_num t len 4 (q_skip t len [32] ((q_num t len 1 0 ya).1, (q_num t len 1 0 ya).2.1)).1 (q_skip t len [32] ((q_num t len 1 0 ya).1, (q_num t len 1 0 ya).2.1)).2).1, (q_num t len 4 (q_skip t len [32] ((q_num t len 1 0 ya).1, (q_num t len 1 0 ya).2.1)).1 (q_skip t len [32] ((q_num t len 1 0 ya).1, (q_num t len 1 0 ya).2.1)).2).2.1, n + 1, upd (upd (upd c (3 * n) (nI 111)) (3 * n + 1) (q_num t len 1 0 ya).2.2) (3 * n + 2) (q_num t len 4 (q_skip t len [32] ((q_num t len 1 0 ya).1, (q_num t len 1 0 ya).2.1)).1 (q_skip t len [32] ((q_num t len 1 0 ya).1, (q_num t len 1 0 ya).2.1)).2).2.2) := by
    unfold q_cmd
    rw [if_neg (not_not_intro rfl)]
    dsimp only
    rw [h0, show r_word (nI 111) = "out " by decide +kernel, hy, if_neg (by decide), if_neg (by decide), if_neg (show ¬ nI 111 = 122 by decide), if_neg (show ¬ nI 111 = 122 by decide), e]
  rw [g]
  refine ⟨rfl, rfl, by rw [h0]; decide, ?_, ?_⟩
  · dsimp only
    rw [pk_un (by omega), pk_us]
  · rw [if_neg (by rw [h0]; decide)]
    exact pk_us
theorem qc_g102 (h0 : r_beh t len a = nI 102) (hy : q_skip t len (byt "fix ") (0, a) = (0, ya)) :
    (q_cmd t len (0, a, n, c)).1 = (q_num t len 4 (q_skip t len [32] ((q_num t len 1 0 ya).1, (q_num t len 1 0 ya).2.1)).1 (q_skip t len [32] ((q_num t len 1 0 ya).1, (q_num t len 1 0 ya).2.1)).2).1 ∧ (q_cmd t len (0, a, n, c)).2.1 = (q_num t len 4 (q_skip t len [32] ((q_num t len 1 0 ya).1, (q_num t len 1 0 ya).2.1)).1 (q_skip t len [32] ((q_num t len 1 0 ya).1, (q_num t len 1 0 ya).2.1)).2).2.1 ∧ kcode (r_beh t len a) = 4 ∧ (q_cmd t len (0, a, n, c)).2.2.2 (3 * n + 1) = (q_num t len 1 0 ya).2.2 ∧ (if r_beh t len a = 99 ∨ r_beh t len a = 119 then 0 else (q_cmd t len (0, a, n, c)).2.2.2 (3 * n + 2)) = (q_num t len 4 (q_skip t len [32] ((q_num t len 1 0 ya).1, (q_num t len 1 0 ya).2.1)).1 (q_skip t len [32] ((q_num t len 1 0 ya).1, (q_num t len 1 0 ya).2.1)).2).2.2 := by
  have e : byt " " = [32] := by decide +kernel
  have g : q_cmd t len (0, a, n, c) = ((q_num t len 4 (q_skip t len [32] ((q_num t len 1 0 ya).1, (q_num t len 1 0 ya).2.1)).1 (q_skip t len [32] ((q_num t len 1 0 ya).1, (q_num t len 1 0 ya).2.1)).2).1, (q_num t len 4 (q_skip t len [32] ((q_num t len 1 0 ya).1, (q_num t len 1 0 ya).2.1)).1 (q_skip t len [32] ((q_num t len 1 0 ya).1, (q_num t len 1 0 ya).2.1)).2).2.1, n + 1, upd (upd (upd c (3 * n) (nI 102)) (3 * n + 1) (q_num t len 1 0 ya).2.2) (3 * n + 2) (q_num t len 4 (q_skip t len [32] ((q_num t len 1 0 ya).1, (q_num t len 1 0 ya).2.1)).1 (q_skip t len [32] ((q_num t len 1 0 ya).1, (q_num t len 1 0 ya).2.1)).2).2.2) := by
    unfold q_cmd
    rw [if_neg (not_not_intro rfl)]
    dsimp only
    rw [h0, show r_word (nI 102) = "fix " by decide +kernel, hy, if_neg (by decide), if_neg (by decide), if_neg (show ¬ nI 102 = 122 by decide), if_neg (show ¬ nI 102 = 122 by decide), e]
  rw [g]
  refine ⟨rfl, rfl, by rw [h0]; decide, ?_, ?_⟩
  · dsimp only
    rw [pk_un (by omega), pk_us]
  · rw [if_neg (by rw [h0]; decide)]
    exact pk_us
theorem qc_g122 (h0 : r_beh t len a = nI 122) (hy : q_skip t len (byt "zone ") (0, a) = (0, ya)) :
    (q_cmd t len (0, a, n, c)).1 = (q_num t len 1 (q_skip t len [32] ((q_num t len 4 0 ya).1, (q_num t len 4 0 ya).2.1)).1 (q_skip t len [32] ((q_num t len 4 0 ya).1, (q_num t len 4 0 ya).2.1)).2).1 ∧ (q_cmd t len (0, a, n, c)).2.1 = (q_num t len 1 (q_skip t len [32] ((q_num t len 4 0 ya).1, (q_num t len 4 0 ya).2.1)).1 (q_skip t len [32] ((q_num t len 4 0 ya).1, (q_num t len 4 0 ya).2.1)).2).2.1 ∧ kcode (r_beh t len a) = 5 ∧ (q_cmd t len (0, a, n, c)).2.2.2 (3 * n + 1) = (q_num t len 4 0 ya).2.2 ∧ (if r_beh t len a = 99 ∨ r_beh t len a = 119 then 0 else (q_cmd t len (0, a, n, c)).2.2.2 (3 * n + 2)) = (q_num t len 1 (q_skip t len [32] ((q_num t len 4 0 ya).1, (q_num t len 4 0 ya).2.1)).1 (q_skip t len [32] ((q_num t len 4 0 ya).1, (q_num t len 4 0 ya).2.1)).2).2.2 := by
  have e : byt " " = [32] := by decide +kernel
  have g : q_cmd t len (0, a, n, c) = ((q_num t len 1 (q_skip t len [32] ((q_num t len 4 0 ya).1, (q_num t len 4 0 ya).2.1)).1 (q_skip t len [32] ((q_num t len 4 0 ya).1, (q_num t len 4 0 ya).2.1)).2).1, (q_num t len 1 (q_skip t len [32] ((q_num t len 4 0 ya).1, (q_num t len 4 0 ya).2.1)).1 (q_skip t len [32] ((q_num t len 4 0 ya).1, (q_num t len 4 0 ya).2.1)).2).2.1, n + 1, upd (upd (upd c (3 * n) (nI 122)) (3 * n + 1) (q_num t len 4 0 ya).2.2) (3 * n + 2) (q_num t len 1 (q_skip t len [32] ((q_num t len 4 0 ya).1, (q_num t len 4 0 ya).2.1)).1 (q_skip t len [32] ((q_num t len 4 0 ya).1, (q_num t len 4 0 ya).2.1)).2).2.2) := by
    unfold q_cmd
    rw [if_neg (not_not_intro rfl)]
    dsimp only
    rw [h0, show r_word (nI 122) = "zone " by decide +kernel, hy, if_neg (by decide), if_neg (by decide), if_pos (show nI 122 = 122 from rfl), if_pos (show nI 122 = 122 from rfl), e]
  rw [g]
  refine ⟨rfl, rfl, by rw [h0]; decide, ?_, ?_⟩
  · dsimp only
    rw [pk_un (by omega), pk_us]
  · rw [if_neg (by rw [h0]; decide)]
    exact pk_us
end QC
set_option maxRecDepth 100000 in
set_option maxHeartbeats 4000000 in
theorem c_X4_readMinutes (l : Launch) (D : va_G) (kA : Nat → ClassId) (Hs : Heap) (σ : SG) (H0 : Heap) (hg : Ag Hs H0) (r b v cap len n a : Nat) (g t K1 K2 K3 : Nat → Int32) (y : Int32) (hn : n < 10) (hR : Rd D kA H0 r K1 K2 K3 n a y) (hS : Sb D kA H0 b v cap len g) (ht : Tx g t len) (hlen : len ≤ 60) (ha : a ≤ len) (hbr : b < r ∨ r + 4 ≤ b) (hvr : v < r ∨ r + 4 ≤ v) (hrs : Hs.size ≤ r)  : CtS l D kA Hs σ yX4_readMinutes cX4_readMinutes 2 (some .boolean) 6 133 0 0 H0 [.ref r, .ref b] (blk r 4) (pI fun v9 H => v9 = (if (q_num t len 4 0 a).1 = 0 then 1 else 0) ∧ Rk D kA H r K1 K2 K3 n ((q_num t len 4 0 a).1) ((q_num t len 4 0 a).2.1) (7) ((q_num t len 4 0 a).2.2) (0)) := by
  refine CtS.of mi_X4_readMinutes (Nat.le_of_ble_eq_true rfl) (ls0 := [(0, _), (1, _)]) rfl hg (fun q z => Nat.le_trans hrs z.1) ?_
  intro Pp Ee Ss Mm Ar Bl Me Cc Z hs hnm
  have Y := Z.1
  refine V_aload_n Y.1 0 dX4_readMinutes_0 (rfl : _ = 1) rfl rfl ?_
  refine V_aload_n Y.1 1 dX4_readMinutes_1 (rfl : _ = 2) rfl rfl ?_
  refine V_iconst Y.1 (v := 4) dX4_readMinutes_2 (rfl : _ = 3) (by decide) ?_
  refine V_cI Y (sV Z (c_X4_readNumber l D kA Hs σ _ hg r b v cap len n a g t K1 K2 K3 y 4 (by decide) hR hS ht hlen ha hbr hvr hrs (by decide)) mi_X4_readNumber vi_X4_81 rfl hR.1 rfl rfl (Nat.le_of_ble_eq_true rfl) ⟨Nat.le_of_ble_eq_true rfl, Nat.le_of_ble_eq_true rfl⟩ (Nat.le_of_ble_eq_true rfl) (Nat.le_of_ble_eq_true rfl) dX4_readMinutes_3) (fun q hq => Or.inl (blk_sub (by omega) (by omega) q hq)) (rfl : _ = 6) (fun v_3 H3_3 hq_3 o_3 => ?_)
  have hS := hS.off o_3 (by unfold blk; omega) (by unfold blk; omega)
  have hg := hg.keep o_3 (fun q z => Nat.le_trans hrs z.1)
  have ml := q_num_le (t := t) (len := len) (most := 4) (w := 0) (a := a) ha
  obtain ⟨⟨mw, ma, mx⟩, hm⟩ : ∃ z, q_num t len 4 0 a = z := ⟨_, rfl⟩
  obtain ⟨e3, y3, hR, ey3⟩ := hq_3
  rw [hm] at e3 hR ey3 ml
  dsimp only at e3 hR ey3 ml
  refine V_if_eq Y.1 (tgt := 27) dX4_readMinutes_6 (by decide) (rfl : _ = 9) (fun c_6 => ?_) (fun c_6 => ?_)
  · have z6 : ¬ mw = 0 := fun q => by rw [e3, if_pos q] at c_6; exact absurd c_6 (by decide)
    refine V_iconst Y.1 (v := 0) dX4_readMinutes_27 (rfl : _ = 28) (by decide) ?_
    exact V_ret Y.1 dX4_readMinutes_28 rfl (Nat.le_of_ble_eq_true rfl) (Nat.le_of_ble_eq_true rfl) ⟨by rw [hm]; exact (if_neg z6).symm, by rw [hm]; exact Rk.bad z6 hR⟩
  · have z6 : mw = 0 := Decidable.byContradiction fun q => c_6 (by rw [e3, if_neg q])
    subst z6
    obtain rfl := ey3 rfl
    refine V_aload_n Y.1 0 dX4_readMinutes_9 (rfl : _ = 10) rfl rfl ?_
    refine V_bipush Y.1 (v := 7) dX4_readMinutes_10 (rfl : _ = 12) (by decide) ?_
    refine V_aload_n Y.1 0 dX4_readMinutes_12 (rfl : _ = 13) rfl rfl ?_
    refine V_get Y.1 fi_X4_84 hR.1 rfl dX4_readMinutes_13 (rfl : _ = 16) ?_
    refine V_iconst Y.1 (v := 0) dX4_readMinutes_16 (rfl : _ = 17) (by decide) ?_
    refine V_cI Y (sV Z (c_X4_keep l D kA Hs σ _ hg r b v cap len n ma g t K1 K2 K3 _ (7) (y3) (0) hn hR hS ht hlen ml.2.2 hbr hvr hrs) mi_X4_keep vi_X4_77 rfl hR.1 rfl rfl (Nat.le_of_ble_eq_true rfl) ⟨Nat.le_of_ble_eq_true rfl, Nat.le_of_ble_eq_true rfl⟩ (Nat.le_of_ble_eq_true rfl) (Nat.le_of_ble_eq_true rfl) dX4_readMinutes_17) (fun q hq => Or.inl (blk_sub (by omega) (by omega) q hq)) (rfl : _ = 20) (fun v_17 H17_23 hq_17 o_17 => ?_)
    obtain ⟨e17, hR⟩ := hq_17
    refine V_if_eq Y.1 (tgt := 27) dX4_readMinutes_20 (by decide) (rfl : _ = 23) (fun c_n => absurd c_n (by rw [e17]; decide)) (fun _ => ?_)
    refine V_iconst Y.1 (v := 1) dX4_readMinutes_23 (rfl : _ = 24) (by decide) ?_
    refine V_goto Y.1 (tgt := 28) dX4_readMinutes_24 (by decide) ?_
    exact V_ret Y.1 dX4_readMinutes_28 rfl (Nat.le_of_ble_eq_true rfl) (Nat.le_of_ble_eq_true rfl) ⟨by rw [hm]; rfl, by rw [hm]; exact Rk.good hR⟩

set_option maxRecDepth 100000 in
set_option maxHeartbeats 4000000 in
theorem c_X4_readCardKind (l : Launch) (D : va_G) (kA : Nat → ClassId) (Hs : Heap) (σ : SG) (H0 : Heap) (hg : Ag Hs H0) (r b v cap len n a : Nat) (g t K1 K2 K3 : Nat → Int32) (y : Int32) (hn : n < 10) (hR : Rd D kA H0 r K1 K2 K3 n a y) (hS : Sb D kA H0 b v cap len g) (ht : Tx g t len) (hlen : len ≤ 60) (ha : a ≤ len) (hbr : b < r ∨ r + 4 ≤ b) (hvr : v < r ∨ r + 4 ≤ v) (hrs : Hs.size ≤ r)  : CtS l D kA Hs σ yX4_readCardKind cX4_readCardKind 2 (some .boolean) 5 110 0 0 H0 [.ref r, .ref b] (blk r 4) (pI fun v9 H => v9 = (if (if r_beh t len a = 114 then 0 else if r_beh t len a = 102 then 0 else 1) = 0 then 1 else 0) ∧ Rk D kA H r K1 K2 K3 n ((if r_beh t len a = 114 then 0 else if r_beh t len a = 102 then 0 else 1)) ((if r_beh t len a = 114 then a + 1 else if r_beh t len a = 102 then a + 1 else a)) (0) (if r_beh t len a = 114 then 1 else 0) (0)) := by
  refine CtS.of mi_X4_readCardKind (Nat.le_of_ble_eq_true rfl) (ls0 := [(0, _), (1, _)]) rfl hg (fun q z => Nat.le_trans hrs z.1) ?_
  intro Pp Ee Ss Mm Ar Bl Me Cc Z hs hnm
  have Y := Z.1
  refine V_aload_n Y.1 0 dX4_readCardKind_0 (rfl : _ = 1) rfl rfl ?_
  refine V_aload_n Y.1 1 dX4_readCardKind_1 (rfl : _ = 2) rfl rfl ?_
  refine V_bipush Y.1 (v := 102) dX4_readCardKind_2 (rfl : _ = 4) (by decide) ?_
  refine V_cI Y (sV Z (c_X4_readSign l D kA Hs σ _ hg r b v cap len n a g t K1 K2 K3 y 102 (by decide) hR hS ht hlen ha hbr hvr hrs) mi_X4_readSign vi_X4_38 rfl hR.1 rfl rfl (Nat.le_of_ble_eq_true rfl) ⟨Nat.le_of_ble_eq_true rfl, Nat.le_of_ble_eq_true rfl⟩ (Nat.le_of_ble_eq_true rfl) (Nat.le_of_ble_eq_true rfl) dX4_readCardKind_4) (fun q hq => Or.inl (blk_sub (by omega) (by omega) q hq)) (rfl : _ = 7) (fun v_4 H4_3 hq_4 o_4 => ?_)
  obtain ⟨e4, hR⟩ := hq_4
  have hS := hS.off o_4 (by unfold blk; omega) (by unfold blk; omega)
  have hg := hg.keep o_4 (fun q z => Nat.le_trans hrs z.1)
  refine V_if_eq Y.1 (tgt := 18) dX4_readCardKind_7 (by decide) (rfl : _ = 10) (fun c_7 => ?_) (fun c_7 => ?_)
  · have c8 : ¬ r_beh t len a = 102 := fun q => by rw [e4, if_pos q] at c_7; exact absurd c_7 (by decide)
    rw [if_neg c8] at hR
    refine V_aload_n Y.1 0 dX4_readCardKind_18 (rfl : _ = 19) rfl rfl ?_
    refine V_aload_n Y.1 1 dX4_readCardKind_19 (rfl : _ = 20) rfl rfl ?_
    refine V_bipush Y.1 (v := 114) dX4_readCardKind_20 (rfl : _ = 22) (by decide) ?_
    refine V_cI Y (sV Z (c_X4_readSign l D kA Hs σ _ hg r b v cap len n a g t K1 K2 K3 y 114 (by decide) hR hS ht hlen ha hbr hvr hrs) mi_X4_readSign vi_X4_38 rfl hR.1 rfl rfl (Nat.le_of_ble_eq_true rfl) ⟨Nat.le_of_ble_eq_true rfl, Nat.le_of_ble_eq_true rfl⟩ (Nat.le_of_ble_eq_true rfl) (Nat.le_of_ble_eq_true rfl) dX4_readCardKind_22) (fun q hq => Or.inl (blk_sub (by omega) (by omega) q hq)) (rfl : _ = 25) (fun v_22 H22_13 hq_22 o_22 => ?_)
    obtain ⟨e22, hR⟩ := hq_22
    have hS := hS.off o_22 (by unfold blk; omega) (by unfold blk; omega)
    have hg := hg.keep o_22 (fun q z => Nat.le_trans hrs z.1)
    refine V_if_eq Y.1 (tgt := 42) dX4_readCardKind_25 (by decide) (rfl : _ = 28) (fun c_25 => ?_) (fun c_25 => ?_)
    · have c9 : ¬ r_beh t len a = 114 := fun q => by rw [e22, if_pos q] at c_25; exact absurd c_25 (by decide)
      rw [if_neg c9] at hR
      refine V_iconst Y.1 (v := 0) dX4_readCardKind_42 (rfl : _ = 43) (by decide) ?_
      exact V_ret Y.1 dX4_readCardKind_43 rfl (Nat.le_of_ble_eq_true rfl) (Nat.le_of_ble_eq_true rfl) ⟨by rw [if_neg c9, if_neg c8]; rfl, by rw [if_neg c9, if_neg c8, if_neg c9, if_neg c8, if_neg c9]; exact Rk.bad (by decide) hR⟩
    · have c9 : r_beh t len a = 114 := Decidable.byContradiction fun q => c_25 (by rw [e22, if_neg q])
      rw [if_pos c9] at hR
      have hlt : a < len := r_beh_lt (by rw [c9]; decide)
      refine V_aload_n Y.1 0 dX4_readCardKind_28 (rfl : _ = 29) rfl rfl ?_
      refine V_iconst Y.1 (v := 0) dX4_readCardKind_29 (rfl : _ = 30) (by decide) ?_
      refine V_iconst Y.1 (v := 1) dX4_readCardKind_30 (rfl : _ = 31) (by decide) ?_
      refine V_iconst Y.1 (v := 0) dX4_readCardKind_31 (rfl : _ = 32) (by decide) ?_
      refine V_cI Y (sV Z (c_X4_keep l D kA Hs σ _ hg r b v cap len n (a + 1) g t K1 K2 K3 _ (0) (1) (0) hn hR hS ht hlen hlt hbr hvr hrs) mi_X4_keep vi_X4_77 rfl hR.1 rfl rfl (Nat.le_of_ble_eq_true rfl) ⟨Nat.le_of_ble_eq_true rfl, Nat.le_of_ble_eq_true rfl⟩ (Nat.le_of_ble_eq_true rfl) (Nat.le_of_ble_eq_true rfl) dX4_readCardKind_32) (fun q hq => Or.inl (blk_sub (by omega) (by omega) q hq)) (rfl : _ = 35) (fun v_32 H32_29 hq_32 o_32 => ?_)
      obtain ⟨e32, hR⟩ := hq_32
      refine V_if_eq Y.1 (tgt := 42) dX4_readCardKind_35 (by decide) (rfl : _ = 38) (fun c_n => absurd c_n (by rw [e32]; decide)) (fun _ => ?_)
      refine V_iconst Y.1 (v := 1) dX4_readCardKind_38 (rfl : _ = 39) (by decide) ?_
      refine V_goto Y.1 (tgt := 43) dX4_readCardKind_39 (by decide) ?_
      exact V_ret Y.1 dX4_readCardKind_43 rfl (Nat.le_of_ble_eq_true rfl) (Nat.le_of_ble_eq_true rfl) ⟨by rw [if_pos c9]; rfl, by rw [if_pos c9, if_pos c9, if_pos c9]; exact Rk.good hR⟩
  · have c8 : r_beh t len a = 102 := Decidable.byContradiction fun q => c_7 (by rw [e4, if_neg q])
    rw [if_pos c8] at hR
    have c9 : ¬ r_beh t len a = 114 := by rw [c8]; decide
    have hlt : a < len := r_beh_lt (by rw [c8]; decide)
    refine V_aload_n Y.1 0 dX4_readCardKind_10 (rfl : _ = 11) rfl rfl ?_
    refine V_iconst Y.1 (v := 0) dX4_readCardKind_11 (rfl : _ = 12) (by decide) ?_
    refine V_iconst Y.1 (v := 0) dX4_readCardKind_12 (rfl : _ = 13) (by decide) ?_
    refine V_iconst Y.1 (v := 0) dX4_readCardKind_13 (rfl : _ = 14) (by decide) ?_
    refine V_cI Y (sV Z (c_X4_keep l D kA Hs σ _ hg r b v cap len n (a + 1) g t K1 K2 K3 _ (0) (0) (0) hn hR hS ht hlen hlt hbr hvr hrs) mi_X4_keep vi_X4_77 rfl hR.1 rfl rfl (Nat.le_of_ble_eq_true rfl) ⟨Nat.le_of_ble_eq_true rfl, Nat.le_of_ble_eq_true rfl⟩ (Nat.le_of_ble_eq_true rfl) (Nat.le_of_ble_eq_true rfl) dX4_readCardKind_14) (fun q hq => Or.inl (blk_sub (by omega) (by omega) q hq)) (rfl : _ = 17) (fun v_14 H14_43 hq_14 o_14 => ?_)
    obtain ⟨e14, hR⟩ := hq_14
    exact V_ret Y.1 dX4_readCardKind_17 (by rw [e14]; rfl) (Nat.le_of_ble_eq_true rfl) (Nat.le_of_ble_eq_true rfl) ⟨by rw [if_neg c9, if_pos c8]; exact e14, by rw [if_neg c9, if_pos c8, if_neg c9, if_pos c8, if_neg c9]; exact Rk.good hR⟩

set_option maxRecDepth 100000 in
set_option maxHeartbeats 4000000 in
theorem c_X4_readDigitAndNumber (l : Launch) (D : va_G) (kA : Nat → ClassId) (Hs : Heap) (σ : SG) (H0 : Heap) (hg : Ag Hs H0) (r b v cap len n a : Nat) (g t K1 K2 K3 : Nat → Int32) (y : Int32) (k : Int32) (hn : n < 10) (hR : Rd D kA H0 r K1 K2 K3 n a y) (hS : Sb D kA H0 b v cap len g) (ht : Tx g t len) (hlen : len ≤ 60) (ha : a ≤ len) (hbr : b < r ∨ r + 4 ≤ b) (hvr : v < r ∨ r + 4 ≤ v) (hrs : Hs.size ≤ r)  : CtS l D kA Hs σ yX4_readDigitAndNumber cX4_readDigitAndNumber 4 (some .boolean) 6 133 0 0 H0 [.ref r, .ref b, .int k] (blk r 4) (pI fun v9 H => v9 = (if (q_num t len 4 (q_skip t len [32] ((q_num t len 1 0 a).1, (q_num t len 1 0 a).2.1)).1 (q_skip t len [32] ((q_num t len 1 0 a).1, (q_num t len 1 0 a).2.1)).2).1 = 0 then 1 else 0) ∧ Rk D kA H r K1 K2 K3 n ((q_num t len 4 (q_skip t len [32] ((q_num t len 1 0 a).1, (q_num t len 1 0 a).2.1)).1 (q_skip t len [32] ((q_num t len 1 0 a).1, (q_num t len 1 0 a).2.1)).2).1) ((q_num t len 4 (q_skip t len [32] ((q_num t len 1 0 a).1, (q_num t len 1 0 a).2.1)).1 (q_skip t len [32] ((q_num t len 1 0 a).1, (q_num t len 1 0 a).2.1)).2).2.1) (k) ((q_num t len 1 0 a).2.2) ((q_num t len 4 (q_skip t len [32] ((q_num t len 1 0 a).1, (q_num t len 1 0 a).2.1)).1 (q_skip t len [32] ((q_num t len 1 0 a).1, (q_num t len 1 0 a).2.1)).2).2.2)) := by
  refine CtS.of mi_X4_readDigitAndNumber (Nat.le_of_ble_eq_true rfl) (ls0 := [(0, _), (1, _), (2, _)]) rfl hg (fun q z => Nat.le_trans hrs z.1) ?_
  intro Pp Ee Ss Mm Ar Bl Me Cc Z hs hnm
  have Y := Z.1
  refine V_aload_n Y.1 0 dX4_readDigitAndNumber_0 (rfl : _ = 1) rfl rfl ?_
  refine V_aload_n Y.1 1 dX4_readDigitAndNumber_1 (rfl : _ = 2) rfl rfl ?_
  refine V_iconst Y.1 (v := 1) dX4_readDigitAndNumber_2 (rfl : _ = 3) (by decide) ?_
  refine V_cI Y (sV Z (c_X4_readNumber l D kA Hs σ _ hg r b v cap len n a g t K1 K2 K3 y 1 (by decide) hR hS ht hlen ha hbr hvr hrs (by decide)) mi_X4_readNumber vi_X4_81 rfl hR.1 rfl rfl (Nat.le_of_ble_eq_true rfl) ⟨Nat.le_of_ble_eq_true rfl, Nat.le_of_ble_eq_true rfl⟩ (Nat.le_of_ble_eq_true rfl) (Nat.le_of_ble_eq_true rfl) dX4_readDigitAndNumber_3) (fun q hq => Or.inl (blk_sub (by omega) (by omega) q hq)) (rfl : _ = 6) (fun v_3 H3_3 hq_3 o_3 => ?_)
  have hS := hS.off o_3 (by unfold blk; omega) (by unfold blk; omega)
  have hg := hg.keep o_3 (fun q z => Nat.le_trans hrs z.1)
  have ml := q_num_le (t := t) (len := len) (most := 1) (w := 0) (a := a) ha
  obtain ⟨⟨mw, ma, mx⟩, hm⟩ : ∃ z, q_num t len 1 0 a = z := ⟨_, rfl⟩
  obtain ⟨e3, y3, hR, ey3⟩ := hq_3
  rw [hm] at e3 hR ey3 ml
  dsimp only at e3 hR ey3 ml
  refine V_if_ne Y.1 (tgt := 11) dX4_readDigitAndNumber_6 (by decide) (rfl : _ = 9) (fun c_6 => ?_) (fun c_6 => ?_)
  · have z6 : mw = 0 := Decidable.byContradiction fun q => c_6 (by rw [e3, if_neg q])
    subst z6
    obtain rfl := ey3 rfl
    refine V_aload_n Y.1 0 dX4_readDigitAndNumber_11 (rfl : _ = 12) rfl rfl ?_
    refine V_get Y.1 fi_X4_84 hR.1 rfl dX4_readDigitAndNumber_12 (rfl : _ = 15) ?_
    refine V_istore_n Y.1 (ls' := [(3, _), (0, _), (1, _), (2, _)]) dX4_readDigitAndNumber_15 (rfl : _ = 16) rfl (by decide) rfl ?_
    refine V_aload_n Y.1 1 dX4_readDigitAndNumber_16 (rfl : _ = 17) rfl rfl ?_
    refine V_aload_n Y.1 2 dX4_readDigitAndNumber_17 (rfl : _ = 18) rfl rfl ?_
    refine V_bipush Y.1 (v := 32) dX4_readDigitAndNumber_18 (rfl : _ = 20) (by decide) ?_
    refine V_cI Y (sV Z (c_X4_readSign l D kA Hs σ _ hg r b v cap len n ma g t K1 K2 K3 y3 32 (by decide) hR hS ht hlen ml.2.2 hbr hvr hrs) mi_X4_readSign vi_X4_38 rfl hR.1 rfl rfl (Nat.le_of_ble_eq_true rfl) ⟨Nat.le_of_ble_eq_true rfl, Nat.le_of_ble_eq_true rfl⟩ (Nat.le_of_ble_eq_true rfl) (Nat.le_of_ble_eq_true rfl) dX4_readDigitAndNumber_20) (fun q hq => Or.inl (blk_sub (by omega) (by omega) q hq)) (rfl : _ = 23) (fun v_20 H20_21 hq_20 o_20 => ?_)
    obtain ⟨e20, hR⟩ := hq_20
    have hS := hS.off o_20 (by unfold blk; omega) (by unfold blk; omega)
    have hg := hg.keep o_20 (fun q z => Nat.le_trans hrs z.1)
    refine V_if_eq Y.1 (tgt := 52) dX4_readDigitAndNumber_23 (by decide) (rfl : _ = 26) (fun c_23 => ?_) (fun c_23 => ?_)
    · have c8 : ¬ r_beh t len ma = 32 := fun q => by rw [e20, if_pos q] at c_23; exact absurd c_23 (by decide)
      rw [if_neg c8] at hR
      have hs : q_skip t len [32] (0, ma) = (1, ma) := by rw [q_skip, if_neg (not_not_intro rfl), if_neg c8]
      refine V_iconst Y.1 (v := 0) dX4_readDigitAndNumber_52 (rfl : _ = 53) (by decide) ?_
      exact V_ret Y.1 dX4_readDigitAndNumber_53 rfl (Nat.le_of_ble_eq_true rfl) (Nat.le_of_ble_eq_true rfl) ⟨by rw [hm]; dsimp only; rw [hs]; dsimp only; rw [q_num_w (by decide)]; rfl, by rw [hm]; dsimp only; rw [hs]; dsimp only; rw [q_num_w (by decide)]; exact Rk.bad Nat.one_ne_zero hR⟩
    · have c8 : r_beh t len ma = 32 := Decidable.byContradiction fun q => c_23 (by rw [e20, if_neg q])
      rw [if_pos c8] at hR
      have hlt : ma < len := r_beh_lt (by rw [c8]; decide)
      have hs : q_skip t len [32] (0, ma) = (0, ma + 1) := by rw [q_skip, if_neg (not_not_intro rfl), if_pos c8]; rfl
      refine V_aload_n Y.1 1 dX4_readDigitAndNumber_26 (rfl : _ = 27) rfl rfl ?_
      refine V_aload_n Y.1 2 dX4_readDigitAndNumber_27 (rfl : _ = 28) rfl rfl ?_
      refine V_iconst Y.1 (v := 4) dX4_readDigitAndNumber_28 (rfl : _ = 29) (by decide) ?_
      refine V_cI Y (sV Z (c_X4_readNumber l D kA Hs σ _ hg r b v cap len n (ma + 1) g t K1 K2 K3 _ 4 (by decide) hR hS ht hlen hlt hbr hvr hrs (by decide)) mi_X4_readNumber vi_X4_81 rfl hR.1 rfl rfl (Nat.le_of_ble_eq_true rfl) ⟨Nat.le_of_ble_eq_true rfl, Nat.le_of_ble_eq_true rfl⟩ (Nat.le_of_ble_eq_true rfl) (Nat.le_of_ble_eq_true rfl) dX4_readDigitAndNumber_29) (fun q hq => Or.inl (blk_sub (by omega) (by omega) q hq)) (rfl : _ = 32) (fun v_29 H29_38 hq_29 o_29 => ?_)
      have hS := hS.off o_29 (by unfold blk; omega) (by unfold blk; omega)
      have hg := hg.keep o_29 (fun q z => Nat.le_trans hrs z.1)
      have rl := q_num_le (t := t) (len := len) (most := 4) (w := 0) (a := (ma + 1)) hlt
      obtain ⟨⟨rw, ra, rx⟩, hr⟩ : ∃ z, q_num t len 4 0 (ma + 1) = z := ⟨_, rfl⟩
      obtain ⟨e29, y29, hR, ey29⟩ := hq_29
      rw [hr] at e29 hR ey29 rl
      dsimp only at e29 hR ey29 rl
      refine V_if_eq Y.1 (tgt := 52) dX4_readDigitAndNumber_32 (by decide) (rfl : _ = 35) (fun c_32 => ?_) (fun c_32 => ?_)
      · have z32 : ¬ rw = 0 := fun q => by rw [e29, if_pos q] at c_32; exact absurd c_32 (by decide)
        refine V_iconst Y.1 (v := 0) dX4_readDigitAndNumber_52 (rfl : _ = 53) (by decide) ?_
        exact V_ret Y.1 dX4_readDigitAndNumber_53 rfl (Nat.le_of_ble_eq_true rfl) (Nat.le_of_ble_eq_true rfl) ⟨by rw [hm]; dsimp only; rw [hs]; dsimp only; rw [hr]; exact (if_neg z32).symm, by rw [hm]; dsimp only; rw [hs]; dsimp only; rw [hr]; exact Rk.bad z32 hR⟩
      · have z32 : rw = 0 := Decidable.byContradiction fun q => c_32 (by rw [e29, if_neg q])
        subst z32
        obtain rfl := ey29 rfl
        refine V_aload_n Y.1 1 dX4_readDigitAndNumber_35 (rfl : _ = 36) rfl rfl ?_
        refine V_iload_n Y.1 3 dX4_readDigitAndNumber_36 (rfl : _ = 37) rfl rfl ?_
        refine V_iload_n Y.1 0 dX4_readDigitAndNumber_37 (rfl : _ = 38) rfl rfl ?_
        refine V_aload_n Y.1 1 dX4_readDigitAndNumber_38 (rfl : _ = 39) rfl rfl ?_
        refine V_get Y.1 fi_X4_84 hR.1 rfl dX4_readDigitAndNumber_39 (rfl : _ = 42) ?_
        refine V_cI Y (sV Z (c_X4_keep l D kA Hs σ _ hg r b v cap len n ra g t K1 K2 K3 _ (k) (y3) (y29) hn hR hS ht hlen rl.2.2 hbr hvr hrs) mi_X4_keep vi_X4_77 rfl hR.1 rfl rfl (Nat.le_of_ble_eq_true rfl) ⟨Nat.le_of_ble_eq_true rfl, Nat.le_of_ble_eq_true rfl⟩ (Nat.le_of_ble_eq_true rfl) (Nat.le_of_ble_eq_true rfl) dX4_readDigitAndNumber_42) (fun q hq => Or.inl (blk_sub (by omega) (by omega) q hq)) (rfl : _ = 45) (fun v_42 H42_58 hq_42 o_42 => ?_)
        obtain ⟨e42, hR⟩ := hq_42
        refine V_if_eq Y.1 (tgt := 52) dX4_readDigitAndNumber_45 (by decide) (rfl : _ = 48) (fun c_n => absurd c_n (by rw [e42]; decide)) (fun _ => ?_)
        refine V_iconst Y.1 (v := 1) dX4_readDigitAndNumber_48 (rfl : _ = 49) (by decide) ?_
        refine V_goto Y.1 (tgt := 53) dX4_readDigitAndNumber_49 (by decide) ?_
        exact V_ret Y.1 dX4_readDigitAndNumber_53 rfl (Nat.le_of_ble_eq_true rfl) (Nat.le_of_ble_eq_true rfl) ⟨by rw [hm]; dsimp only; rw [hs]; dsimp only; rw [hr]; rfl, by rw [hm]; dsimp only; rw [hs]; dsimp only; rw [hr]; exact Rk.good hR⟩
  · have z6 : ¬ mw = 0 := fun q => by rw [e3, if_pos q] at c_6; exact absurd c_6 (by decide)
    refine V_iconst Y.1 (v := 0) dX4_readDigitAndNumber_9 (rfl : _ = 10) (by decide) ?_
    exact V_ret Y.1 dX4_readDigitAndNumber_10 rfl (Nat.le_of_ble_eq_true rfl) (Nat.le_of_ble_eq_true rfl) ⟨by rw [hm]; dsimp only; rw [q_skip_w z6]; dsimp only; rw [q_num_w z6]; rfl, by rw [hm]; dsimp only; rw [q_skip_w z6]; dsimp only; rw [q_num_w z6]; exact Rk.bad Nat.one_ne_zero hR⟩

set_option maxRecDepth 100000 in
set_option maxHeartbeats 4000000 in
theorem c_X4_readNumberAndDigit (l : Launch) (D : va_G) (kA : Nat → ClassId) (Hs : Heap) (σ : SG) (H0 : Heap) (hg : Ag Hs H0) (r b v cap len n a : Nat) (g t K1 K2 K3 : Nat → Int32) (y : Int32)  (hn : n < 10) (hR : Rd D kA H0 r K1 K2 K3 n a y) (hS : Sb D kA H0 b v cap len g) (ht : Tx g t len) (hlen : len ≤ 60) (ha : a ≤ len) (hbr : b < r ∨ r + 4 ≤ b) (hvr : v < r ∨ r + 4 ≤ v) (hrs : Hs.size ≤ r)  : CtS l D kA Hs σ yX4_readNumberAndDigit cX4_readNumberAndDigit 3 (some .boolean) 6 133 0 0 H0 [.ref r, .ref b] (blk r 4) (pI fun v9 H => v9 = (if (q_num t len 1 (q_skip t len [32] ((q_num t len 4 0 a).1, (q_num t len 4 0 a).2.1)).1 (q_skip t len [32] ((q_num t len 4 0 a).1, (q_num t len 4 0 a).2.1)).2).1 = 0 then 1 else 0) ∧ Rk D kA H r K1 K2 K3 n ((q_num t len 1 (q_skip t len [32] ((q_num t len 4 0 a).1, (q_num t len 4 0 a).2.1)).1 (q_skip t len [32] ((q_num t len 4 0 a).1, (q_num t len 4 0 a).2.1)).2).1) ((q_num t len 1 (q_skip t len [32] ((q_num t len 4 0 a).1, (q_num t len 4 0 a).2.1)).1 (q_skip t len [32] ((q_num t len 4 0 a).1, (q_num t len 4 0 a).2.1)).2).2.1) (5) ((q_num t len 4 0 a).2.2) ((q_num t len 1 (q_skip t len [32] ((q_num t len 4 0 a).1, (q_num t len 4 0 a).2.1)).1 (q_skip t len [32] ((q_num t len 4 0 a).1, (q_num t len 4 0 a).2.1)).2).2.2)) := by
  refine CtS.of mi_X4_readNumberAndDigit (Nat.le_of_ble_eq_true rfl) (ls0 := [(0, _), (1, _)]) rfl hg (fun q z => Nat.le_trans hrs z.1) ?_
  intro Pp Ee Ss Mm Ar Bl Me Cc Z hs hnm
  have Y := Z.1
  refine V_aload_n Y.1 0 dX4_readNumberAndDigit_0 (rfl : _ = 1) rfl rfl ?_
  refine V_aload_n Y.1 1 dX4_readNumberAndDigit_1 (rfl : _ = 2) rfl rfl ?_
  refine V_iconst Y.1 (v := 4) dX4_readNumberAndDigit_2 (rfl : _ = 3) (by decide) ?_
  refine V_cI Y (sV Z (c_X4_readNumber l D kA Hs σ _ hg r b v cap len n a g t K1 K2 K3 y 4 (by decide) hR hS ht hlen ha hbr hvr hrs (by decide)) mi_X4_readNumber vi_X4_81 rfl hR.1 rfl rfl (Nat.le_of_ble_eq_true rfl) ⟨Nat.le_of_ble_eq_true rfl, Nat.le_of_ble_eq_true rfl⟩ (Nat.le_of_ble_eq_true rfl) (Nat.le_of_ble_eq_true rfl) dX4_readNumberAndDigit_3) (fun q hq => Or.inl (blk_sub (by omega) (by omega) q hq)) (rfl : _ = 6) (fun v_3 H3_3 hq_3 o_3 => ?_)
  have hS := hS.off o_3 (by unfold blk; omega) (by unfold blk; omega)
  have hg := hg.keep o_3 (fun q z => Nat.le_trans hrs z.1)
  have ml := q_num_le (t := t) (len := len) (most := 4) (w := 0) (a := a) ha
  obtain ⟨⟨mw, ma, mx⟩, hm⟩ : ∃ z, q_num t len 4 0 a = z := ⟨_, rfl⟩
  obtain ⟨e3, y3, hR, ey3⟩ := hq_3
  rw [hm] at e3 hR ey3 ml
  dsimp only at e3 hR ey3 ml
  refine V_if_ne Y.1 (tgt := 11) dX4_readNumberAndDigit_6 (by decide) (rfl : _ = 9) (fun c_6 => ?_) (fun c_6 => ?_)
  · have z6 : mw = 0 := Decidable.byContradiction fun q => c_6 (by rw [e3, if_neg q])
    subst z6
    obtain rfl := ey3 rfl
    refine V_aload_n Y.1 0 dX4_readNumberAndDigit_11 (rfl : _ = 12) rfl rfl ?_
    refine V_get Y.1 fi_X4_84 hR.1 rfl dX4_readNumberAndDigit_12 (rfl : _ = 15) ?_
    refine V_istore_n Y.1 (ls' := [(2, _), (0, _), (1, _)]) dX4_readNumberAndDigit_15 (rfl : _ = 16) rfl (by decide) rfl ?_
    refine V_aload_n Y.1 1 dX4_readNumberAndDigit_16 (rfl : _ = 17) rfl rfl ?_
    refine V_aload_n Y.1 2 dX4_readNumberAndDigit_17 (rfl : _ = 18) rfl rfl ?_
    refine V_bipush Y.1 (v := 32) dX4_readNumberAndDigit_18 (rfl : _ = 20) (by decide) ?_
    refine V_cI Y (sV Z (c_X4_readSign l D kA Hs σ _ hg r b v cap len n ma g t K1 K2 K3 y3 32 (by decide) hR hS ht hlen ml.2.2 hbr hvr hrs) mi_X4_readSign vi_X4_38 rfl hR.1 rfl rfl (Nat.le_of_ble_eq_true rfl) ⟨Nat.le_of_ble_eq_true rfl, Nat.le_of_ble_eq_true rfl⟩ (Nat.le_of_ble_eq_true rfl) (Nat.le_of_ble_eq_true rfl) dX4_readNumberAndDigit_20) (fun q hq => Or.inl (blk_sub (by omega) (by omega) q hq)) (rfl : _ = 23) (fun v_20 H20_21 hq_20 o_20 => ?_)
    obtain ⟨e20, hR⟩ := hq_20
    have hS := hS.off o_20 (by unfold blk; omega) (by unfold blk; omega)
    have hg := hg.keep o_20 (fun q z => Nat.le_trans hrs z.1)
    refine V_if_eq Y.1 (tgt := 52) dX4_readNumberAndDigit_23 (by decide) (rfl : _ = 26) (fun c_23 => ?_) (fun c_23 => ?_)
    · have c8 : ¬ r_beh t len ma = 32 := fun q => by rw [e20, if_pos q] at c_23; exact absurd c_23 (by decide)
      rw [if_neg c8] at hR
      have hs : q_skip t len [32] (0, ma) = (1, ma) := by rw [q_skip, if_neg (not_not_intro rfl), if_neg c8]
      refine V_iconst Y.1 (v := 0) dX4_readNumberAndDigit_52 (rfl : _ = 53) (by decide) ?_
      exact V_ret Y.1 dX4_readNumberAndDigit_53 rfl (Nat.le_of_ble_eq_true rfl) (Nat.le_of_ble_eq_true rfl) ⟨by rw [hm]; dsimp only; rw [hs]; dsimp only; rw [q_num_w (by decide)]; rfl, by rw [hm]; dsimp only; rw [hs]; dsimp only; rw [q_num_w (by decide)]; exact Rk.bad Nat.one_ne_zero hR⟩
    · have c8 : r_beh t len ma = 32 := Decidable.byContradiction fun q => c_23 (by rw [e20, if_neg q])
      rw [if_pos c8] at hR
      have hlt : ma < len := r_beh_lt (by rw [c8]; decide)
      have hs : q_skip t len [32] (0, ma) = (0, ma + 1) := by rw [q_skip, if_neg (not_not_intro rfl), if_pos c8]; rfl
      refine V_aload_n Y.1 1 dX4_readNumberAndDigit_26 (rfl : _ = 27) rfl rfl ?_
      refine V_aload_n Y.1 2 dX4_readNumberAndDigit_27 (rfl : _ = 28) rfl rfl ?_
      refine V_iconst Y.1 (v := 1) dX4_readNumberAndDigit_28 (rfl : _ = 29) (by decide) ?_
      refine V_cI Y (sV Z (c_X4_readNumber l D kA Hs σ _ hg r b v cap len n (ma + 1) g t K1 K2 K3 _ 1 (by decide) hR hS ht hlen hlt hbr hvr hrs (by decide)) mi_X4_readNumber vi_X4_81 rfl hR.1 rfl rfl (Nat.le_of_ble_eq_true rfl) ⟨Nat.le_of_ble_eq_true rfl, Nat.le_of_ble_eq_true rfl⟩ (Nat.le_of_ble_eq_true rfl) (Nat.le_of_ble_eq_true rfl) dX4_readNumberAndDigit_29) (fun q hq => Or.inl (blk_sub (by omega) (by omega) q hq)) (rfl : _ = 32) (fun v_29 H29_38 hq_29 o_29 => ?_)
      have hS := hS.off o_29 (by unfold blk; omega) (by unfold blk; omega)
      have hg := hg.keep o_29 (fun q z => Nat.le_trans hrs z.1)
      have rl := q_num_le (t := t) (len := len) (most := 1) (w := 0) (a := (ma + 1)) hlt
      obtain ⟨⟨rw, ra, rx⟩, hr⟩ : ∃ z, q_num t len 1 0 (ma + 1) = z := ⟨_, rfl⟩
      obtain ⟨e29, y29, hR, ey29⟩ := hq_29
      rw [hr] at e29 hR ey29 rl
      dsimp only at e29 hR ey29 rl
      refine V_if_eq Y.1 (tgt := 52) dX4_readNumberAndDigit_32 (by decide) (rfl : _ = 35) (fun c_32 => ?_) (fun c_32 => ?_)
      · have z32 : ¬ rw = 0 := fun q => by rw [e29, if_pos q] at c_32; exact absurd c_32 (by decide)
        refine V_iconst Y.1 (v := 0) dX4_readNumberAndDigit_52 (rfl : _ = 53) (by decide) ?_
        exact V_ret Y.1 dX4_readNumberAndDigit_53 rfl (Nat.le_of_ble_eq_true rfl) (Nat.le_of_ble_eq_true rfl) ⟨by rw [hm]; dsimp only; rw [hs]; dsimp only; rw [hr]; exact (if_neg z32).symm, by rw [hm]; dsimp only; rw [hs]; dsimp only; rw [hr]; exact Rk.bad z32 hR⟩
      · have z32 : rw = 0 := Decidable.byContradiction fun q => c_32 (by rw [e29, if_neg q])
        subst z32
        obtain rfl := ey29 rfl
        refine V_aload_n Y.1 1 dX4_readNumberAndDigit_35 (rfl : _ = 36) rfl rfl ?_
        refine V_iconst Y.1 (v := 5) dX4_readNumberAndDigit_36 (rfl : _ = 37) (by decide) ?_
        refine V_iload_n Y.1 0 dX4_readNumberAndDigit_37 (rfl : _ = 38) rfl rfl ?_
        refine V_aload_n Y.1 1 dX4_readNumberAndDigit_38 (rfl : _ = 39) rfl rfl ?_
        refine V_get Y.1 fi_X4_84 hR.1 rfl dX4_readNumberAndDigit_39 (rfl : _ = 42) ?_
        refine V_cI Y (sV Z (c_X4_keep l D kA Hs σ _ hg r b v cap len n ra g t K1 K2 K3 _ (5) (y3) (y29) hn hR hS ht hlen rl.2.2 hbr hvr hrs) mi_X4_keep vi_X4_77 rfl hR.1 rfl rfl (Nat.le_of_ble_eq_true rfl) ⟨Nat.le_of_ble_eq_true rfl, Nat.le_of_ble_eq_true rfl⟩ (Nat.le_of_ble_eq_true rfl) (Nat.le_of_ble_eq_true rfl) dX4_readNumberAndDigit_42) (fun q hq => Or.inl (blk_sub (by omega) (by omega) q hq)) (rfl : _ = 45) (fun v_42 H42_58 hq_42 o_42 => ?_)
        obtain ⟨e42, hR⟩ := hq_42
        refine V_if_eq Y.1 (tgt := 52) dX4_readNumberAndDigit_45 (by decide) (rfl : _ = 48) (fun c_n => absurd c_n (by rw [e42]; decide)) (fun _ => ?_)
        refine V_iconst Y.1 (v := 1) dX4_readNumberAndDigit_48 (rfl : _ = 49) (by decide) ?_
        refine V_goto Y.1 (tgt := 53) dX4_readNumberAndDigit_49 (by decide) ?_
        exact V_ret Y.1 dX4_readNumberAndDigit_53 rfl (Nat.le_of_ble_eq_true rfl) (Nat.le_of_ble_eq_true rfl) ⟨by rw [hm]; dsimp only; rw [hs]; dsimp only; rw [hr]; rfl, by rw [hm]; dsimp only; rw [hs]; dsimp only; rw [hr]; exact Rk.good hR⟩
  · have z6 : ¬ mw = 0 := fun q => by rw [e3, if_pos q] at c_6; exact absurd c_6 (by decide)
    refine V_iconst Y.1 (v := 0) dX4_readNumberAndDigit_9 (rfl : _ = 10) (by decide) ?_
    exact V_ret Y.1 dX4_readNumberAndDigit_10 rfl (Nat.le_of_ble_eq_true rfl) (Nat.le_of_ble_eq_true rfl) ⟨by rw [hm]; dsimp only; rw [q_skip_w z6]; dsimp only; rw [q_num_w z6]; rfl, by rw [hm]; dsimp only; rw [q_skip_w z6]; dsimp only; rw [q_num_w z6]; exact Rk.bad Nat.one_ne_zero hR⟩

set_option maxRecDepth 100000 in
set_option maxHeartbeats 4000000 in
theorem c_X4_readCommand (l : Launch) (D : va_G) (kA : Nat → ClassId) (Hs : Heap) (σ : SG) (H0 : Heap) (hg : Ag Hs H0) (r b v cap len n a : Nat) (g t K1 K2 K3 : Nat → Int32) (y : Int32) (n0 : Nat) (cc0 : Nat → Int32) (hR : Rd D kA H0 r K1 K2 K3 n a y) (hS : Sb D kA H0 b v cap len g) (ht : Tx g t len) (hlen : len ≤ 60) (ha : a ≤ len) (hbr : b < r ∨ r + 4 ≤ b) (hvr : v < r ∨ r + 4 ≤ v) (hrs : Hs.size ≤ r) (hn : n < 10) : CtS l D kA Hs σ yX4_readCommand cX4_readCommand 2 (some .boolean) 7 156 0 0 H0 [.ref r, .ref b] (blk r 4) (pI fun v9 H => v9 = (if (q_cmd t len (0, a, n0, cc0)).1 = 0 then 1 else 0) ∧ Rk D kA H r K1 K2 K3 n ((q_cmd t len (0, a, n0, cc0)).1) ((q_cmd t len (0, a, n0, cc0)).2.1) (kcode (r_beh t len a)) ((q_cmd t len (0, a, n0, cc0)).2.2.2 (3 * n0 + 1)) (if r_beh t len a = 99 ∨ r_beh t len a = 119 then 0 else (q_cmd t len (0, a, n0, cc0)).2.2.2 (3 * n0 + 2))) := by
  refine CtS.of mi_X4_readCommand (Nat.le_of_ble_eq_true rfl) (ls0 := [(0, _), (1, _)]) rfl hg (fun q z => Nat.le_trans hrs z.1) ?_
  intro Pp Ee Ss Mm Ar Bl Me Cc Z hs hnm
  have Y := Z.1
  refine V_aload_n Y.1 0 dX4_readCommand_0 (rfl : _ = 1) rfl rfl ?_
  refine V_get Y.1 fi_X4_25 hR.1 rfl dX4_readCommand_1 (rfl : _ = 4) ?_
  refine V_aload_n Y.1 1 dX4_readCommand_4 (rfl : _ = 5) rfl rfl ?_
  refine V_cP Y (sV Z (c_J4_length_8abf5 l D kA Hs σ _ hg b v cap len g hS) mi_J4_length_8abf5 vi_X4_32 rfl hS.1.choose_spec rfl rfl (Nat.le_of_ble_eq_true rfl) ⟨Nat.le_of_ble_eq_true rfl, Nat.le_of_ble_eq_true rfl⟩ (Nat.le_of_ble_eq_true rfl) (Nat.le_of_ble_eq_true rfl) dX4_readCommand_5) (rfl : _ = 8) ?_
  refine V_icmp_lt Y.1 (tgt := 13) dX4_readCommand_8 (by decide) (rfl : _ = 11) (fun c_8 => ?_) (fun c_8 => ?_)
  · have hlt : a < len := Nat.not_le.mp fun q => absurd c_8 (nI_nlt (by omega) (by omega))
    have e9 : r_beh t len a = t a := if_pos hlt
    obtain ⟨q9, hq9, hgq9, htq9⟩ := ht a hlt
    rw [htq9] at e9
    refine V_aload_n Y.1 1 dX4_readCommand_13 (rfl : _ = 14) rfl rfl ?_
    refine V_aload_n Y.1 0 dX4_readCommand_14 (rfl : _ = 15) rfl rfl ?_
    refine V_get Y.1 fi_X4_25 hR.1 rfl dX4_readCommand_15 (rfl : _ = 18) ?_
    refine V_cP Y (sV Z (c_J4_charAt_5068e l D kA Hs σ _ hg b v cap len g a q9 hlt hq9 hgq9 hS) mi_J4_charAt_5068e vi_X4_42 rfl hS.1.choose_spec rfl rfl (Nat.le_of_ble_eq_true rfl) ⟨Nat.le_of_ble_eq_true rfl, Nat.le_of_ble_eq_true rfl⟩ (Nat.le_of_ble_eq_true rfl) (Nat.le_of_ble_eq_true rfl) dX4_readCommand_18) (rfl : _ = 21) ?_
    by_cases k99 : q9 = 99
    · subst k99
      refine V_tableIn Y.1 (tgt := 132) dX4_readCommand_21 (by decide) (by decide) rfl (by decide) ?_
      refine V_aload_n Y.1 0 dX4_readCommand_132 (rfl : _ = 133) rfl rfl ?_
      refine V_aload_n Y.1 1 dX4_readCommand_133 (rfl : _ = 134) rfl rfl ?_
      refine V_ldcS Y (Z.2.1 ("MetroFares$ScriptReader", 46, "card ") (show ("MetroFares$ScriptReader", 46, "card ") ∈ wL by decide +kernel)) dX4_readCommand_134 (rfl : _ = 136) ?_
      refine V_cI Y (sV Z (c_X4_readWord l D kA Hs σ _ hg r b v cap len n a g t K1 K2 K3 y ("MetroFares$ScriptReader", 46, "card ") (show ("MetroFares$ScriptReader", 46, "card ") ∈ wL by decide +kernel) hR hS ht hlen ha hbr hvr hrs) mi_X4_readWord vi_X4_48 rfl hR.1 rfl rfl (Nat.le_of_ble_eq_true rfl) ⟨Nat.le_of_ble_eq_true rfl, Nat.le_of_ble_eq_true rfl⟩ (Nat.le_of_ble_eq_true rfl) (Nat.le_of_ble_eq_true rfl) dX4_readCommand_136) (fun q hq => Or.inl (blk_sub (by omega) (by omega) q hq)) (rfl : _ = 139) (fun v_136 H136_3 hq_136 o_136 => ?_)
      have hS := hS.off o_136 (by unfold blk; omega) (by unfold blk; omega)
      have hg := hg.keep o_136 (fun q z => Nat.le_trans hrs z.1)
      have yl := q_skip_le (t := t) (len := len) (byt "card ") (0, a) (by decide +kernel) (show 0 < 2 by decide) ha
      obtain ⟨e136, hR⟩ := hq_136
      obtain ⟨⟨yw, ya⟩, hy⟩ : ∃ z, q_skip t len (byt "card ") (0, a) = z := ⟨_, rfl⟩
      rw [hy] at yl
      replace e136 : v_136 = if (q_skip t len (byt "card ") (0, a)).1 = 0 then 1 else 0 := e136
      replace hR : Rd D kA _ r K1 K2 K3 n (q_skip t len (byt "card ") (0, a)).2 y := hR
      rw [hy] at e136 hR
      dsimp only at e136 hR yl
      refine V_if_eq Y.1 (tgt := 154) dX4_readCommand_139 (by decide) (rfl : _ = 142) (fun c_139 => ?_) (fun c_139 => ?_)
      · have z139 : ¬ yw = 0 := fun q => by rw [e136, if_pos q] at c_139; exact absurd c_139 (by decide)
        have qc := qc_w99 (n := n0) (c := cc0) e9 hy z139
        refine V_iconst Y.1 (v := 0) dX4_readCommand_154 (rfl : _ = 155) (by decide) ?_
        exact V_ret Y.1 dX4_readCommand_155 rfl (Nat.le_of_ble_eq_true rfl) (Nat.le_of_ble_eq_true rfl) ⟨by rw [qc.1]; rfl, by rw [qc.1, qc.2]; exact Rk.bad (by decide) hR⟩
      · have z139 : yw = 0 := Decidable.byContradiction fun q => c_139 (by rw [e136, if_neg q])
        subst z139
        have qc := qc_g99 (n := n0) (c := cc0) e9 hy
        refine V_aload_n Y.1 0 dX4_readCommand_142 (rfl : _ = 143) rfl rfl ?_
        refine V_aload_n Y.1 1 dX4_readCommand_143 (rfl : _ = 144) rfl rfl ?_
        refine V_cI Y (sV Z (c_X4_readCardKind l D kA Hs σ _ hg r b v cap len n ya g t K1 K2 K3 y hn hR hS ht hlen yl.2.2 hbr hvr hrs) mi_X4_readCardKind vi_X4_52 rfl hR.1 rfl rfl (Nat.le_of_ble_eq_true rfl) ⟨Nat.le_of_ble_eq_true rfl, Nat.le_of_ble_eq_true rfl⟩ (Nat.le_of_ble_eq_true rfl) (Nat.le_of_ble_eq_true rfl) dX4_readCommand_144) (fun q hq => Or.inl (blk_sub (by omega) (by omega) q hq)) (rfl : _ = 147) (fun v_144 H144_24 hq_144 o_144 => ?_)
        obtain ⟨e144, hR⟩ := hq_144
        refine V_if_eq Y.1 (tgt := 154) dX4_readCommand_147 (by decide) (rfl : _ = 150) (fun c_147 => ?_) (fun c_147 => ?_)
        · have e8 := Rk.e0 e144 c_147
          refine V_iconst Y.1 (v := 0) dX4_readCommand_154 (rfl : _ = 155) (by decide) ?_
          exact V_ret Y.1 dX4_readCommand_155 rfl (Nat.le_of_ble_eq_true rfl) (Nat.le_of_ble_eq_true rfl) ⟨by rw [qc.1, if_neg e8], by rw [qc.1, qc.2.1, qc.2.2.1, qc.2.2.2.1, qc.2.2.2.2]; exact hR⟩
        · have e8 := Rk.e1 e144 c_147
          refine V_iconst Y.1 (v := 1) dX4_readCommand_150 (rfl : _ = 151) (by decide) ?_
          refine V_goto Y.1 (tgt := 155) dX4_readCommand_151 (by decide) ?_
          exact V_ret Y.1 dX4_readCommand_155 rfl (Nat.le_of_ble_eq_true rfl) (Nat.le_of_ble_eq_true rfl) ⟨by rw [qc.1, if_pos e8], by rw [qc.1, qc.2.1, qc.2.2.1, qc.2.2.2.1, qc.2.2.2.2]; exact hR⟩
    by_cases k102 : q9 = 102
    · subst k102
      refine V_tableIn Y.1 (tgt := 231) dX4_readCommand_21 (by decide) (by decide) rfl (by decide) ?_
      refine V_aload_n Y.1 0 dX4_readCommand_231 (rfl : _ = 232) rfl rfl ?_
      refine V_aload_n Y.1 1 dX4_readCommand_232 (rfl : _ = 233) rfl rfl ?_
      refine V_ldcS Y (Z.2.1 ("MetroFares$ScriptReader", 65, "fix ") (show ("MetroFares$ScriptReader", 65, "fix ") ∈ wL by decide +kernel)) dX4_readCommand_233 (rfl : _ = 235) ?_
      refine V_cI Y (sV Z (c_X4_readWord l D kA Hs σ _ hg r b v cap len n a g t K1 K2 K3 y ("MetroFares$ScriptReader", 65, "fix ") (show ("MetroFares$ScriptReader", 65, "fix ") ∈ wL by decide +kernel) hR hS ht hlen ha hbr hvr hrs) mi_X4_readWord vi_X4_48 rfl hR.1 rfl rfl (Nat.le_of_ble_eq_true rfl) ⟨Nat.le_of_ble_eq_true rfl, Nat.le_of_ble_eq_true rfl⟩ (Nat.le_of_ble_eq_true rfl) (Nat.le_of_ble_eq_true rfl) dX4_readCommand_235) (fun q hq => Or.inl (blk_sub (by omega) (by omega) q hq)) (rfl : _ = 238) (fun v_235 H235_3 hq_235 o_235 => ?_)
      have hS := hS.off o_235 (by unfold blk; omega) (by unfold blk; omega)
      have hg := hg.keep o_235 (fun q z => Nat.le_trans hrs z.1)
      have yl := q_skip_le (t := t) (len := len) (byt "fix ") (0, a) (by decide +kernel) (show 0 < 2 by decide) ha
      obtain ⟨e235, hR⟩ := hq_235
      obtain ⟨⟨yw, ya⟩, hy⟩ : ∃ z, q_skip t len (byt "fix ") (0, a) = z := ⟨_, rfl⟩
      rw [hy] at yl
      replace e235 : v_235 = if (q_skip t len (byt "fix ") (0, a)).1 = 0 then 1 else 0 := e235
      replace hR : Rd D kA _ r K1 K2 K3 n (q_skip t len (byt "fix ") (0, a)).2 y := hR
      rw [hy] at e235 hR
      dsimp only at e235 hR yl
      refine V_if_eq Y.1 (tgt := 254) dX4_readCommand_238 (by decide) (rfl : _ = 241) (fun c_238 => ?_) (fun c_238 => ?_)
      · have z238 : ¬ yw = 0 := fun q => by rw [e235, if_pos q] at c_238; exact absurd c_238 (by decide)
        have qc := qc_w102 (n := n0) (c := cc0) e9 hy z238
        refine V_iconst Y.1 (v := 0) dX4_readCommand_254 (rfl : _ = 255) (by decide) ?_
        exact V_ret Y.1 dX4_readCommand_255 rfl (Nat.le_of_ble_eq_true rfl) (Nat.le_of_ble_eq_true rfl) ⟨by rw [qc.1]; rfl, by rw [qc.1, qc.2]; exact Rk.bad (by decide) hR⟩
      · have z238 : yw = 0 := Decidable.byContradiction fun q => c_238 (by rw [e235, if_neg q])
        subst z238
        have qc := qc_g102 (n := n0) (c := cc0) e9 hy
        refine V_aload_n Y.1 0 dX4_readCommand_241 (rfl : _ = 242) rfl rfl ?_
        refine V_aload_n Y.1 1 dX4_readCommand_242 (rfl : _ = 243) rfl rfl ?_
        refine V_iconst Y.1 (v := 4) dX4_readCommand_243 (rfl : _ = 244) (by decide) ?_
        refine V_cI Y (sV Z (c_X4_readDigitAndNumber l D kA Hs σ _ hg r b v cap len n ya g t K1 K2 K3 y 4 hn hR hS ht hlen yl.2.2 hbr hvr hrs) mi_X4_readDigitAndNumber vi_X4_57 rfl hR.1 rfl rfl (Nat.le_of_ble_eq_true rfl) ⟨Nat.le_of_ble_eq_true rfl, Nat.le_of_ble_eq_true rfl⟩ (Nat.le_of_ble_eq_true rfl) (Nat.le_of_ble_eq_true rfl) dX4_readCommand_244) (fun q hq => Or.inl (blk_sub (by omega) (by omega) q hq)) (rfl : _ = 247) (fun v_244 H244_25 hq_244 o_244 => ?_)
        obtain ⟨e244, hR⟩ := hq_244
        refine V_if_eq Y.1 (tgt := 254) dX4_readCommand_247 (by decide) (rfl : _ = 250) (fun c_247 => ?_) (fun c_247 => ?_)
        · have e8 := Rk.e0 e244 c_247
          refine V_iconst Y.1 (v := 0) dX4_readCommand_254 (rfl : _ = 255) (by decide) ?_
          exact V_ret Y.1 dX4_readCommand_255 rfl (Nat.le_of_ble_eq_true rfl) (Nat.le_of_ble_eq_true rfl) ⟨by rw [qc.1, if_neg e8], by rw [qc.1, qc.2.1, qc.2.2.1, qc.2.2.2.1, qc.2.2.2.2]; exact hR⟩
        · have e8 := Rk.e1 e244 c_247
          refine V_iconst Y.1 (v := 1) dX4_readCommand_250 (rfl : _ = 251) (by decide) ?_
          refine V_goto Y.1 (tgt := 255) dX4_readCommand_251 (by decide) ?_
          exact V_ret Y.1 dX4_readCommand_255 rfl (Nat.le_of_ble_eq_true rfl) (Nat.le_of_ble_eq_true rfl) ⟨by rw [qc.1, if_pos e8], by rw [qc.1, qc.2.1, qc.2.2.1, qc.2.2.2.1, qc.2.2.2.2]; exact hR⟩
    by_cases k105 : q9 = 105
    · subst k105
      refine V_tableIn Y.1 (tgt := 181) dX4_readCommand_21 (by decide) (by decide) rfl (by decide) ?_
      refine V_aload_n Y.1 0 dX4_readCommand_181 (rfl : _ = 182) rfl rfl ?_
      refine V_aload_n Y.1 1 dX4_readCommand_182 (rfl : _ = 183) rfl rfl ?_
      refine V_ldcS Y (Z.2.1 ("MetroFares$ScriptReader", 61, "in ") (show ("MetroFares$ScriptReader", 61, "in ") ∈ wL by decide +kernel)) dX4_readCommand_183 (rfl : _ = 185) ?_
      refine V_cI Y (sV Z (c_X4_readWord l D kA Hs σ _ hg r b v cap len n a g t K1 K2 K3 y ("MetroFares$ScriptReader", 61, "in ") (show ("MetroFares$ScriptReader", 61, "in ") ∈ wL by decide +kernel) hR hS ht hlen ha hbr hvr hrs) mi_X4_readWord vi_X4_48 rfl hR.1 rfl rfl (Nat.le_of_ble_eq_true rfl) ⟨Nat.le_of_ble_eq_true rfl, Nat.le_of_ble_eq_true rfl⟩ (Nat.le_of_ble_eq_true rfl) (Nat.le_of_ble_eq_true rfl) dX4_readCommand_185) (fun q hq => Or.inl (blk_sub (by omega) (by omega) q hq)) (rfl : _ = 188) (fun v_185 H185_3 hq_185 o_185 => ?_)
      have hS := hS.off o_185 (by unfold blk; omega) (by unfold blk; omega)
      have hg := hg.keep o_185 (fun q z => Nat.le_trans hrs z.1)
      have yl := q_skip_le (t := t) (len := len) (byt "in ") (0, a) (by decide +kernel) (show 0 < 2 by decide) ha
      obtain ⟨e185, hR⟩ := hq_185
      obtain ⟨⟨yw, ya⟩, hy⟩ : ∃ z, q_skip t len (byt "in ") (0, a) = z := ⟨_, rfl⟩
      rw [hy] at yl
      replace e185 : v_185 = if (q_skip t len (byt "in ") (0, a)).1 = 0 then 1 else 0 := e185
      replace hR : Rd D kA _ r K1 K2 K3 n (q_skip t len (byt "in ") (0, a)).2 y := hR
      rw [hy] at e185 hR
      dsimp only at e185 hR yl
      refine V_if_eq Y.1 (tgt := 204) dX4_readCommand_188 (by decide) (rfl : _ = 191) (fun c_188 => ?_) (fun c_188 => ?_)
      · have z188 : ¬ yw = 0 := fun q => by rw [e185, if_pos q] at c_188; exact absurd c_188 (by decide)
        have qc := qc_w105 (n := n0) (c := cc0) e9 hy z188
        refine V_iconst Y.1 (v := 0) dX4_readCommand_204 (rfl : _ = 205) (by decide) ?_
        exact V_ret Y.1 dX4_readCommand_205 rfl (Nat.le_of_ble_eq_true rfl) (Nat.le_of_ble_eq_true rfl) ⟨by rw [qc.1]; rfl, by rw [qc.1, qc.2]; exact Rk.bad (by decide) hR⟩
      · have z188 : yw = 0 := Decidable.byContradiction fun q => c_188 (by rw [e185, if_neg q])
        subst z188
        have qc := qc_g105 (n := n0) (c := cc0) e9 hy
        refine V_aload_n Y.1 0 dX4_readCommand_191 (rfl : _ = 192) rfl rfl ?_
        refine V_aload_n Y.1 1 dX4_readCommand_192 (rfl : _ = 193) rfl rfl ?_
        refine V_iconst Y.1 (v := 2) dX4_readCommand_193 (rfl : _ = 194) (by decide) ?_
        refine V_cI Y (sV Z (c_X4_readDigitAndNumber l D kA Hs σ _ hg r b v cap len n ya g t K1 K2 K3 y 2 hn hR hS ht hlen yl.2.2 hbr hvr hrs) mi_X4_readDigitAndNumber vi_X4_57 rfl hR.1 rfl rfl (Nat.le_of_ble_eq_true rfl) ⟨Nat.le_of_ble_eq_true rfl, Nat.le_of_ble_eq_true rfl⟩ (Nat.le_of_ble_eq_true rfl) (Nat.le_of_ble_eq_true rfl) dX4_readCommand_194) (fun q hq => Or.inl (blk_sub (by omega) (by omega) q hq)) (rfl : _ = 197) (fun v_194 H194_25 hq_194 o_194 => ?_)
        obtain ⟨e194, hR⟩ := hq_194
        refine V_if_eq Y.1 (tgt := 204) dX4_readCommand_197 (by decide) (rfl : _ = 200) (fun c_197 => ?_) (fun c_197 => ?_)
        · have e8 := Rk.e0 e194 c_197
          refine V_iconst Y.1 (v := 0) dX4_readCommand_204 (rfl : _ = 205) (by decide) ?_
          exact V_ret Y.1 dX4_readCommand_205 rfl (Nat.le_of_ble_eq_true rfl) (Nat.le_of_ble_eq_true rfl) ⟨by rw [qc.1, if_neg e8], by rw [qc.1, qc.2.1, qc.2.2.1, qc.2.2.2.1, qc.2.2.2.2]; exact hR⟩
        · have e8 := Rk.e1 e194 c_197
          refine V_iconst Y.1 (v := 1) dX4_readCommand_200 (rfl : _ = 201) (by decide) ?_
          refine V_goto Y.1 (tgt := 205) dX4_readCommand_201 (by decide) ?_
          exact V_ret Y.1 dX4_readCommand_205 rfl (Nat.le_of_ble_eq_true rfl) (Nat.le_of_ble_eq_true rfl) ⟨by rw [qc.1, if_pos e8], by rw [qc.1, qc.2.1, qc.2.2.1, qc.2.2.2.1, qc.2.2.2.2]; exact hR⟩
    by_cases k108 : q9 = 108
    · subst k108
      refine V_tableIn Y.1 (tgt := 156) dX4_readCommand_21 (by decide) (by decide) rfl (by decide) ?_
      refine V_aload_n Y.1 0 dX4_readCommand_156 (rfl : _ = 157) rfl rfl ?_
      refine V_aload_n Y.1 1 dX4_readCommand_157 (rfl : _ = 158) rfl rfl ?_
      refine V_ldcS Y (Z.2.1 ("MetroFares$ScriptReader", 55, "load ") (show ("MetroFares$ScriptReader", 55, "load ") ∈ wL by decide +kernel)) dX4_readCommand_158 (rfl : _ = 160) ?_
      refine V_cI Y (sV Z (c_X4_readWord l D kA Hs σ _ hg r b v cap len n a g t K1 K2 K3 y ("MetroFares$ScriptReader", 55, "load ") (show ("MetroFares$ScriptReader", 55, "load ") ∈ wL by decide +kernel) hR hS ht hlen ha hbr hvr hrs) mi_X4_readWord vi_X4_48 rfl hR.1 rfl rfl (Nat.le_of_ble_eq_true rfl) ⟨Nat.le_of_ble_eq_true rfl, Nat.le_of_ble_eq_true rfl⟩ (Nat.le_of_ble_eq_true rfl) (Nat.le_of_ble_eq_true rfl) dX4_readCommand_160) (fun q hq => Or.inl (blk_sub (by omega) (by omega) q hq)) (rfl : _ = 163) (fun v_160 H160_3 hq_160 o_160 => ?_)
      have hS := hS.off o_160 (by unfold blk; omega) (by unfold blk; omega)
      have hg := hg.keep o_160 (fun q z => Nat.le_trans hrs z.1)
      have yl := q_skip_le (t := t) (len := len) (byt "load ") (0, a) (by decide +kernel) (show 0 < 2 by decide) ha
      obtain ⟨e160, hR⟩ := hq_160
      obtain ⟨⟨yw, ya⟩, hy⟩ : ∃ z, q_skip t len (byt "load ") (0, a) = z := ⟨_, rfl⟩
      rw [hy] at yl
      replace e160 : v_160 = if (q_skip t len (byt "load ") (0, a)).1 = 0 then 1 else 0 := e160
      replace hR : Rd D kA _ r K1 K2 K3 n (q_skip t len (byt "load ") (0, a)).2 y := hR
      rw [hy] at e160 hR
      dsimp only at e160 hR yl
      refine V_if_eq Y.1 (tgt := 179) dX4_readCommand_163 (by decide) (rfl : _ = 166) (fun c_163 => ?_) (fun c_163 => ?_)
      · have z163 : ¬ yw = 0 := fun q => by rw [e160, if_pos q] at c_163; exact absurd c_163 (by decide)
        have qc := qc_w108 (n := n0) (c := cc0) e9 hy z163
        refine V_iconst Y.1 (v := 0) dX4_readCommand_179 (rfl : _ = 180) (by decide) ?_
        exact V_ret Y.1 dX4_readCommand_180 rfl (Nat.le_of_ble_eq_true rfl) (Nat.le_of_ble_eq_true rfl) ⟨by rw [qc.1]; rfl, by rw [qc.1, qc.2]; exact Rk.bad (by decide) hR⟩
      · have z163 : yw = 0 := Decidable.byContradiction fun q => c_163 (by rw [e160, if_neg q])
        subst z163
        have qc := qc_g108 (n := n0) (c := cc0) e9 hy
        refine V_aload_n Y.1 0 dX4_readCommand_166 (rfl : _ = 167) rfl rfl ?_
        refine V_aload_n Y.1 1 dX4_readCommand_167 (rfl : _ = 168) rfl rfl ?_
        refine V_iconst Y.1 (v := 1) dX4_readCommand_168 (rfl : _ = 169) (by decide) ?_
        refine V_cI Y (sV Z (c_X4_readDigitAndNumber l D kA Hs σ _ hg r b v cap len n ya g t K1 K2 K3 y 1 hn hR hS ht hlen yl.2.2 hbr hvr hrs) mi_X4_readDigitAndNumber vi_X4_57 rfl hR.1 rfl rfl (Nat.le_of_ble_eq_true rfl) ⟨Nat.le_of_ble_eq_true rfl, Nat.le_of_ble_eq_true rfl⟩ (Nat.le_of_ble_eq_true rfl) (Nat.le_of_ble_eq_true rfl) dX4_readCommand_169) (fun q hq => Or.inl (blk_sub (by omega) (by omega) q hq)) (rfl : _ = 172) (fun v_169 H169_25 hq_169 o_169 => ?_)
        obtain ⟨e169, hR⟩ := hq_169
        refine V_if_eq Y.1 (tgt := 179) dX4_readCommand_172 (by decide) (rfl : _ = 175) (fun c_172 => ?_) (fun c_172 => ?_)
        · have e8 := Rk.e0 e169 c_172
          refine V_iconst Y.1 (v := 0) dX4_readCommand_179 (rfl : _ = 180) (by decide) ?_
          exact V_ret Y.1 dX4_readCommand_180 rfl (Nat.le_of_ble_eq_true rfl) (Nat.le_of_ble_eq_true rfl) ⟨by rw [qc.1, if_neg e8], by rw [qc.1, qc.2.1, qc.2.2.1, qc.2.2.2.1, qc.2.2.2.2]; exact hR⟩
        · have e8 := Rk.e1 e169 c_172
          refine V_iconst Y.1 (v := 1) dX4_readCommand_175 (rfl : _ = 176) (by decide) ?_
          refine V_goto Y.1 (tgt := 180) dX4_readCommand_176 (by decide) ?_
          exact V_ret Y.1 dX4_readCommand_180 rfl (Nat.le_of_ble_eq_true rfl) (Nat.le_of_ble_eq_true rfl) ⟨by rw [qc.1, if_pos e8], by rw [qc.1, qc.2.1, qc.2.2.1, qc.2.2.2.1, qc.2.2.2.2]; exact hR⟩
    by_cases k111 : q9 = 111
    · subst k111
      refine V_tableIn Y.1 (tgt := 206) dX4_readCommand_21 (by decide) (by decide) rfl (by decide) ?_
      refine V_aload_n Y.1 0 dX4_readCommand_206 (rfl : _ = 207) rfl rfl ?_
      refine V_aload_n Y.1 1 dX4_readCommand_207 (rfl : _ = 208) rfl rfl ?_
      refine V_ldcS Y (Z.2.1 ("MetroFares$ScriptReader", 63, "out ") (show ("MetroFares$ScriptReader", 63, "out ") ∈ wL by decide +kernel)) dX4_readCommand_208 (rfl : _ = 210) ?_
      refine V_cI Y (sV Z (c_X4_readWord l D kA Hs σ _ hg r b v cap len n a g t K1 K2 K3 y ("MetroFares$ScriptReader", 63, "out ") (show ("MetroFares$ScriptReader", 63, "out ") ∈ wL by decide +kernel) hR hS ht hlen ha hbr hvr hrs) mi_X4_readWord vi_X4_48 rfl hR.1 rfl rfl (Nat.le_of_ble_eq_true rfl) ⟨Nat.le_of_ble_eq_true rfl, Nat.le_of_ble_eq_true rfl⟩ (Nat.le_of_ble_eq_true rfl) (Nat.le_of_ble_eq_true rfl) dX4_readCommand_210) (fun q hq => Or.inl (blk_sub (by omega) (by omega) q hq)) (rfl : _ = 213) (fun v_210 H210_3 hq_210 o_210 => ?_)
      have hS := hS.off o_210 (by unfold blk; omega) (by unfold blk; omega)
      have hg := hg.keep o_210 (fun q z => Nat.le_trans hrs z.1)
      have yl := q_skip_le (t := t) (len := len) (byt "out ") (0, a) (by decide +kernel) (show 0 < 2 by decide) ha
      obtain ⟨e210, hR⟩ := hq_210
      obtain ⟨⟨yw, ya⟩, hy⟩ : ∃ z, q_skip t len (byt "out ") (0, a) = z := ⟨_, rfl⟩
      rw [hy] at yl
      replace e210 : v_210 = if (q_skip t len (byt "out ") (0, a)).1 = 0 then 1 else 0 := e210
      replace hR : Rd D kA _ r K1 K2 K3 n (q_skip t len (byt "out ") (0, a)).2 y := hR
      rw [hy] at e210 hR
      dsimp only at e210 hR yl
      refine V_if_eq Y.1 (tgt := 229) dX4_readCommand_213 (by decide) (rfl : _ = 216) (fun c_213 => ?_) (fun c_213 => ?_)
      · have z213 : ¬ yw = 0 := fun q => by rw [e210, if_pos q] at c_213; exact absurd c_213 (by decide)
        have qc := qc_w111 (n := n0) (c := cc0) e9 hy z213
        refine V_iconst Y.1 (v := 0) dX4_readCommand_229 (rfl : _ = 230) (by decide) ?_
        exact V_ret Y.1 dX4_readCommand_230 rfl (Nat.le_of_ble_eq_true rfl) (Nat.le_of_ble_eq_true rfl) ⟨by rw [qc.1]; rfl, by rw [qc.1, qc.2]; exact Rk.bad (by decide) hR⟩
      · have z213 : yw = 0 := Decidable.byContradiction fun q => c_213 (by rw [e210, if_neg q])
        subst z213
        have qc := qc_g111 (n := n0) (c := cc0) e9 hy
        refine V_aload_n Y.1 0 dX4_readCommand_216 (rfl : _ = 217) rfl rfl ?_
        refine V_aload_n Y.1 1 dX4_readCommand_217 (rfl : _ = 218) rfl rfl ?_
        refine V_iconst Y.1 (v := 3) dX4_readCommand_218 (rfl : _ = 219) (by decide) ?_
        refine V_cI Y (sV Z (c_X4_readDigitAndNumber l D kA Hs σ _ hg r b v cap len n ya g t K1 K2 K3 y 3 hn hR hS ht hlen yl.2.2 hbr hvr hrs) mi_X4_readDigitAndNumber vi_X4_57 rfl hR.1 rfl rfl (Nat.le_of_ble_eq_true rfl) ⟨Nat.le_of_ble_eq_true rfl, Nat.le_of_ble_eq_true rfl⟩ (Nat.le_of_ble_eq_true rfl) (Nat.le_of_ble_eq_true rfl) dX4_readCommand_219) (fun q hq => Or.inl (blk_sub (by omega) (by omega) q hq)) (rfl : _ = 222) (fun v_219 H219_25 hq_219 o_219 => ?_)
        obtain ⟨e219, hR⟩ := hq_219
        refine V_if_eq Y.1 (tgt := 229) dX4_readCommand_222 (by decide) (rfl : _ = 225) (fun c_222 => ?_) (fun c_222 => ?_)
        · have e8 := Rk.e0 e219 c_222
          refine V_iconst Y.1 (v := 0) dX4_readCommand_229 (rfl : _ = 230) (by decide) ?_
          exact V_ret Y.1 dX4_readCommand_230 rfl (Nat.le_of_ble_eq_true rfl) (Nat.le_of_ble_eq_true rfl) ⟨by rw [qc.1, if_neg e8], by rw [qc.1, qc.2.1, qc.2.2.1, qc.2.2.2.1, qc.2.2.2.2]; exact hR⟩
        · have e8 := Rk.e1 e219 c_222
          refine V_iconst Y.1 (v := 1) dX4_readCommand_225 (rfl : _ = 226) (by decide) ?_
          refine V_goto Y.1 (tgt := 230) dX4_readCommand_226 (by decide) ?_
          exact V_ret Y.1 dX4_readCommand_230 rfl (Nat.le_of_ble_eq_true rfl) (Nat.le_of_ble_eq_true rfl) ⟨by rw [qc.1, if_pos e8], by rw [qc.1, qc.2.1, qc.2.2.1, qc.2.2.2.1, qc.2.2.2.2]; exact hR⟩
    by_cases k119 : q9 = 119
    · subst k119
      refine V_tableIn Y.1 (tgt := 280) dX4_readCommand_21 (by decide) (by decide) rfl (by decide) ?_
      refine V_aload_n Y.1 0 dX4_readCommand_280 (rfl : _ = 281) rfl rfl ?_
      refine V_aload_n Y.1 1 dX4_readCommand_281 (rfl : _ = 282) rfl rfl ?_
      refine V_ldcS Y (Z.2.1 ("MetroFares$ScriptReader", 72, "wait ") (show ("MetroFares$ScriptReader", 72, "wait ") ∈ wL by decide +kernel)) dX4_readCommand_282 (rfl : _ = 284) ?_
      refine V_cI Y (sV Z (c_X4_readWord l D kA Hs σ _ hg r b v cap len n a g t K1 K2 K3 y ("MetroFares$ScriptReader", 72, "wait ") (show ("MetroFares$ScriptReader", 72, "wait ") ∈ wL by decide +kernel) hR hS ht hlen ha hbr hvr hrs) mi_X4_readWord vi_X4_48 rfl hR.1 rfl rfl (Nat.le_of_ble_eq_true rfl) ⟨Nat.le_of_ble_eq_true rfl, Nat.le_of_ble_eq_true rfl⟩ (Nat.le_of_ble_eq_true rfl) (Nat.le_of_ble_eq_true rfl) dX4_readCommand_284) (fun q hq => Or.inl (blk_sub (by omega) (by omega) q hq)) (rfl : _ = 287) (fun v_284 H284_3 hq_284 o_284 => ?_)
      have hS := hS.off o_284 (by unfold blk; omega) (by unfold blk; omega)
      have hg := hg.keep o_284 (fun q z => Nat.le_trans hrs z.1)
      have yl := q_skip_le (t := t) (len := len) (byt "wait ") (0, a) (by decide +kernel) (show 0 < 2 by decide) ha
      obtain ⟨e284, hR⟩ := hq_284
      obtain ⟨⟨yw, ya⟩, hy⟩ : ∃ z, q_skip t len (byt "wait ") (0, a) = z := ⟨_, rfl⟩
      rw [hy] at yl
      replace e284 : v_284 = if (q_skip t len (byt "wait ") (0, a)).1 = 0 then 1 else 0 := e284
      replace hR : Rd D kA _ r K1 K2 K3 n (q_skip t len (byt "wait ") (0, a)).2 y := hR
      rw [hy] at e284 hR
      dsimp only at e284 hR yl
      refine V_if_eq Y.1 (tgt := 302) dX4_readCommand_287 (by decide) (rfl : _ = 290) (fun c_287 => ?_) (fun c_287 => ?_)
      · have z287 : ¬ yw = 0 := fun q => by rw [e284, if_pos q] at c_287; exact absurd c_287 (by decide)
        have qc := qc_w119 (n := n0) (c := cc0) e9 hy z287
        refine V_iconst Y.1 (v := 0) dX4_readCommand_302 (rfl : _ = 303) (by decide) ?_
        exact V_ret Y.1 dX4_readCommand_303 rfl (Nat.le_of_ble_eq_true rfl) (Nat.le_of_ble_eq_true rfl) ⟨by rw [qc.1]; rfl, by rw [qc.1, qc.2]; exact Rk.bad (by decide) hR⟩
      · have z287 : yw = 0 := Decidable.byContradiction fun q => c_287 (by rw [e284, if_neg q])
        subst z287
        have qc := qc_g119 (n := n0) (c := cc0) e9 hy
        refine V_aload_n Y.1 0 dX4_readCommand_290 (rfl : _ = 291) rfl rfl ?_
        refine V_aload_n Y.1 1 dX4_readCommand_291 (rfl : _ = 292) rfl rfl ?_
        refine V_cI Y (sV Z (c_X4_readMinutes l D kA Hs σ _ hg r b v cap len n ya g t K1 K2 K3 y hn hR hS ht hlen yl.2.2 hbr hvr hrs) mi_X4_readMinutes vi_X4_74 rfl hR.1 rfl rfl (Nat.le_of_ble_eq_true rfl) ⟨Nat.le_of_ble_eq_true rfl, Nat.le_of_ble_eq_true rfl⟩ (Nat.le_of_ble_eq_true rfl) (Nat.le_of_ble_eq_true rfl) dX4_readCommand_292) (fun q hq => Or.inl (blk_sub (by omega) (by omega) q hq)) (rfl : _ = 295) (fun v_292 H292_24 hq_292 o_292 => ?_)
        obtain ⟨e292, hR⟩ := hq_292
        refine V_if_eq Y.1 (tgt := 302) dX4_readCommand_295 (by decide) (rfl : _ = 298) (fun c_295 => ?_) (fun c_295 => ?_)
        · have e8 := Rk.e0 e292 c_295
          refine V_iconst Y.1 (v := 0) dX4_readCommand_302 (rfl : _ = 303) (by decide) ?_
          exact V_ret Y.1 dX4_readCommand_303 rfl (Nat.le_of_ble_eq_true rfl) (Nat.le_of_ble_eq_true rfl) ⟨by rw [qc.1, if_neg e8], by rw [qc.1, qc.2.1, qc.2.2.1, qc.2.2.2.1, qc.2.2.2.2]; exact hR⟩
        · have e8 := Rk.e1 e292 c_295
          refine V_iconst Y.1 (v := 1) dX4_readCommand_298 (rfl : _ = 299) (by decide) ?_
          refine V_goto Y.1 (tgt := 303) dX4_readCommand_299 (by decide) ?_
          exact V_ret Y.1 dX4_readCommand_303 rfl (Nat.le_of_ble_eq_true rfl) (Nat.le_of_ble_eq_true rfl) ⟨by rw [qc.1, if_pos e8], by rw [qc.1, qc.2.1, qc.2.2.1, qc.2.2.2.1, qc.2.2.2.2]; exact hR⟩
    by_cases k122 : q9 = 122
    · subst k122
      refine V_tableIn Y.1 (tgt := 256) dX4_readCommand_21 (by decide) (by decide) rfl (by decide) ?_
      refine V_aload_n Y.1 0 dX4_readCommand_256 (rfl : _ = 257) rfl rfl ?_
      refine V_aload_n Y.1 1 dX4_readCommand_257 (rfl : _ = 258) rfl rfl ?_
      refine V_ldcS Y (Z.2.1 ("MetroFares$ScriptReader", 67, "zone ") (show ("MetroFares$ScriptReader", 67, "zone ") ∈ wL by decide +kernel)) dX4_readCommand_258 (rfl : _ = 260) ?_
      refine V_cI Y (sV Z (c_X4_readWord l D kA Hs σ _ hg r b v cap len n a g t K1 K2 K3 y ("MetroFares$ScriptReader", 67, "zone ") (show ("MetroFares$ScriptReader", 67, "zone ") ∈ wL by decide +kernel) hR hS ht hlen ha hbr hvr hrs) mi_X4_readWord vi_X4_48 rfl hR.1 rfl rfl (Nat.le_of_ble_eq_true rfl) ⟨Nat.le_of_ble_eq_true rfl, Nat.le_of_ble_eq_true rfl⟩ (Nat.le_of_ble_eq_true rfl) (Nat.le_of_ble_eq_true rfl) dX4_readCommand_260) (fun q hq => Or.inl (blk_sub (by omega) (by omega) q hq)) (rfl : _ = 263) (fun v_260 H260_3 hq_260 o_260 => ?_)
      have hS := hS.off o_260 (by unfold blk; omega) (by unfold blk; omega)
      have hg := hg.keep o_260 (fun q z => Nat.le_trans hrs z.1)
      have yl := q_skip_le (t := t) (len := len) (byt "zone ") (0, a) (by decide +kernel) (show 0 < 2 by decide) ha
      obtain ⟨e260, hR⟩ := hq_260
      obtain ⟨⟨yw, ya⟩, hy⟩ : ∃ z, q_skip t len (byt "zone ") (0, a) = z := ⟨_, rfl⟩
      rw [hy] at yl
      replace e260 : v_260 = if (q_skip t len (byt "zone ") (0, a)).1 = 0 then 1 else 0 := e260
      replace hR : Rd D kA _ r K1 K2 K3 n (q_skip t len (byt "zone ") (0, a)).2 y := hR
      rw [hy] at e260 hR
      dsimp only at e260 hR yl
      refine V_if_eq Y.1 (tgt := 278) dX4_readCommand_263 (by decide) (rfl : _ = 266) (fun c_263 => ?_) (fun c_263 => ?_)
      · have z263 : ¬ yw = 0 := fun q => by rw [e260, if_pos q] at c_263; exact absurd c_263 (by decide)
        have qc := qc_w122 (n := n0) (c := cc0) e9 hy z263
        refine V_iconst Y.1 (v := 0) dX4_readCommand_278 (rfl : _ = 279) (by decide) ?_
        exact V_ret Y.1 dX4_readCommand_279 rfl (Nat.le_of_ble_eq_true rfl) (Nat.le_of_ble_eq_true rfl) ⟨by rw [qc.1]; rfl, by rw [qc.1, qc.2]; exact Rk.bad (by decide) hR⟩
      · have z263 : yw = 0 := Decidable.byContradiction fun q => c_263 (by rw [e260, if_neg q])
        subst z263
        have qc := qc_g122 (n := n0) (c := cc0) e9 hy
        refine V_aload_n Y.1 0 dX4_readCommand_266 (rfl : _ = 267) rfl rfl ?_
        refine V_aload_n Y.1 1 dX4_readCommand_267 (rfl : _ = 268) rfl rfl ?_
        refine V_cI Y (sV Z (c_X4_readNumberAndDigit l D kA Hs σ _ hg r b v cap len n ya g t K1 K2 K3 y hn hR hS ht hlen yl.2.2 hbr hvr hrs) mi_X4_readNumberAndDigit vi_X4_69 rfl hR.1 rfl rfl (Nat.le_of_ble_eq_true rfl) ⟨Nat.le_of_ble_eq_true rfl, Nat.le_of_ble_eq_true rfl⟩ (Nat.le_of_ble_eq_true rfl) (Nat.le_of_ble_eq_true rfl) dX4_readCommand_268) (fun q hq => Or.inl (blk_sub (by omega) (by omega) q hq)) (rfl : _ = 271) (fun v_268 H268_24 hq_268 o_268 => ?_)
        obtain ⟨e268, hR⟩ := hq_268
        refine V_if_eq Y.1 (tgt := 278) dX4_readCommand_271 (by decide) (rfl : _ = 274) (fun c_271 => ?_) (fun c_271 => ?_)
        · have e8 := Rk.e0 e268 c_271
          refine V_iconst Y.1 (v := 0) dX4_readCommand_278 (rfl : _ = 279) (by decide) ?_
          exact V_ret Y.1 dX4_readCommand_279 rfl (Nat.le_of_ble_eq_true rfl) (Nat.le_of_ble_eq_true rfl) ⟨by rw [qc.1, if_neg e8], by rw [qc.1, qc.2.1, qc.2.2.1, qc.2.2.2.1, qc.2.2.2.2]; exact hR⟩
        · have e8 := Rk.e1 e268 c_271
          refine V_iconst Y.1 (v := 1) dX4_readCommand_274 (rfl : _ = 275) (by decide) ?_
          refine V_goto Y.1 (tgt := 279) dX4_readCommand_275 (by decide) ?_
          exact V_ret Y.1 dX4_readCommand_279 rfl (Nat.le_of_ble_eq_true rfl) (Nat.le_of_ble_eq_true rfl) ⟨by rw [qc.1, if_pos e8], by rw [qc.1, qc.2.1, qc.2.2.1, qc.2.2.2.1, qc.2.2.2.2]; exact hR⟩
    have qc := qc_no (n := n0) (c := cc0) e9 hq9 k99 k119 k108 k105 k111 k102 k122
    by_cases kr : q9 < 99 ∨ 122 < q9
    · refine V_tableOut Y.1 (tgt := 304) dX4_readCommand_21 (by rw [nI_toInt (by omega)]; omega) (by decide) ?_
      refine V_iconst Y.1 (v := 0) dX4_readCommand_304 (rfl : _ = 305) (by decide) ?_
      exact V_ret Y.1 dX4_readCommand_305 rfl (Nat.le_of_ble_eq_true rfl) (Nat.le_of_ble_eq_true rfl) ⟨by rw [qc.1]; rfl, by rw [qc.1, qc.2]; exact Rk.bad (by decide) hR⟩
    · refine V_tableIn Y.1 (off := 283) (tgt := 304) dX4_readCommand_21 (by rw [nI_toInt (by omega)]; omega) (by rw [nI_toInt (by omega)]; omega) (sw_in (by omega) k99 k108 k105 k111 k102 k122 k119) (by decide) ?_
      refine V_iconst Y.1 (v := 0) dX4_readCommand_304 (rfl : _ = 305) (by decide) ?_
      exact V_ret Y.1 dX4_readCommand_305 rfl (Nat.le_of_ble_eq_true rfl) (Nat.le_of_ble_eq_true rfl) ⟨by rw [qc.1]; rfl, by rw [qc.1, qc.2]; exact Rk.bad (by decide) hR⟩
  · have hge : ¬ a < len := fun q => c_8 (nI_lt q (by omega))
    have e9 : r_beh t len a = -1 := if_neg hge
    refine V_iconst Y.1 (v := 0) dX4_readCommand_11 (rfl : _ = 12) (by decide) ?_
    have qc := qc_m1 (n := n0) (c := cc0) e9
    exact V_ret Y.1 dX4_readCommand_12 rfl (Nat.le_of_ble_eq_true rfl) (Nat.le_of_ble_eq_true rfl) ⟨by rw [qc.1]; rfl, by rw [qc.1, qc.2]; exact Rk.bad (by decide) hR⟩
