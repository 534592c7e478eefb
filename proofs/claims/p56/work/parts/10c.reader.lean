theorem Rd.z {D : va_G} {kA : Nat → ClassId} {H : Heap} {r : Nat} {K1 K2 K3 : Nat → Int32} {n a : Nat} {y : Int32} (h : Rd D kA H r K1 K2 K3 n a y) : Rd D kA H r K1 K2 K3 n a y := h
def cmdOK (K1 K2 K3 c : Nat → Int32) (i : Nat) : Prop := K1 i = kcode (c (3 * i)) ∧ K2 i = c (3 * i + 1) ∧ K3 i = if c (3 * i) = 99 ∨ c (3 * i) = 119 then 0 else c (3 * i + 2)
theorem cmdOK.step {K1 K2 K3 c zc : Nat → Int32} {n : Nat} (h : ∀ i, i < n → cmdOK K1 K2 K3 c i) (hz : ∀ j, j < 3 * n → zc j = c j) : ∀ i, i < n + 1 → cmdOK (upd K1 n (kcode (zc (3 * n)))) (upd K2 n (zc (3 * n + 1))) (upd K3 n (if zc (3 * n) = 99 ∨ zc (3 * n) = 119 then 0 else zc (3 * n + 2))) zc i := by
  intro i hi
  by_cases e : i = n
  · subst e
    exact ⟨pk_us, pk_us, pk_us⟩
  · obtain ⟨h1, h2, h3⟩ := h i (by omega)
    refine ⟨?_, ?_, ?_⟩
    · rw [pk_un e, hz _ (by omega)]; exact h1
    · rw [pk_un e, hz _ (by omega)]; exact h2
    · rw [pk_un e, hz _ (by omega), hz _ (by omega)]; exact h3
theorem q_cmds_w {t : Nat → Int32} {len m : Nat} {z : RK} (h : ¬ z.1 = 0) : q_cmds t len m z = z := by
  cases m with
  | zero => rfl
  | succ m => exact if_neg (fun q => h q.1)
theorem qc_k {t c : Nat → Int32} {len a n : Nat} : (q_cmd t len (0, a, n, c)).2.2.2 (3 * n) = r_beh t len a := by
  unfold q_cmd
  rw [if_neg (not_not_intro rfl)]
  dsimp only
  by_cases h1 : r_beh t len a = 99
  · rw [if_pos h1]
    dsimp only
    rw [pk_un (by omega), pk_us]
  · rw [if_neg h1]
    by_cases h2 : r_beh t len a = 119
    · rw [if_pos h2]
      dsimp only
      rw [pk_un (by omega), pk_us]
    · rw [if_neg h2]
      dsimp only
      rw [pk_un (by omega), pk_un (by omega), pk_us]
theorem q_num_1 {t : Nat → Int32} {len most w a : Nat} (hm : 0 < most) (h : (q_num t len most w a).1 = 0) : a + 1 ≤ (q_num t len most w a).2.1 := by
  unfold q_num at h ⊢
  by_cases h1 : w = 0
  · rw [if_neg (not_not_intro h1)] at h ⊢
    by_cases h2 : r_in (r_beh t len a) 48 57 = 0
    · rw [if_pos h2] at h
      exact absurd h (by show ¬ (1 : Nat) = 0; decide)
    · rw [if_neg h2]
      have hlt : a < len := r_beh_lt fun q => h2 (by rw [q]; decide)
      obtain ⟨m, rfl⟩ : ∃ m, most = m + 1 := ⟨most - 1, by omega⟩
      show a + 1 ≤ (q_digs t len (m + 1) (a, 0)).1
      rw [q_digs, if_neg h2]
      exact (q_digs_le m (a + 1, _) hlt).1
  · rw [if_pos h1] at h
    exact absurd h (by show ¬ (1 : Nat) = 0; decide)
theorem q_sp {t : Nat → Int32} {len w a : Nat} (h : (q_skip t len [32] (w, a)).1 = 0) : w = 0 ∧ (q_skip t len [32] (w, a)).2 = a + 1 := by
  have h0 : w = 0 := q_skip_z h
  subst h0
  exact ⟨rfl, q_skip_0 [32] a h⟩
theorem qc_6 {t c : Nat → Int32} {len a n : Nat} (ha : a ≤ len) : (q_cmd t len (0, a, n, c)).1 = 0 → a + 6 ≤ (q_cmd t len (0, a, n, c)).2.1 := by
  intro h
  have hk := ((q_cmd_ok (t := t) (len := len) (n := n) (c := c) ha).2.2.2.2.1 h).2
  rw [qc_k] at hk
  have nn : ∀ {m1 m2 ya : Nat}, 0 < m1 → 0 < m2 → (q_num t len m2 (q_skip t len [32] ((q_num t len m1 0 ya).1, (q_num t len m1 0 ya).2.1)).1 (q_skip t len [32] ((q_num t len m1 0 ya).1, (q_num t len m1 0 ya).2.1)).2).1 = 0 → ya + 3 ≤ (q_num t len m2 (q_skip t len [32] ((q_num t len m1 0 ya).1, (q_num t len m1 0 ya).2.1)).1 (q_skip t len [32] ((q_num t len m1 0 ya).1, (q_num t len m1 0 ya).2.1)).2).2.1 := by
    intro m1 m2 ya p1 p2 hz
    have g1 := q_num_1 p2 hz
    obtain ⟨g2, g3⟩ := q_sp (q_num_z hz)
    have g4 := q_num_1 p1 g2
    omega
  rcases hk with hk | hk | hk | hk | hk | hk | hk
  · have hk : r_beh t len a = nI 99 := hk
    obtain ⟨⟨yw, ya⟩, hy⟩ : ∃ z, q_skip t len (byt "card ") (0, a) = z := ⟨_, rfl⟩
    by_cases hw : yw = 0
    · subst hw
      have hl : ya = a + 5 := by
        have := q_skip_0 (t := t) (len := len) (byt "card ") a (by rw [hy])
        rw [hy] at this
        exact this
      have g := qc_g99 (n := n) (c := c) hk hy
      rw [g.1] at h
      rw [g.2.1]
      by_cases b1 : r_beh t len ya = 114
      · rw [if_pos b1]; omega
      · rw [if_neg b1] at h ⊢
        by_cases b2 : r_beh t len ya = 102
        · rw [if_pos b2]; omega
        · rw [if_neg b2] at h; exact absurd h (by decide)
    · rw [(qc_w99 (n := n) (c := c) hk hy hw).1] at h
      exact absurd h (by decide)
  · have hk : r_beh t len a = nI 119 := hk
    obtain ⟨⟨yw, ya⟩, hy⟩ : ∃ z, q_skip t len (byt "wait ") (0, a) = z := ⟨_, rfl⟩
    by_cases hw : yw = 0
    · subst hw
      have hl : ya = a + 5 := by
        have := q_skip_0 (t := t) (len := len) (byt "wait ") a (by rw [hy])
        rw [hy] at this
        exact this
      have g := qc_g119 (n := n) (c := c) hk hy
      rw [g.1] at h
      rw [g.2.1]
      have := q_num_1 (by decide) h
      omega
    · rw [(qc_w119 (n := n) (c := c) hk hy hw).1] at h
      exact absurd h (by decide)
  · have hk : r_beh t len a = nI 108 := hk
    obtain ⟨⟨yw, ya⟩, hy⟩ : ∃ z, q_skip t len (byt "load ") (0, a) = z := ⟨_, rfl⟩
    by_cases hw : yw = 0
    · subst hw
      have hl : ya = a + 5 := by
        have := q_skip_0 (t := t) (len := len) (byt "load ") a (by rw [hy])
        rw [hy] at this
        exact this
      have g := qc_g108 (n := n) (c := c) hk hy
      rw [g.1] at h
      rw [g.2.1]
      have := nn (by decide) (by decide) h
      omega
    · rw [(qc_w108 (n := n) (c := c) hk hy hw).1] at h
      exact absurd h (by decide)
  · have hk : r_beh t len a = nI 105 := hk
    obtain ⟨⟨yw, ya⟩, hy⟩ : ∃ z, q_skip t len (byt "in ") (0, a) = z := ⟨_, rfl⟩
    by_cases hw : yw = 0
    · subst hw
      have hl : ya = a + 3 := by
        have := q_skip_0 (t := t) (len := len) (byt "in ") a (by rw [hy])
        rw [hy] at this
        exact this
      have g := qc_g105 (n := n) (c := c) hk hy
      rw [g.1] at h
      rw [g.2.1]
      have := nn (by decide) (by decide) h
      omega
    · rw [(qc_w105 (n := n) (c := c) hk hy hw).1] at h
      exact absurd h (by decide)
  · have hk : r_beh t len a = nI 111 := hk
    obtain ⟨⟨yw, ya⟩, hy⟩ : ∃ z, q_skip t len (byt "out ") (0, a) = z := ⟨_, rfl⟩
    by_cases hw : yw = 0
    · subst hw
      have hl : ya = a + 4 := by
        have := q_skip_0 (t := t) (len := len) (byt "out ") a (by rw [hy])
        rw [hy] at this
        exact this
      have g := qc_g111 (n := n) (c := c) hk hy
      rw [g.1] at h
      rw [g.2.1]
      have := nn (by decide) (by decide) h
      omega
    · rw [(qc_w111 (n := n) (c := c) hk hy hw).1] at h
      exact absurd h (by decide)
  · have hk : r_beh t len a = nI 102 := hk
    obtain ⟨⟨yw, ya⟩, hy⟩ : ∃ z, q_skip t len (byt "fix ") (0, a) = z := ⟨_, rfl⟩
    by_cases hw : yw = 0
    · subst hw
      have hl : ya = a + 4 := by
        have := q_skip_0 (t := t) (len := len) (byt "fix ") a (by rw [hy])
        rw [hy] at this
        exact this
      have g := qc_g102 (n := n) (c := c) hk hy
      rw [g.1] at h
      rw [g.2.1]
      have := nn (by decide) (by decide) h
      omega
    · rw [(qc_w102 (n := n) (c := c) hk hy hw).1] at h
      exact absurd h (by decide)
  · have hk : r_beh t len a = nI 122 := hk
    obtain ⟨⟨yw, ya⟩, hy⟩ : ∃ z, q_skip t len (byt "zone ") (0, a) = z := ⟨_, rfl⟩
    by_cases hw : yw = 0
    · subst hw
      have hl : ya = a + 5 := by
        have := q_skip_0 (t := t) (len := len) (byt "zone ") a (by rw [hy])
        rw [hy] at this
        exact this
      have g := qc_g122 (n := n) (c := c) hk hy
      rw [g.1] at h
      rw [g.2.1]
      have := nn (by decide) (by decide) h
      omega
    · rw [(qc_w122 (n := n) (c := c) hk hy hw).1] at h
      exact absurd h (by decide)
set_option maxRecDepth 100000 in
set_option maxHeartbeats 4000000 in
theorem c_X4_readScript (l : Launch) (D : va_G) (kA : Nat → ClassId) (Hs : Heap) (σ : SG) (H0 : Heap) (hg : Ag Hs H0) (r b v cap len n a : Nat) (g t K1 K2 K3 : Nat → Int32) (y : Int32) (cc0 : Nat → Int32) (hR : Rd D kA H0 r K1 K2 K3 n a y) (hS : Sb D kA H0 b v cap len g) (ht : Tx g t len) (hlen : len ≤ 60) (hbr : b < r ∨ r + 4 ≤ b) (hvr : v < r ∨ r + 4 ≤ v) (hrs : Hs.size ≤ r) : CtS l D kA Hs σ yX4_readScript cX4_readScript 3 (some .boolean) 8 177 0 0 H0 [.ref r, .ref b] (blk r 4) (pI fun v9 H => v9 = (if (q_cmds t len 61 (q_cmd t len (0, 0, 0, cc0))).1 = 0 ∧ len ≤ (q_cmds t len 61 (q_cmd t len (0, 0, 0, cc0))).2.1 then 1 else 0) ∧ ∃ J1 J2 J3 n1 y1, Rd D kA H r J1 J2 J3 n1 (q_cmds t len 61 (q_cmd t len (0, 0, 0, cc0))).2.1 y1 ∧ ((q_cmds t len 61 (q_cmd t len (0, 0, 0, cc0))).1 = 0 ∧ len ≤ (q_cmds t len 61 (q_cmd t len (0, 0, 0, cc0))).2.1 → n1 = (q_cmds t len 61 (q_cmd t len (0, 0, 0, cc0))).2.2.1 ∧ n1 ≤ 9 ∧ ∀ i, i < n1 → cmdOK J1 J2 J3 (q_cmds t len 61 (q_cmd t len (0, 0, 0, cc0))).2.2.2 i)) := by
  refine CtS.of mi_X4_readScript (Nat.le_of_ble_eq_true rfl) (ls0 := [(0, _), (1, _)]) rfl hg (fun q z => Nat.le_trans hrs z.1) ?_
  intro Pp Ee Ss Mm Ar Bl Me Cc Z hs hnm
  have Y := Z.1
  obtain ⟨fin, hfin⟩ : ∃ z, (q_cmds t len 61 (q_cmd t len (0, 0, 0, cc0))) = z := ⟨_, rfl⟩
  rw [hfin]
  have lp : ∀ (m n a : Nat) (K1 K2 K3 : Nat → Int32) (y : Int32) (c : Nat → Int32) (H : Heap), 7 * n ≤ a → a ≤ len → 60 < m + a → q_cmds t len m (q_cmd t len (0, a, n, c)) = fin → (∀ i, i < n → cmdOK K1 K2 K3 c i) → Rd D kA H r K1 K2 K3 n a y → Sb D kA H b v cap len g → Ag Hs H → V Pp l Ee (rmO 8 177 0 0) Ss Mm Ar Bl Me Cc 3 (AA H0 (blk r 4)) (QC Bl Ar Ss 0 0 H0 (blk r 4) (pI fun v9 H => v9 = (if fin.1 = 0 ∧ len ≤ fin.2.1 then 1 else 0) ∧ ∃ J1 J2 J3 n1 y1, Rd D kA H r J1 J2 J3 n1 fin.2.1 y1 ∧ (fin.1 = 0 ∧ len ≤ fin.2.1 → n1 = fin.2.2.1 ∧ n1 ≤ 9 ∧ ∀ i, i < n1 → cmdOK J1 J2 J3 fin.2.2.2 i))) H 0 0 12 [(2, .int (nI n)), (0, .ref r), (1, .ref b)] [] := by
    clear hR hS hg hfin
    intro m
    induction m with
    | zero =>
      intro n a K1 K2 K3 y c H h7 ha hm he hc hR hS hg
      exact absurd hm (by omega)
    | succ m ih =>
      intro n a K1 K2 K3 y c H h7 ha hm he hc hR hS hg
      have hok := q_cmd_ok (t := t) (len := len) (n := n) (c := c) ha
      have h6 := qc_6 (t := t) (len := len) (n := n) (c := c) ha
      have hkk := qc_k (t := t) (len := len) (a := a) (n := n) (c := c)
      refine V_iload_n Y.1 0 dX4_readScript_12 (rfl : _ = 13) rfl rfl ?_
      refine V_bipush Y.1 (v := 10) dX4_readScript_13 (rfl : _ = 15) (by decide) ?_
      refine V_icmp_ge Y.1 (tgt := 59) dX4_readScript_15 (by decide) (rfl : _ = 18) (fun c_n => absurd c_n (fun q => absurd ((nI_leI (a := 10) (by decide) (by omega)).mp q) (by omega))) (fun _ => ?_)
      refine V_aload_n Y.1 1 dX4_readScript_18 (rfl : _ = 19) rfl rfl ?_
      refine V_aload_n Y.1 2 dX4_readScript_19 (rfl : _ = 20) rfl rfl ?_
      refine V_cI Y (sV Z (c_X4_readCommand l D kA Hs σ _ hg r b v cap len n a g t K1 K2 K3 y n c hR hS ht hlen ha hbr hvr hrs (by omega)) mi_X4_readCommand vi_X4_28 rfl hR.1 rfl rfl (Nat.le_of_ble_eq_true rfl) ⟨Nat.le_of_ble_eq_true rfl, Nat.le_of_ble_eq_true rfl⟩ (Nat.le_of_ble_eq_true rfl) (Nat.le_of_ble_eq_true rfl) dX4_readScript_20) (fun q hq => Or.inl (blk_sub (by omega) (by omega) q hq)) (rfl : _ = 23) (fun v_20 H20_5 hq_20 o_20 => ?_)
      obtain ⟨e20, y20, hg20, hb20⟩ := hq_20
      have hS := hS.off o_20 (by unfold blk; omega) (by unfold blk; omega)
      have hg := hg.keep o_20 (fun q z => Nat.le_trans hrs z.1)
      obtain ⟨⟨zw, za, zn, zc⟩, hz⟩ : ∃ q, q_cmd t len (0, a, n, c) = q := ⟨_, rfl⟩
      rw [hz] at e20 hg20 hb20 he hok h6 hkk
      dsimp only at e20 hg20 hb20 hok h6 hkk
      rw [← hkk] at hg20
      obtain ⟨-, hza, hzl, rfl, -, hzc⟩ := hok
      refine V_if_ne Y.1 (tgt := 28) dX4_readScript_23 (by decide) (rfl : _ = 26) (fun c_23 => ?_) (fun c_23 => ?_)
      · have z0 : zw = 0 := Decidable.byContradiction fun q => c_23 (by rw [e20, if_neg q])
        subst z0
        have hR := hg20 rfl
        have h6 := h6 rfl
        have hcc : ∀ i, i < n + 1 → cmdOK (upd K1 n (kcode (zc (3 * n)))) (upd K2 n (zc (3 * n + 1))) (upd K3 n (if zc (3 * n) = 99 ∨ zc (3 * n) = 119 then 0 else zc (3 * n + 2))) zc i := cmdOK.step hc hzc
        refine V_aload_n Y.1 1 dX4_readScript_28 (rfl : _ = 29) rfl rfl ?_
        refine V_get Y.1 fi_X4_25 hR.1 rfl dX4_readScript_29 (rfl : _ = 32) ?_
        refine V_aload_n Y.1 2 dX4_readScript_32 (rfl : _ = 33) rfl rfl ?_
        refine V_cP Y (sV Z (c_J4_length_8abf5 l D kA Hs σ _ hg b v cap len g hS) mi_J4_length_8abf5 vi_X4_32 rfl hS.1.choose_spec rfl rfl (Nat.le_of_ble_eq_true rfl) ⟨Nat.le_of_ble_eq_true rfl, Nat.le_of_ble_eq_true rfl⟩ (Nat.le_of_ble_eq_true rfl) (Nat.le_of_ble_eq_true rfl) dX4_readScript_33) (rfl : _ = 36) ?_
        refine V_icmp_ne Y.1 (tgt := 41) dX4_readScript_36 (by decide) (rfl : _ = 39) (fun c_36 => ?_) (fun c_36 => ?_)
        · have hlt : za < len := by
            have : ¬ za = len := fun q => c_36 (by rw [q])
            omega
          refine V_aload_n Y.1 1 dX4_readScript_41 (rfl : _ = 42) rfl rfl ?_
          refine V_aload_n Y.1 2 dX4_readScript_42 (rfl : _ = 43) rfl rfl ?_
          refine V_bipush Y.1 (v := 59) dX4_readScript_43 (rfl : _ = 45) (by decide) ?_
          refine V_cI Y (sV Z (c_X4_readSign l D kA Hs σ _ hg r b v cap len (n + 1) za g t _ _ _ _ 59 (by decide) hR hS ht hlen hzl hbr hvr hrs) mi_X4_readSign vi_X4_38 rfl hR.1 rfl rfl (Nat.le_of_ble_eq_true rfl) ⟨Nat.le_of_ble_eq_true rfl, Nat.le_of_ble_eq_true rfl⟩ (Nat.le_of_ble_eq_true rfl) (Nat.le_of_ble_eq_true rfl) dX4_readScript_45) (fun q hq => Or.inl (blk_sub (by omega) (by omega) q hq)) (rfl : _ = 48) (fun v_45 H45_31 hq_45 o_45 => ?_)
          obtain ⟨e45, hR⟩ := hq_45
          have hS := hS.off o_45 (by unfold blk; omega) (by unfold blk; omega)
          have hg := hg.keep o_45 (fun q z => Nat.le_trans hrs z.1)
          refine V_if_ne Y.1 (tgt := 53) dX4_readScript_48 (by decide) (rfl : _ = 51) (fun c_48 => ?_) (fun c_48 => ?_)
          · have c8 : r_beh t len za = 59 := Decidable.byContradiction fun q => c_48 (by rw [e45, if_neg q])
            rw [if_pos c8] at hR
            have he : q_cmds t len m (q_cmd t len (0, za + 1, n + 1, zc)) = fin := by rw [← he]; exact (if_pos ⟨rfl, c8⟩).symm
            refine V_iinc Y.1 (v := nI (n + 1)) (ls' := [(2, _), (0, _), (1, _)]) 0 dX4_readScript_53 (rfl : _ = 56) rfl (nI_1 _) (by decide) rfl ?_
            refine V_goto Y.1 (tgt := 12) dX4_readScript_56 (by decide) ?_
            exact ih (n + 1) (za + 1) _ _ _ _ zc _ (by omega) hlt (by omega) he hcc hR hS hg
          · have c8 : ¬ r_beh t len za = 59 := fun q => by rw [e45, if_pos q] at c_48; exact absurd c_48 (by decide)
            rw [if_neg c8] at hR
            have he : ((0 : Nat), za, n + 1, zc) = fin := by rw [← he]; exact (if_neg (fun q => c8 q.2)).symm
            refine V_iconst Y.1 (v := 0) dX4_readScript_51 (rfl : _ = 52) (by decide) ?_
            exact V_ret Y.1 dX4_readScript_52 rfl (Nat.le_of_ble_eq_true rfl) (Nat.le_of_ble_eq_true rfl) ⟨by rw [← he]; exact (if_neg (fun q => absurd q.2 (by dsimp only; omega))).symm, _, _, _, _, _, by rw [← he]; exact hR, fun q => by rw [← he] at q; exact absurd q (fun q => absurd q.2 (by dsimp only; omega))⟩
        · have hel : za = len := (nI_eq (by omega) (by omega)).mp c_36
          have he : ((0 : Nat), za, n + 1, zc) = fin := by rw [← he]; exact (if_neg (fun q => absurd (r_beh_lt (t := t) (len := len) (a := za) (by rw [q.2]; decide)) (by omega))).symm
          refine V_iconst Y.1 (v := 1) dX4_readScript_39 (rfl : _ = 40) (by decide) ?_
          exact V_ret Y.1 dX4_readScript_40 rfl (Nat.le_of_ble_eq_true rfl) (Nat.le_of_ble_eq_true rfl) ⟨by rw [← he]; exact (if_pos ⟨rfl, by dsimp only; omega⟩).symm, _, _, _, _, _, by rw [← he]; exact hR, fun q => by rw [← he]; exact ⟨rfl, by omega, hcc⟩⟩
      · have z0 : ¬ zw = 0 := fun q => by rw [e20, if_pos q] at c_23; exact absurd c_23 (by decide)
        have hR := hb20 z0
        have he : (zw, za, n + 1, zc) = fin := by rw [← he]; exact (q_cmds_w (by exact z0)).symm
        refine V_iconst Y.1 (v := 0) dX4_readScript_26 (rfl : _ = 27) (by decide) ?_
        exact V_ret Y.1 dX4_readScript_27 rfl (Nat.le_of_ble_eq_true rfl) (Nat.le_of_ble_eq_true rfl) ⟨by rw [← he]; exact (if_neg (fun q => z0 q.1)).symm, _, _, _, _, _, by rw [← he]; exact hR, fun q => by rw [← he] at q; exact absurd q (fun q => z0 q.1)⟩
  refine V_aload_n Y.1 0 dX4_readScript_0 (rfl : _ = 1) rfl rfl ?_
  refine V_iconst Y.1 (v := 0) dX4_readScript_1 (rfl : _ = 2) (by decide) ?_
  have hR := hR
  refine V_put Y.1 fi_X4_21 fw_X4 rfl rfl hR.1 (Or.inl ⟨by omega, by omega⟩) rfl rfl (Nat.le_of_ble_eq_true rfl) dX4_readScript_2 (rfl : _ = 5) (fun H2_3 h_new o_2 => ?_)
  have hR := hR.f3 o_2 h_new
  have hS := hS.put o_2 (by omega) (by omega)
  have hg := hg.put o_2 (by omega)
  clear h_new
  refine V_aload_n Y.1 0 dX4_readScript_5 (rfl : _ = 6) rfl rfl ?_
  refine V_iconst Y.1 (v := 0) dX4_readScript_6 (rfl : _ = 7) (by decide) ?_
  refine V_put Y.1 fi_X4_25 fw_X4 rfl rfl hR.1 (Or.inl ⟨by omega, by omega⟩) rfl rfl (Nat.le_of_ble_eq_true rfl) dX4_readScript_7 (rfl : _ = 10) (fun H7_10 h_new o_7 => ?_)
  have hR := hR.f4 o_7 h_new
  have hS := hS.put o_7 (by omega) (by omega)
  have hg := hg.put o_7 (by omega)
  clear h_new
  refine V_iconst Y.1 (v := 0) dX4_readScript_10 (rfl : _ = 11) (by decide) ?_
  refine V_istore_n Y.1 (ls' := [(2, _), (0, _), (1, _)]) dX4_readScript_11 (rfl : _ = 12) rfl (by decide) rfl ?_
  exact lp 61 0 0 _ _ _ _ cc0 _ (by omega) (Nat.zero_le _) (by omega) hfin (fun i hi => absurd hi (by omega)) (Rd.z hR) hS hg
