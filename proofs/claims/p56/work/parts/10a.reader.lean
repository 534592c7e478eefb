/-! The class's script reader. -/
def Rd (D : va_G) (kA : Nat → ClassId) (H : Heap) (r : Nat) (K1 K2 K3 : Nat → Int32) (n a : Nat) (y : Int32) : Prop :=
  hp D H r (eO 8 [.ref (r + 1), .ref (r + 2), .ref (r + 3), .int (nI n), .int (nI a), .int y]) ∧ hp D H (r + 1) (eI kA 10 K1) ∧ hp D H (r + 2) (eI kA 10 K2) ∧ hp D H (r + 3) (eI kA 10 K3)
def Tx (g t : Nat → Int32) (len : Nat) : Prop := ∀ j, j < len → ∃ c, c < 128 ∧ g j = nI c ∧ t j = nI c
section RDS
variable {D : va_G} {kA : Nat → ClassId} {H H1 : Heap} {r n a m b v cap : Nat} {K1 K2 K3 f g : Nat → Int32} {x y : Int32}
theorem Rd.off {F : Nat → Prop} (h : Rd D kA H r K1 K2 K3 n a y) (o : off F H H1) (hn : ∀ q, blk r 4 q → ¬ F q) : Rd D kA H1 r K1 K2 K3 n a y :=
  ⟨h.1.off o (hn _ ⟨by omega, by omega⟩), h.2.1.off o (hn _ ⟨by omega, by omega⟩), h.2.2.1.off o (hn _ ⟨by omega, by omega⟩), h.2.2.2.off o (hn _ ⟨by omega, by omega⟩)⟩
theorem Rd.f3 (h : Rd D kA H r K1 K2 K3 n a y) (o : sto r H H1) (hn : hp D H1 r (.inr (8, [.ref (r + 1), .ref (r + 2), .ref (r + 3), .int (nI m), .int (nI a), .int y]))) : Rd D kA H1 r K1 K2 K3 m a y := ⟨hn, h.2.1.sto o (by omega), h.2.2.1.sto o (by omega), h.2.2.2.sto o (by omega)⟩
theorem Rd.f4 (h : Rd D kA H r K1 K2 K3 n a y) (o : sto r H H1) (hn : hp D H1 r (.inr (8, [.ref (r + 1), .ref (r + 2), .ref (r + 3), .int (nI n), .int (nI m), .int y]))) : Rd D kA H1 r K1 K2 K3 n m y := ⟨hn, h.2.1.sto o (by omega), h.2.2.1.sto o (by omega), h.2.2.2.sto o (by omega)⟩
theorem Rd.f5 (h : Rd D kA H r K1 K2 K3 n a y) (o : sto r H H1) (hn : hp D H1 r (.inr (8, [.ref (r + 1), .ref (r + 2), .ref (r + 3), .int (nI n), .int (nI a), .int x]))) : Rd D kA H1 r K1 K2 K3 n a x := ⟨hn, h.2.1.sto o (by omega), h.2.2.1.sto o (by omega), h.2.2.2.sto o (by omega)⟩
theorem Rd.a1 (h : Rd D kA H r K1 K2 K3 n a y) (o : sto (r + 1) H H1) (hn : hp D H1 (r + 1) (eI kA 10 f)) : Rd D kA H1 r f K2 K3 n a y := ⟨h.1.sto o (by omega), hn, h.2.2.1.sto o (by omega), h.2.2.2.sto o (by omega)⟩
theorem Rd.a2 (h : Rd D kA H r K1 K2 K3 n a y) (o : sto (r + 2) H H1) (hn : hp D H1 (r + 2) (eI kA 10 f)) : Rd D kA H1 r K1 f K3 n a y := ⟨h.1.sto o (by omega), h.2.1.sto o (by omega), hn, h.2.2.2.sto o (by omega)⟩
theorem Rd.a3 (h : Rd D kA H r K1 K2 K3 n a y) (o : sto (r + 3) H H1) (hn : hp D H1 (r + 3) (eI kA 10 f)) : Rd D kA H1 r K1 K2 f n a y := ⟨h.1.sto o (by omega), h.2.1.sto o (by omega), h.2.2.1.sto o (by omega), hn⟩
theorem Sb.put (h : Sb D kA H b v cap n g) (o : sto a H H1) (h1 : b ≠ a) (h2 : v ≠ a) : Sb D kA H1 b v cap n g := h.off (o.off (F := fun q => q = a) rfl) h1 h2
end RDS
set_option maxRecDepth 100000 in
set_option maxHeartbeats 4000000 in
theorem c_X4_isDigitNext (l : Launch) (D : va_G) (kA : Nat → ClassId) (Hs : Heap) (σ : SG) (H0 : Heap) (hg : Ag Hs H0) (r b v cap len n a : Nat) (g t K1 K2 K3 : Nat → Int32) (y : Int32)  (hR : Rd D kA H0 r K1 K2 K3 n a y) (hS : Sb D kA H0 b v cap len g) (ht : Tx g t len) (hlen : len ≤ 60) (ha : a ≤ len) (hbr : b < r ∨ r + 4 ≤ b) (hvr : v < r ∨ r + 4 ≤ v) (hrs : Hs.size ≤ r)  : CtS l D kA Hs σ yX4_isDigitNext cX4_isDigitNext 2 (some .boolean) 4 88 0 0 H0 [.ref r, .ref b] (nof) (pI fun v9 H => v9 = r_in (r_beh t len a) 48 57 ∧ H = H0) := by
  refine CtS.of mi_X4_isDigitNext (Nat.le_of_ble_eq_true rfl) (ls0 := [(0, _), (1, _)]) rfl hg (fun _ z => z.elim) ?_
  intro Pp Ee Ss Mm Ar Bl Me Cc Z hs hnm
  have Y := Z.1
  refine V_aload_n Y.1 0 dX4_isDigitNext_0 (rfl : _ = 1) rfl rfl ?_
  refine V_get Y.1 fi_X4_25 hR.1 rfl dX4_isDigitNext_1 (rfl : _ = 4) ?_
  refine V_aload_n Y.1 1 dX4_isDigitNext_4 (rfl : _ = 5) rfl rfl ?_
  refine V_cP Y (sV Z (c_J4_length_8abf5 l D kA Hs σ _ hg b v cap len g hS) mi_J4_length_8abf5 vi_X4_32 rfl hS.1.choose_spec rfl rfl (Nat.le_of_ble_eq_true rfl) ⟨Nat.le_of_ble_eq_true rfl, Nat.le_of_ble_eq_true rfl⟩ (Nat.le_of_ble_eq_true rfl) (Nat.le_of_ble_eq_true rfl) dX4_isDigitNext_5) (rfl : _ = 8) ?_
  refine V_icmp_ge Y.1 (tgt := 41) dX4_isDigitNext_8 (by decide) (rfl : _ = 11) (fun c_8 => ?_) (fun c_8 => ?_)
  · have hge : ¬ a < len := fun q => absurd ((nI_leI (by omega) (by omega)).mp c_8) (by omega)
    have e9 : r_beh t len a = -1 := if_neg hge
    refine V_iconst Y.1 (v := 0) dX4_isDigitNext_41 (rfl : _ = 42) (by decide) ?_
    exact V_ret Y.1 dX4_isDigitNext_42 rfl (Nat.le_of_ble_eq_true rfl) (Nat.le_of_ble_eq_true rfl) ⟨by rw [e9]; simp [r_in, *], rfl⟩
  · have hlt : a < len := Nat.not_le.mp fun q => c_8 ((nI_leI (by omega) (by omega)).mpr q)
    have e9 : r_beh t len a = t a := if_pos hlt
    obtain ⟨q9, hq9, hgq9, htq9⟩ := ht a hlt
    rw [htq9] at e9
    refine V_aload_n Y.1 1 dX4_isDigitNext_11 (rfl : _ = 12) rfl rfl ?_
    refine V_aload_n Y.1 0 dX4_isDigitNext_12 (rfl : _ = 13) rfl rfl ?_
    refine V_get Y.1 fi_X4_25 hR.1 rfl dX4_isDigitNext_13 (rfl : _ = 16) ?_
    refine V_cP Y (sV Z (c_J4_charAt_5068e l D kA Hs σ _ hg b v cap len g a q9 hlt hq9 hgq9 hS) mi_J4_charAt_5068e vi_X4_42 rfl hS.1.choose_spec rfl rfl (Nat.le_of_ble_eq_true rfl) ⟨Nat.le_of_ble_eq_true rfl, Nat.le_of_ble_eq_true rfl⟩ (Nat.le_of_ble_eq_true rfl) (Nat.le_of_ble_eq_true rfl) dX4_isDigitNext_16) (rfl : _ = 19) ?_
    refine V_bipush Y.1 (v := 48) dX4_isDigitNext_19 (rfl : _ = 21) (by decide) ?_
    refine V_icmp_lt Y.1 (tgt := 41) dX4_isDigitNext_21 (by decide) (rfl : _ = 24) (fun c_21 => ?_) (fun c_21 => ?_)
    · refine V_iconst Y.1 (v := 0) dX4_isDigitNext_41 (rfl : _ = 42) (by decide) ?_
      exact V_ret Y.1 dX4_isDigitNext_42 rfl (Nat.le_of_ble_eq_true rfl) (Nat.le_of_ble_eq_true rfl) ⟨by rw [e9]; simp [r_in, *], rfl⟩
    · refine V_aload_n Y.1 1 dX4_isDigitNext_24 (rfl : _ = 25) rfl rfl ?_
      refine V_aload_n Y.1 0 dX4_isDigitNext_25 (rfl : _ = 26) rfl rfl ?_
      refine V_get Y.1 fi_X4_25 hR.1 rfl dX4_isDigitNext_26 (rfl : _ = 29) ?_
      refine V_cP Y (sV Z (c_J4_charAt_5068e l D kA Hs σ _ hg b v cap len g a q9 hlt hq9 hgq9 hS) mi_J4_charAt_5068e vi_X4_42 rfl hS.1.choose_spec rfl rfl (Nat.le_of_ble_eq_true rfl) ⟨Nat.le_of_ble_eq_true rfl, Nat.le_of_ble_eq_true rfl⟩ (Nat.le_of_ble_eq_true rfl) (Nat.le_of_ble_eq_true rfl) dX4_isDigitNext_29) (rfl : _ = 32) ?_
      refine V_bipush Y.1 (v := 57) dX4_isDigitNext_32 (rfl : _ = 34) (by decide) ?_
      refine V_icmp_gt Y.1 (tgt := 41) dX4_isDigitNext_34 (by decide) (rfl : _ = 37) (fun c_34 => ?_) (fun c_34 => ?_)
      · refine V_iconst Y.1 (v := 0) dX4_isDigitNext_41 (rfl : _ = 42) (by decide) ?_
        exact V_ret Y.1 dX4_isDigitNext_42 rfl (Nat.le_of_ble_eq_true rfl) (Nat.le_of_ble_eq_true rfl) ⟨by rw [e9]; simp [r_in, *], rfl⟩
      · refine V_iconst Y.1 (v := 1) dX4_isDigitNext_37 (rfl : _ = 38) (by decide) ?_
        refine V_goto Y.1 (tgt := 42) dX4_isDigitNext_38 (by decide) ?_
        exact V_ret Y.1 dX4_isDigitNext_42 rfl (Nat.le_of_ble_eq_true rfl) (Nat.le_of_ble_eq_true rfl) ⟨by rw [e9]; simp [r_in, *], rfl⟩

set_option maxRecDepth 100000 in
set_option maxHeartbeats 4000000 in
theorem c_X4_readSign (l : Launch) (D : va_G) (kA : Nat → ClassId) (Hs : Heap) (σ : SG) (H0 : Heap) (hg : Ag Hs H0) (r b v cap len n a : Nat) (g t K1 K2 K3 : Nat → Int32) (y : Int32) (x : Int32) (hx : ¬ x = -1) (hR : Rd D kA H0 r K1 K2 K3 n a y) (hS : Sb D kA H0 b v cap len g) (ht : Tx g t len) (hlen : len ≤ 60) (ha : a ≤ len) (hbr : b < r ∨ r + 4 ≤ b) (hvr : v < r ∨ r + 4 ≤ v) (hrs : Hs.size ≤ r)  : CtS l D kA Hs σ yX4_readSign cX4_readSign 3 (some .boolean) 4 88 0 0 H0 [.ref r, .ref b, .int x] (blk r 4) (pI fun v9 H => v9 = (if r_beh t len a = x then 1 else 0) ∧ Rd D kA H r K1 K2 K3 n (if r_beh t len a = x then a + 1 else a) y) := by
  refine CtS.of mi_X4_readSign (Nat.le_of_ble_eq_true rfl) (ls0 := [(0, _), (1, _), (2, _)]) rfl hg (fun q z => Nat.le_trans hrs z.1) ?_
  intro Pp Ee Ss Mm Ar Bl Me Cc Z hs hnm
  have Y := Z.1
  refine V_aload_n Y.1 0 dX4_readSign_0 (rfl : _ = 1) rfl rfl ?_
  refine V_get Y.1 fi_X4_25 hR.1 rfl dX4_readSign_1 (rfl : _ = 4) ?_
  refine V_aload_n Y.1 1 dX4_readSign_4 (rfl : _ = 5) rfl rfl ?_
  refine V_cP Y (sV Z (c_J4_length_8abf5 l D kA Hs σ _ hg b v cap len g hS) mi_J4_length_8abf5 vi_X4_32 rfl hS.1.choose_spec rfl rfl (Nat.le_of_ble_eq_true rfl) ⟨Nat.le_of_ble_eq_true rfl, Nat.le_of_ble_eq_true rfl⟩ (Nat.le_of_ble_eq_true rfl) (Nat.le_of_ble_eq_true rfl) dX4_readSign_5) (rfl : _ = 8) ?_
  refine V_icmp_ge Y.1 (tgt := 23) dX4_readSign_8 (by decide) (rfl : _ = 11) (fun c_8 => ?_) (fun c_8 => ?_)
  · have hge : ¬ a < len := fun q => absurd ((nI_leI (by omega) (by omega)).mp c_8) (by omega)
    have e9 : r_beh t len a = -1 := if_neg hge
    have e7 : ¬ r_beh t len a = x := fun q => hx (q.symm.trans e9)
    refine V_iconst Y.1 (v := 0) dX4_readSign_23 (rfl : _ = 24) (by decide) ?_
    exact V_ret Y.1 dX4_readSign_24 rfl (Nat.le_of_ble_eq_true rfl) (Nat.le_of_ble_eq_true rfl) ⟨by rw [if_neg e7], by rw [if_neg e7]; exact hR⟩
  · have hlt : a < len := Nat.not_le.mp fun q => c_8 ((nI_leI (by omega) (by omega)).mpr q)
    have e9 : r_beh t len a = t a := if_pos hlt
    obtain ⟨q9, hq9, hgq9, htq9⟩ := ht a hlt
    rw [htq9] at e9
    refine V_aload_n Y.1 1 dX4_readSign_11 (rfl : _ = 12) rfl rfl ?_
    refine V_aload_n Y.1 0 dX4_readSign_12 (rfl : _ = 13) rfl rfl ?_
    refine V_get Y.1 fi_X4_25 hR.1 rfl dX4_readSign_13 (rfl : _ = 16) ?_
    refine V_cP Y (sV Z (c_J4_charAt_5068e l D kA Hs σ _ hg b v cap len g a q9 hlt hq9 hgq9 hS) mi_J4_charAt_5068e vi_X4_42 rfl hS.1.choose_spec rfl rfl (Nat.le_of_ble_eq_true rfl) ⟨Nat.le_of_ble_eq_true rfl, Nat.le_of_ble_eq_true rfl⟩ (Nat.le_of_ble_eq_true rfl) (Nat.le_of_ble_eq_true rfl) dX4_readSign_16) (rfl : _ = 19) ?_
    refine V_iload_n Y.1 2 dX4_readSign_19 (rfl : _ = 20) rfl rfl ?_
    refine V_icmp_eq Y.1 (tgt := 25) dX4_readSign_20 (by decide) (rfl : _ = 23) (fun c_20 => ?_) (fun c_20 => ?_)
    · have e8 : r_beh t len a = x := e9.trans c_20
      refine V_aload_n Y.1 0 dX4_readSign_25 (rfl : _ = 26) rfl rfl ?_
      refine V_dup Y.1 dX4_readSign_26 (rfl : _ = 27) rfl ?_
      refine V_get Y.1 fi_X4_25 hR.1 rfl dX4_readSign_27 (rfl : _ = 30) ?_
      refine V_iconst Y.1 (v := 1) dX4_readSign_30 (rfl : _ = 31) (by decide) ?_
      refine V_iadd Y.1 dX4_readSign_31 (rfl : _ = 32) ?_
      refine V_nm (v := nI (a + 1)) (nI_1 _) ?_
      refine V_put Y.1 fi_X4_25 fw_X4 rfl rfl hR.1 (Or.inl ⟨by omega, by omega⟩) rfl rfl (Nat.le_of_ble_eq_true rfl) dX4_readSign_32 (rfl : _ = 35) (fun H32_26 h_new o_32 => ?_)
      have hR := hR.f4 o_32 h_new
      have hS := hS.put o_32 (by omega) (by omega)
      have hg := hg.put o_32 (by omega)
      clear h_new
      refine V_iconst Y.1 (v := 1) dX4_readSign_35 (rfl : _ = 36) (by decide) ?_
      exact V_ret Y.1 dX4_readSign_36 rfl (Nat.le_of_ble_eq_true rfl) (Nat.le_of_ble_eq_true rfl) ⟨by rw [if_pos e8], by rw [if_pos e8]; exact hR⟩
    · have e8 : ¬ r_beh t len a = x := fun q => c_20 (e9.symm.trans q)
      refine V_iconst Y.1 (v := 0) dX4_readSign_23 (rfl : _ = 24) (by decide) ?_
      exact V_ret Y.1 dX4_readSign_24 rfl (Nat.le_of_ble_eq_true rfl) (Nat.le_of_ble_eq_true rfl) ⟨by rw [if_neg e8], by rw [if_neg e8]; exact hR⟩

set_option maxRecDepth 100000 in
set_option maxHeartbeats 4000000 in
theorem c_X4_readNumber (l : Launch) (D : va_G) (kA : Nat → ClassId) (Hs : Heap) (σ : SG) (H0 : Heap) (hg : Ag Hs H0) (r b v cap len n a : Nat) (g t K1 K2 K3 : Nat → Int32) (y : Int32) (most : Nat) (hmo : most < 10) (hR : Rd D kA H0 r K1 K2 K3 n a y) (hS : Sb D kA H0 b v cap len g) (ht : Tx g t len) (hlen : len ≤ 60) (ha : a ≤ len) (hbr : b < r ∨ r + 4 ≤ b) (hvr : v < r ∨ r + 4 ≤ v) (hrs : Hs.size ≤ r)  (hmo9 : 0 < most) : CtS l D kA Hs σ yX4_readNumber cX4_readNumber 5 (some .boolean) 5 109 0 0 H0 [.ref r, .ref b, .int (nI most)] (blk r 4) (pI fun v9 H => v9 = (if (q_num t len most 0 a).1 = 0 then 1 else 0) ∧ ∃ y1, Rd D kA H r K1 K2 K3 n (q_num t len most 0 a).2.1 y1 ∧ ((q_num t len most 0 a).1 = 0 → y1 = (q_num t len most 0 a).2.2)) := by
  refine CtS.of mi_X4_readNumber (Nat.le_of_ble_eq_true rfl) (ls0 := [(0, _), (1, _), (2, _)]) rfl hg (fun q z => Nat.le_trans hrs z.1) ?_
  intro Pp Ee Ss Mm Ar Bl Me Cc Z hs hnm
  have Y := Z.1
  obtain ⟨fin, hfin⟩ : ∃ z, q_digs t len most (a, 0) = z := ⟨_, rfl⟩
  have lp : ∀ (m j a1 : Nat) (x : Int32) (H : Heap), j + m = most → a1 ≤ len → (j = 0 → a1 = a ∧ x = 0) → (0 < j → ¬ r_in (r_beh t len a) 48 57 = 0) → q_digs t len m (a1, x) = fin → Rd D kA H r K1 K2 K3 n a1 x → Sb D kA H b v cap len g → Ag Hs H → V Pp l Ee (rmO 5 109 0 0) Ss Mm Ar Bl Me Cc 5 (AA H0 (blk r 4)) (QC Bl Ar Ss 0 0 H0 (blk r 4) (pI fun v9 H => v9 = (if (q_num t len most 0 a).1 = 0 then 1 else 0) ∧ ∃ y1, Rd D kA H r K1 K2 K3 n (q_num t len most 0 a).2.1 y1 ∧ ((q_num t len most 0 a).1 = 0 → y1 = (q_num t len most 0 a).2.2))) H 0 0 10 [(4, .int (nI j)), (3, .int (nI j)), (0, .ref r), (1, .ref b), (2, .int (nI most))] [] := by
    clear hR hS hg
    intro m
    induction m with
    | zero =>
      intro j a1 x H hj ha1 h0 h1 he hR hS hg
      have he : (a1, x) = fin := he
      obtain rfl : j = most := by omega
      refine V_iload Y.1 0 dX4_readNumber_10 (rfl : _ = 12) rfl ?_
      refine V_iload_n Y.1 4 dX4_readNumber_12 (rfl : _ = 13) rfl rfl ?_
      refine V_icmp_ge Y.1 (tgt := 66) dX4_readNumber_13 (by decide) (rfl : _ = 16) (fun _ => ?_) (fun c_n => absurd ((nI_leI (by omega) (by omega)).mpr (Nat.le_refl _)) c_n)
      refine V_iload_n Y.1 1 dX4_readNumber_66 (rfl : _ = 67) rfl rfl ?_
      refine V_if_le Y.1 (tgt := 74) dX4_readNumber_67 (by decide) (rfl : _ = 70) (fun c_67 => ?_) (fun c_67 => ?_)
      · have j0 : j = 0 := by have := (nI_leI (b := 0) (by omega) (by decide)).mp c_67; omega
        refine V_iconst Y.1 (v := 0) dX4_readNumber_74 (rfl : _ = 75) (by decide) ?_
        have en : q_num t len j 0 a = if r_in (r_beh t len a) 48 57 = 0 then (1, a, 0) else (0, fin) := by rw [q_num, if_neg (not_not_intro rfl), hfin]
        exact absurd hmo9 (by omega)
      · have j0 : ¬ j = 0 := fun q => c_67 (by rw [q]; exact Int32.le_refl _)
        refine V_iconst Y.1 (v := 1) dX4_readNumber_70 (rfl : _ = 71) (by decide) ?_
        refine V_goto Y.1 (tgt := 75) dX4_readNumber_71 (by decide) ?_
        have en : q_num t len j 0 a = (0, fin) := by rw [q_num, if_neg (not_not_intro rfl), if_neg (h1 (by omega)), hfin]
        exact V_ret Y.1 dX4_readNumber_75 rfl (Nat.le_of_ble_eq_true rfl) (Nat.le_of_ble_eq_true rfl) ⟨by rw [en]; rfl, x, by rw [en, ← he]; exact hR, fun _ => by rw [en, ← he]⟩
    | succ m ih =>
      intro j a1 x H hj ha1 h0 h1 he hR hS hg
      refine V_iload Y.1 0 dX4_readNumber_10 (rfl : _ = 12) rfl ?_
      refine V_iload_n Y.1 4 dX4_readNumber_12 (rfl : _ = 13) rfl rfl ?_
      refine V_icmp_ge Y.1 (tgt := 66) dX4_readNumber_13 (by decide) (rfl : _ = 16) (fun c_n => absurd c_n (fun q => absurd ((nI_leI (by omega) (by omega)).mp q) (by omega))) (fun _ => ?_)
      refine V_aload_n Y.1 2 dX4_readNumber_16 (rfl : _ = 17) rfl rfl ?_
      refine V_aload_n Y.1 3 dX4_readNumber_17 (rfl : _ = 18) rfl rfl ?_
      refine V_cP Y (sV Z (c_X4_isDigitNext l D kA Hs σ _ hg r b v cap len n a1 g t K1 K2 K3 x hR hS ht hlen ha1 hbr hvr hrs) mi_X4_isDigitNext vi_X4_91 rfl hR.1 rfl rfl (Nat.le_of_ble_eq_true rfl) ⟨Nat.le_of_ble_eq_true rfl, Nat.le_of_ble_eq_true rfl⟩ (Nat.le_of_ble_eq_true rfl) (Nat.le_of_ble_eq_true rfl) dX4_readNumber_18) (rfl : _ = 21) ?_
      refine V_if_eq Y.1 (tgt := 66) dX4_readNumber_21 (by decide) (rfl : _ = 24) (fun c_21 => ?_) (fun c_21 => ?_)
      · have he8 : (a1, x) = fin := by rw [← he, q_digs, if_pos c_21]
        refine V_iload_n Y.1 1 dX4_readNumber_66 (rfl : _ = 67) rfl rfl ?_
        refine V_if_le Y.1 (tgt := 74) dX4_readNumber_67 (by decide) (rfl : _ = 70) (fun c_67 => ?_) (fun c_67 => ?_)
        · have j0 : j = 0 := by have := (nI_leI (b := 0) (by omega) (by decide)).mp c_67; omega
          refine V_iconst Y.1 (v := 0) dX4_readNumber_74 (rfl : _ = 75) (by decide) ?_
          obtain ⟨ea, ex⟩ := h0 j0
          have c9 : r_in (r_beh t len a) 48 57 = 0 := by rw [← ea]; exact c_21
          have en : q_num t len most 0 a = (1, a, 0) := by rw [q_num, if_neg (not_not_intro rfl), if_pos c9]
          exact V_ret Y.1 dX4_readNumber_75 rfl (Nat.le_of_ble_eq_true rfl) (Nat.le_of_ble_eq_true rfl) ⟨by rw [en]; rfl, x, by rw [en, ← ea]; exact hR, fun q => by rw [en] at q; exact absurd q (by show ¬ (1 : Nat) = 0; decide)⟩
        · have j0 : ¬ j = 0 := fun q => c_67 (by rw [q]; exact Int32.le_refl _)
          refine V_iconst Y.1 (v := 1) dX4_readNumber_70 (rfl : _ = 71) (by decide) ?_
          refine V_goto Y.1 (tgt := 75) dX4_readNumber_71 (by decide) ?_
          have en : q_num t len most 0 a = (0, fin) := by rw [q_num, if_neg (not_not_intro rfl), if_neg (h1 (by omega)), hfin]
          exact V_ret Y.1 dX4_readNumber_75 rfl (Nat.le_of_ble_eq_true rfl) (Nat.le_of_ble_eq_true rfl) ⟨by rw [en]; rfl, x, by rw [en, ← he8]; exact hR, fun _ => by rw [en, ← he8]⟩
      · have hlt : a1 < len := r_beh_lt fun q => c_21 (by rw [q]; decide)
        obtain ⟨q9, hq9, hgq9, htq9⟩ := ht a1 hlt
        have hd0 : ¬ r_in (r_beh t len a) 48 57 = 0 := by
          by_cases j0 : j = 0
          · rw [← (h0 j0).1]; exact c_21
          · exact h1 (by omega)
        refine V_aload_n Y.1 2 dX4_readNumber_24 (rfl : _ = 25) rfl rfl ?_
        refine V_aload_n Y.1 2 dX4_readNumber_25 (rfl : _ = 26) rfl rfl ?_
        refine V_get Y.1 fi_X4_84 hR.1 rfl dX4_readNumber_26 (rfl : _ = 29) ?_
        refine V_bipush Y.1 (v := 10) dX4_readNumber_29 (rfl : _ = 31) (by decide) ?_
        refine V_imul Y.1 dX4_readNumber_31 (rfl : _ = 32) ?_
        refine V_aload_n Y.1 3 dX4_readNumber_32 (rfl : _ = 33) rfl rfl ?_
        refine V_aload_n Y.1 2 dX4_readNumber_33 (rfl : _ = 34) rfl rfl ?_
        refine V_get Y.1 fi_X4_25 hR.1 rfl dX4_readNumber_34 (rfl : _ = 37) ?_
        refine V_cP Y (sV Z (c_J4_charAt_5068e l D kA Hs σ _ hg b v cap len g a1 q9 hlt hq9 hgq9 hS) mi_J4_charAt_5068e vi_X4_42 rfl hS.1.choose_spec rfl rfl (Nat.le_of_ble_eq_true rfl) ⟨Nat.le_of_ble_eq_true rfl, Nat.le_of_ble_eq_true rfl⟩ (Nat.le_of_ble_eq_true rfl) (Nat.le_of_ble_eq_true rfl) dX4_readNumber_37) (rfl : _ = 40) ?_
        refine V_bipush Y.1 (v := 48) dX4_readNumber_40 (rfl : _ = 42) (by decide) ?_
        refine V_isub Y.1 dX4_readNumber_42 (rfl : _ = 43) ?_
        refine V_iadd Y.1 dX4_readNumber_43 (rfl : _ = 44) ?_
        refine V_nm (v := 10 * x + t a1 - 48) (by rw [htq9, Int32.mul_comm, Int32.sub_eq_add_neg, Int32.sub_eq_add_neg, Int32.add_assoc]) ?_
        refine V_put Y.1 fi_X4_84 fw_X4 rfl rfl hR.1 (Or.inl ⟨by omega, by omega⟩) rfl rfl (Nat.le_of_ble_eq_true rfl) dX4_readNumber_44 (rfl : _ = 47) (fun H44_36 h_new o_44 => ?_)
        have hR := hR.f5 o_44 h_new
        have hS := hS.put o_44 (by omega) (by omega)
        have hg := hg.put o_44 (by omega)
        clear h_new
        refine V_aload_n Y.1 2 dX4_readNumber_47 (rfl : _ = 48) rfl rfl ?_
        refine V_dup Y.1 dX4_readNumber_48 (rfl : _ = 49) rfl ?_
        refine V_get Y.1 fi_X4_25 hR.1 rfl dX4_readNumber_49 (rfl : _ = 52) ?_
        refine V_iconst Y.1 (v := 1) dX4_readNumber_52 (rfl : _ = 53) (by decide) ?_
        refine V_iadd Y.1 dX4_readNumber_53 (rfl : _ = 54) ?_
        refine V_nm (v := nI (a1 + 1)) (nI_1 _) ?_
        refine V_put Y.1 fi_X4_25 fw_X4 rfl rfl hR.1 (Or.inl ⟨by omega, by omega⟩) rfl rfl (Nat.le_of_ble_eq_true rfl) dX4_readNumber_54 (rfl : _ = 57) (fun H54_47 h_new o_54 => ?_)
        have hR := hR.f4 o_54 h_new
        have hS := hS.put o_54 (by omega) (by omega)
        have hg := hg.put o_54 (by omega)
        clear h_new
        refine V_iinc Y.1 (v := nI (j + 1)) (ls' := [(3, _), (4, _), (0, _), (1, _), (2, _)]) 1 dX4_readNumber_57 (rfl : _ = 60) rfl (nI_1 _) (by decide) rfl ?_
        refine V_iinc Y.1 (v := nI (j + 1)) (ls' := [(4, _), (3, _), (0, _), (1, _), (2, _)]) 1 dX4_readNumber_60 (rfl : _ = 63) rfl (nI_1 _) (by decide) rfl ?_
        refine V_goto Y.1 (tgt := 10) dX4_readNumber_63 (by decide) ?_
        exact ih (j + 1) (a1 + 1) _ _ (by omega) hlt (fun q => absurd q (Nat.succ_ne_zero j)) (fun _ => hd0) (by rw [← he, q_digs, if_neg c_21]) hR hS hg
  refine V_iconst Y.1 (v := 0) dX4_readNumber_0 (rfl : _ = 1) (by decide) ?_
  refine V_istore_n Y.1 (ls' := [(3, _), (0, _), (1, _), (2, _)]) dX4_readNumber_1 (rfl : _ = 2) rfl (by decide) rfl ?_
  refine V_aload_n Y.1 1 dX4_readNumber_2 (rfl : _ = 3) rfl rfl ?_
  refine V_iconst Y.1 (v := 0) dX4_readNumber_3 (rfl : _ = 4) (by decide) ?_
  refine V_put Y.1 fi_X4_84 fw_X4 rfl rfl hR.1 (Or.inl ⟨by omega, by omega⟩) rfl rfl (Nat.le_of_ble_eq_true rfl) dX4_readNumber_4 (rfl : _ = 7) (fun H4_4 h_new o_4 => ?_)
  have hR := hR.f5 o_4 h_new
  have hS := hS.put o_4 (by omega) (by omega)
  have hg := hg.put o_4 (by omega)
  clear h_new
  refine V_iconst Y.1 (v := 0) dX4_readNumber_7 (rfl : _ = 8) (by decide) ?_
  refine V_istore Y.1 (ls' := [(4, _), (3, _), (0, _), (1, _), (2, _)]) dX4_readNumber_8 (rfl : _ = 10) (by decide) rfl ?_
  exact lp most 0 a 0 _ (by omega) ha (fun _ => ⟨rfl, rfl⟩) (fun q => absurd q (by omega)) hfin hR hS hg

set_option maxRecDepth 100000 in
set_option maxHeartbeats 4000000 in
theorem c_X4_keep (l : Launch) (D : va_G) (kA : Nat → ClassId) (Hs : Heap) (σ : SG) (H0 : Heap) (hg : Ag Hs H0) (r b v cap len n a : Nat) (g t K1 K2 K3 : Nat → Int32) (y : Int32) (k f s : Int32) (hn : n < 10) (hR : Rd D kA H0 r K1 K2 K3 n a y) (hS : Sb D kA H0 b v cap len g) (ht : Tx g t len) (hlen : len ≤ 60) (ha : a ≤ len) (hbr : b < r ∨ r + 4 ≤ b) (hvr : v < r ∨ r + 4 ≤ v) (hrs : Hs.size ≤ r)  : CtS l D kA Hs σ yX4_keep cX4_keep 4 (some .boolean) 0 0 0 0 H0 [.ref r, .int k, .int f, .int s] (blk r 4) (pI fun v9 H => v9 = 1 ∧ Rd D kA H r (upd K1 n k) (upd K2 n f) (upd K3 n s) (n + 1) a y) := by
  refine CtS.of mi_X4_keep (Nat.le_of_ble_eq_true rfl) (ls0 := [(0, _), (1, _), (2, _), (3, _)]) rfl hg (fun q z => Nat.le_trans hrs z.1) ?_
  intro Pp Ee Ss Mm Ar Bl Me Cc Z hs hnm
  have Y := Z.1
  refine V_aload_n Y.1 0 dX4_keep_0 (rfl : _ = 1) rfl rfl ?_
  refine V_get Y.1 fi_X4_21 hR.1 rfl dX4_keep_1 (rfl : _ = 4) ?_
  refine V_bipush Y.1 (v := 10) dX4_keep_4 (rfl : _ = 6) (by decide) ?_
  refine V_icmp_lt Y.1 (tgt := 11) dX4_keep_6 (by decide) (rfl : _ = 9) (fun _ => ?_) (fun c_n => absurd (nI_lt (b := 10) (by omega) (by decide)) c_n)
  refine V_aload_n Y.1 0 dX4_keep_11 (rfl : _ = 12) rfl rfl ?_
  refine V_get Y.1 fi_X4_9 hR.1 rfl dX4_keep_12 (rfl : _ = 15) ?_
  refine V_aload_n Y.1 0 dX4_keep_15 (rfl : _ = 16) rfl rfl ?_
  refine V_get Y.1 fi_X4_21 hR.1 rfl dX4_keep_16 (rfl : _ = 19) ?_
  refine V_iload_n Y.1 1 dX4_keep_19 (rfl : _ = 20) rfl rfl ?_
  refine V_iast Y.1 hR.2.1 (Or.inl ⟨by omega, by omega⟩) (vp_in_nI (by omega) (by decide)) dX4_keep_20 (rfl : _ = 21) (fun H20_9 h_new o_20 => ?_)
  rw [nI_clamp (by omega)] at h_new
  have hR := hR.a1 o_20 h_new
  have hS := hS.put o_20 (by omega) (by omega)
  have hg := hg.put o_20 (by omega)
  clear h_new
  refine V_aload_n Y.1 0 dX4_keep_21 (rfl : _ = 22) rfl rfl ?_
  refine V_get Y.1 fi_X4_15 hR.1 rfl dX4_keep_22 (rfl : _ = 25) ?_
  refine V_aload_n Y.1 0 dX4_keep_25 (rfl : _ = 26) rfl rfl ?_
  refine V_get Y.1 fi_X4_21 hR.1 rfl dX4_keep_26 (rfl : _ = 29) ?_
  refine V_iload_n Y.1 2 dX4_keep_29 (rfl : _ = 30) rfl rfl ?_
  refine V_iast Y.1 hR.2.2.1 (Or.inl ⟨by omega, by omega⟩) (vp_in_nI (by omega) (by decide)) dX4_keep_30 (rfl : _ = 31) (fun H30_20 h_new o_30 => ?_)
  rw [nI_clamp (by omega)] at h_new
  have hR := hR.a2 o_30 h_new
  have hS := hS.put o_30 (by omega) (by omega)
  have hg := hg.put o_30 (by omega)
  clear h_new
  refine V_aload_n Y.1 0 dX4_keep_31 (rfl : _ = 32) rfl rfl ?_
  refine V_get Y.1 fi_X4_18 hR.1 rfl dX4_keep_32 (rfl : _ = 35) ?_
  refine V_aload_n Y.1 0 dX4_keep_35 (rfl : _ = 36) rfl rfl ?_
  refine V_get Y.1 fi_X4_21 hR.1 rfl dX4_keep_36 (rfl : _ = 39) ?_
  refine V_iload_n Y.1 3 dX4_keep_39 (rfl : _ = 40) rfl rfl ?_
  refine V_iast Y.1 hR.2.2.2 (Or.inl ⟨by omega, by omega⟩) (vp_in_nI (by omega) (by decide)) dX4_keep_40 (rfl : _ = 41) (fun H40_31 h_new o_40 => ?_)
  rw [nI_clamp (by omega)] at h_new
  have hR := hR.a3 o_40 h_new
  have hS := hS.put o_40 (by omega) (by omega)
  have hg := hg.put o_40 (by omega)
  clear h_new
  refine V_aload_n Y.1 0 dX4_keep_41 (rfl : _ = 42) rfl rfl ?_
  refine V_dup Y.1 dX4_keep_42 (rfl : _ = 43) rfl ?_
  refine V_get Y.1 fi_X4_21 hR.1 rfl dX4_keep_43 (rfl : _ = 46) ?_
  refine V_iconst Y.1 (v := 1) dX4_keep_46 (rfl : _ = 47) (by decide) ?_
  refine V_iadd Y.1 dX4_keep_47 (rfl : _ = 48) ?_
  refine V_nm (v := nI (n + 1)) (nI_1 _) ?_
  refine V_put Y.1 fi_X4_21 fw_X4 rfl rfl hR.1 (Or.inl ⟨by omega, by omega⟩) rfl rfl (Nat.le_of_ble_eq_true rfl) dX4_keep_48 (rfl : _ = 51) (fun H48_43 h_new o_48 => ?_)
  have hR := hR.f3 o_48 h_new
  have hS := hS.put o_48 (by omega) (by omega)
  have hg := hg.put o_48 (by omega)
  clear h_new
  refine V_iconst Y.1 (v := 1) dX4_keep_51 (rfl : _ = 52) (by decide) ?_
  exact V_ret Y.1 dX4_keep_52 rfl (Nat.le_of_ble_eq_true rfl) (Nat.le_of_ble_eq_true rfl) ⟨rfl, hR⟩

set_option maxRecDepth 100000 in
set_option maxHeartbeats 4000000 in
theorem c_X4_init (l : Launch) (D : va_G) (kA : Nat → ClassId) (H0 : Heap) (r : Nat) (fs : List Value) (h0 : hp D H0 r (eO 8 fs)) (hf : fs = [.null, .null, .null, .int 0, .int 0, .int 0]) (hsz : H0.size = r + 1)  : Ct l D kA yX4_init cX4_init 1 none 1 24 3 30 H0 [.ref r] (blk r 4) (pV fun H => Rd D kA H r (fun _ => 0) (fun _ => 0) (fun _ => 0) 0 0 0 ∧ H.size = r + 4) := by
  refine Ct.of mi_X4_init (Nat.le_of_ble_eq_true rfl) (ls0 := [(0, _)]) rfl ?_
  intro Pp Ee Ss Mm Ar Bl Me Cc Y hs hnm
  subst hf
  have sz : H0.size = r + 1 := hsz
  refine V_aload_n Y.1 0 dX4_init_0 (rfl : _ = 1) rfl rfl ?_
  refine V_objInit Y.1 ow_X4_3 dX4_init_1 (rfl : _ = 4) (Nat.le_of_ble_eq_true rfl) (Nat.le_of_ble_eq_true rfl) (Nat.le_of_ble_eq_true rfl) (Nat.le_of_ble_eq_true rfl) ?_
  refine V_aload_n Y.1 0 dX4_init_4 (rfl : _ = 5) rfl rfl ?_
  refine V_bipush Y.1 (v := 10) dX4_init_5 (rfl : _ = 7) (by decide) ?_
  refine V_newI Y.1 (N := 10) ac_int (by decide) (by decide) (Nat.le_of_ble_eq_true rfl) (Nat.le_of_ble_eq_true rfl) (Nat.le_of_ble_eq_true rfl) dX4_init_7 (rfl : _ = 9) (fun H7_4 q_7 eq_7 z_7 h_new o_7 => ?_)
  have e_q7 : q_7 = r + 1 := eq_7.trans sz
  have sz : Array.size H7_4 = r + 1 + 1 := by rw [z_7, e_q7]
  have h0 := h0.off o_7 id
  have hk1 := h_new
  refine V_putF Y.1 fi_X4_9 fw_X4 rfl (by rw [hnm]; rfl) rfl rfl h0 (Or.inl ⟨by omega, by omega⟩) rfl rfl (Nat.le_of_ble_eq_true rfl) dX4_init_9 (rfl : _ = 12) (fun H9_9 h_new o_9 => ?_)
  have h0 : hp D _ _ (.inr (8, [_, _, _, _, _, _])) := h_new
  have hk1 := hk1.sto o_9 (by omega)
  have sz : Array.size H9_9 = r + 1 + 1 := o_9.1.trans sz
  clear h_new
  refine V_aload_n Y.1 0 dX4_init_12 (rfl : _ = 13) rfl rfl ?_
  refine V_bipush Y.1 (v := 10) dX4_init_13 (rfl : _ = 15) (by decide) ?_
  refine V_newI Y.1 (N := 10) ac_int (by decide) (by decide) (Nat.le_of_ble_eq_true rfl) (Nat.le_of_ble_eq_true rfl) (Nat.le_of_ble_eq_true rfl) dX4_init_15 (rfl : _ = 17) (fun H15_16 q_15 eq_15 z_15 h_new o_15 => ?_)
  have e_q15 : q_15 = r + 1 + 1 := eq_15.trans sz
  have sz : Array.size H15_16 = r + 1 + 1 + 1 := by rw [z_15, e_q15]
  have h0 := h0.off o_15 id
  have hk1 := hk1.off o_15 id
  have hk2 := h_new
  refine V_putF Y.1 fi_X4_15 fw_X4 rfl (by rw [hnm]; rfl) rfl rfl h0 (Or.inl ⟨by omega, by omega⟩) rfl rfl (Nat.le_of_ble_eq_true rfl) dX4_init_17 (rfl : _ = 20) (fun H17_22 h_new o_17 => ?_)
  have h0 : hp D _ _ (.inr (8, [_, _, _, _, _, _])) := h_new
  have hk1 := hk1.sto o_17 (by omega)
  have hk2 := hk2.sto o_17 (by omega)
  have sz : Array.size H17_22 = r + 1 + 1 + 1 := o_17.1.trans sz
  clear h_new
  refine V_aload_n Y.1 0 dX4_init_20 (rfl : _ = 21) rfl rfl ?_
  refine V_bipush Y.1 (v := 10) dX4_init_21 (rfl : _ = 23) (by decide) ?_
  refine V_newI Y.1 (N := 10) ac_int (by decide) (by decide) (Nat.le_of_ble_eq_true rfl) (Nat.le_of_ble_eq_true rfl) (Nat.le_of_ble_eq_true rfl) dX4_init_23 (rfl : _ = 25) (fun H23_30 q_23 eq_23 z_23 h_new o_23 => ?_)
  have e_q23 : q_23 = r + 1 + 1 + 1 := eq_23.trans sz
  have sz : Array.size H23_30 = r + 1 + 1 + 1 + 1 := by rw [z_23, e_q23]
  have h0 := h0.off o_23 id
  have hk1 := hk1.off o_23 id
  have hk2 := hk2.off o_23 id
  have hk3 := h_new
  refine V_putF Y.1 fi_X4_18 fw_X4 rfl (by rw [hnm]; rfl) rfl rfl h0 (Or.inl ⟨by omega, by omega⟩) rfl rfl (Nat.le_of_ble_eq_true rfl) dX4_init_25 (rfl : _ = 28) (fun H25_37 h_new o_25 => ?_)
  have h0 : hp D _ _ (.inr (8, [_, _, _, _, _, _])) := h_new
  have hk1 := hk1.sto o_25 (by omega)
  have hk2 := hk2.sto o_25 (by omega)
  have hk3 := hk3.sto o_25 (by omega)
  have sz : Array.size H25_37 = r + 1 + 1 + 1 + 1 := o_25.1.trans sz
  clear h_new
  exact V_retV Y.1 dX4_init_28 (Nat.le_of_ble_eq_true rfl) (Nat.le_of_ble_eq_true rfl) ⟨⟨by rw [e_q7, e_q15, e_q23] at h0; exact h0, by rw [e_q7] at hk1; exact hk1, by rw [e_q15] at hk2; exact hk2, by rw [e_q23] at hk3; exact hk3⟩, sz⟩

set_option maxRecDepth 100000 in
set_option maxHeartbeats 4000000 in
theorem c_X4_readWord (l : Launch) (D : va_G) (kA : Nat → ClassId) (Hs : Heap) (σ : SG) (H0 : Heap) (hg : Ag Hs H0) (r b v cap len n a : Nat) (g t K1 K2 K3 : Nat → Int32) (y : Int32) (x : String × Nat × String) (hx : x ∈ wL) (hR : Rd D kA H0 r K1 K2 K3 n a y) (hS : Sb D kA H0 b v cap len g) (ht : Tx g t len) (hlen : len ≤ 60) (ha : a ≤ len) (hbr : b < r ∨ r + 4 ≤ b) (hvr : v < r ∨ r + 4 ≤ v) (hrs : Hs.size ≤ r)  : CtS l D kA Hs σ yX4_readWord cX4_readWord 4 (some .boolean) 5 110 0 0 H0 [.ref r, .ref b, .ref (σ x.1 x.2.1).1] (blk r 4) (pI fun v9 H => v9 = (if (q_skip t len (byt x.2.2) (0, a)).1 = 0 then 1 else 0) ∧ Rd D kA H r K1 K2 K3 n (q_skip t len (byt x.2.2) (0, a)).2 y) := by
  refine CtS.of mi_X4_readWord (Nat.le_of_ble_eq_true rfl) (ls0 := [(0, _), (1, _), (2, _)]) rfl hg (fun q z => Nat.le_trans hrs z.1) ?_
  intro Pp Ee Ss Mm Ar Bl Me Cc Z hs hnm
  have Y := Z.1
  obtain ⟨fin, hfin⟩ : ∃ z, z = q_skip t len (byt x.2.2) (0, a) := ⟨_, rfl⟩
  rw [← hfin]
  have hwb := wL_ok x hx
  have lp : ∀ (m k a : Nat) (H : Heap), k + m = (byt x.2.2).length → a ≤ len → q_skip t len ((byt x.2.2).drop k) (0, a) = fin → Rd D kA H r K1 K2 K3 n a y → Sb D kA H b v cap len g → Ag Hs H → V Pp l Ee (rmO 5 110 0 0) Ss Mm Ar Bl Me Cc 4 (AA H0 (blk r 4)) (QC Bl Ar Ss 0 0 H0 (blk r 4) (pI fun v9 H => v9 = (if fin.1 = 0 then 1 else 0) ∧ Rd D kA H r K1 K2 K3 n fin.2 y)) H 0 0 2 [(3, .int (nI k)), (0, .ref r), (1, .ref b), (2, .ref (σ x.1 x.2.1).1)] [] := by
    clear hR hS hg ha
    intro m
    induction m with
    | zero =>
      intro k a H hk ha he hR hS hg
      refine V_iload_n Y.1 0 dX4_readWord_2 (rfl : _ = 3) rfl rfl ?_
      refine V_aload_n Y.1 3 dX4_readWord_3 (rfl : _ = 4) rfl rfl ?_
      refine V_cP Y (sVL Z (c_J0_length_8abf5 l D kA Hs σ _ hg x hx) mi_J0_length_8abf5 vi_X4_87 (rcvL Z hx hg) rfl rfl (Nat.le_of_ble_eq_true rfl) ⟨Nat.le_of_ble_eq_true rfl, Nat.le_of_ble_eq_true rfl⟩ (Nat.le_of_ble_eq_true rfl) (Nat.le_of_ble_eq_true rfl) dX4_readWord_4) (rfl : _ = 7) ?_
      refine V_icmp_ge Y.1 (tgt := 31) dX4_readWord_7 (by decide) (rfl : _ = 10) (fun _ => ?_) (fun c_n => absurd ((nI_leI (by omega) (by omega)).mpr (by omega)) c_n)
      refine V_iconst Y.1 (v := 1) dX4_readWord_31 (rfl : _ = 32) (by decide) ?_
      exact V_ret Y.1 dX4_readWord_32 rfl (Nat.le_of_ble_eq_true rfl) (Nat.le_of_ble_eq_true rfl) (by rw [List.drop_eq_nil_iff.mpr (by omega)] at he; have he : ((0 : Nat), a) = fin := he; rw [← he]; exact ⟨rfl, hR⟩)
    | succ m ih =>
      intro k a H hk ha he hR hS hg
      have hdr : (byt x.2.2).drop k = (byt x.2.2).getD k 0 :: (byt x.2.2).drop (k + 1) := by
        rw [List.drop_eq_getElem_cons (by omega), List.getD_eq_getElem?_getD, List.getElem?_eq_getElem (by omega)]
        rfl
      rw [hdr, q_skip, if_neg (not_not_intro rfl)] at he
      have hch : ¬ (byt x.2.2).getD k 0 = -1 := fun q => by
        have := (hwb.2 k (by omega)).1
        rw [q] at this
        exact absurd this (by decide)
      refine V_iload_n Y.1 0 dX4_readWord_2 (rfl : _ = 3) rfl rfl ?_
      refine V_aload_n Y.1 3 dX4_readWord_3 (rfl : _ = 4) rfl rfl ?_
      refine V_cP Y (sVL Z (c_J0_length_8abf5 l D kA Hs σ _ hg x hx) mi_J0_length_8abf5 vi_X4_87 (rcvL Z hx hg) rfl rfl (Nat.le_of_ble_eq_true rfl) ⟨Nat.le_of_ble_eq_true rfl, Nat.le_of_ble_eq_true rfl⟩ (Nat.le_of_ble_eq_true rfl) (Nat.le_of_ble_eq_true rfl) dX4_readWord_4) (rfl : _ = 7) ?_
      refine V_icmp_ge Y.1 (tgt := 31) dX4_readWord_7 (by decide) (rfl : _ = 10) (fun c_n => absurd c_n (fun q => absurd ((nI_leI (by omega) (by omega)).mp q) (by omega))) (fun _ => ?_)
      refine V_aload_n Y.1 1 dX4_readWord_10 (rfl : _ = 11) rfl rfl ?_
      refine V_aload_n Y.1 2 dX4_readWord_11 (rfl : _ = 12) rfl rfl ?_
      refine V_aload_n Y.1 3 dX4_readWord_12 (rfl : _ = 13) rfl rfl ?_
      refine V_iload_n Y.1 0 dX4_readWord_13 (rfl : _ = 14) rfl rfl ?_
      refine V_cP Y (sVL Z (c_J0_charAt_5068e l D kA Hs σ _ hg x hx k (by omega)) mi_J0_charAt_5068e vi_X4_90 (rcvL Z hx hg) rfl rfl (Nat.le_of_ble_eq_true rfl) ⟨Nat.le_of_ble_eq_true rfl, Nat.le_of_ble_eq_true rfl⟩ (Nat.le_of_ble_eq_true rfl) (Nat.le_of_ble_eq_true rfl) dX4_readWord_14) (rfl : _ = 17) ?_
      refine V_cI Y (sV Z (c_X4_readSign l D kA Hs σ _ hg r b v cap len n a g t K1 K2 K3 y _ hch hR hS ht hlen ha hbr hvr hrs) mi_X4_readSign vi_X4_38 rfl hR.1 rfl rfl (Nat.le_of_ble_eq_true rfl) ⟨Nat.le_of_ble_eq_true rfl, Nat.le_of_ble_eq_true rfl⟩ (Nat.le_of_ble_eq_true rfl) (Nat.le_of_ble_eq_true rfl) dX4_readWord_17) (fun q hq => Or.inl (blk_sub (by omega) (by omega) q hq)) (rfl : _ = 20) (fun v_17 H17_9 hq_17 o_17 => ?_)
      obtain ⟨e17, hR⟩ := hq_17
      have hS := hS.off o_17 (by unfold blk; omega) (by unfold blk; omega)
      have hg := hg.keep o_17 (fun q z => Nat.le_trans hrs z.1)
      refine V_if_ne Y.1 (tgt := 25) dX4_readWord_20 (by decide) (rfl : _ = 23) (fun c_20 => ?_) (fun c_20 => ?_)
      · have c8 : r_beh t len a = (byt x.2.2).getD k 0 := Decidable.byContradiction fun q => c_20 (by rw [e17, if_neg q])
        rw [if_pos c8] at hR he
        refine V_iinc Y.1 (v := nI (k + 1)) (ls' := [(3, _), (0, _), (1, _), (2, _)]) 0 dX4_readWord_25 (rfl : _ = 28) rfl (nI_1 _) (by decide) rfl ?_
        refine V_goto Y.1 (tgt := 2) dX4_readWord_28 (by decide) ?_
        exact ih (k + 1) (a + 1) _ (by omega) (r_beh_lt (by rw [c8]; exact hch)) he hR hS hg
      · have c8 : ¬ r_beh t len a = (byt x.2.2).getD k 0 := fun q => by rw [e17, if_pos q] at c_20; exact absurd c_20 (by decide)
        rw [if_neg c8] at hR he
        refine V_iconst Y.1 (v := 0) dX4_readWord_23 (rfl : _ = 24) (by decide) ?_
        exact V_ret Y.1 dX4_readWord_24 rfl (Nat.le_of_ble_eq_true rfl) (Nat.le_of_ble_eq_true rfl) (by rw [← he]; exact ⟨rfl, hR⟩)
  refine V_iconst Y.1 (v := 0) dX4_readWord_0 (rfl : _ = 1) (by decide) ?_
  refine V_istore_n Y.1 (ls' := [(3, _), (0, _), (1, _), (2, _)]) dX4_readWord_1 (rfl : _ = 2) rfl (by decide) rfl ?_
  exact lp (byt x.2.2).length 0 a _ (by omega) ha (by rw [List.drop_zero]; exact hfin.symm) hR hS hg
