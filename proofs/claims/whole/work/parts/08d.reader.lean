section RSD
variable {D : va_G} {kA : Nat → ClassId} {H : Heap} {o w a n w1 a1 n1 : Nat} {F s b v p u t c c1 : Nat → Int32}
theorem Rs.d12 (h : Rs D kA H o (upd (r_rd F w a n) 12 (nI w1)) s b v p u t c) : Rs D kA H o (r_rd F w1 a n) s b v p u t c := rd12 (F := F) ▸ h
theorem Rs.d11 (h : Rs D kA H o (upd (r_rd F w a n) 11 (nI a1)) s b v p u t c) : Rs D kA H o (r_rd F w a1 n) s b v p u t c := rd11 (F := F) ▸ h
theorem Rs.d16 (h : Rs D kA H o (upd (r_rd F w a n) 16 (nI n1)) s b v p u t c) : Rs D kA H o (r_rd F w a n1) s b v p u t c := rd16 (F := F) ▸ h
theorem Rs.cmd {q : RK} (h : Rs D kA H o (r_rd F w a n) s b v p u t c) (e : q = (w, a, n, c)) : Rs D kA H o (r_rd F q.1 q.2.1 q.2.2.1) s b v p u t q.2.2.2 := by subst e; exact h
end RSD
theorem q_skip_w {t : Nat → Int32} {len : Nat} {L : List Int32} {z : Nat × Nat} (h : ¬ z.1 = 0) : q_skip t len L z = z := by
  cases L with
  | nil => rfl
  | cons x L => exact if_pos h
set_option maxRecDepth 100000 in
set_option maxHeartbeats 4000000 in
theorem c_X6_behind (l : Launch) (D : va_G) (kA : Nat → ClassId) (H0 : Heap) (o : Nat) (F s b v p u t c : Nat → Int32) (w a n len : Nat)  (hM : Rs D kA H0 o (r_rd F w a n) s b v p u t c) (hl : F 10 = nI len) (hlen : len ≤ 60) (ha : a ≤ len) (hw : w < 2)  : Ct l D kA yX6_behind cX6_behind 1 (some .int) 0 0 0 0 H0 [.ref o] (nof) (pI fun v9 H => v9 = r_beh t len a ∧ H = H0) := by
  refine Ct.of mi_X6_behind (Nat.le_of_ble_eq_true rfl) (ls0 := [(0, _)]) rfl ?_
  intro Pp Ee Ss Mm Ar Bl Me Cc Y hs hnm
  refine V_aload_n Y.1 0 dX6_behind_0 (rfl : _ = 1) rfl rfl ?_
  refine V_get Y.1 fi_X6_198 hM.1 rfl dX6_behind_1 (rfl : _ = 4) ?_
  refine V_nm (v := nI a) rfl ?_
  refine V_aload_n Y.1 0 dX6_behind_4 (rfl : _ = 5) rfl rfl ?_
  refine V_get Y.1 fi_X6_195 hM.1 rfl dX6_behind_5 (rfl : _ = 8) ?_
  refine V_nm (v := nI len) hl ?_
  refine V_icmp_ge Y.1 (tgt := 23) dX6_behind_8 (by decide) (rfl : _ = 11) (fun c_8 => ?_) (fun c_8 => ?_)
  · have c8 : ¬ a < len := fun q => absurd ((nI_leI (by omega) (by omega)).mp c_8) (by omega)
    refine V_iconst Y.1 (v := -1) dX6_behind_23 (rfl : _ = 24) (by decide) ?_
    exact V_ret Y.1 dX6_behind_24 rfl (Nat.le_of_ble_eq_true rfl) (Nat.le_of_ble_eq_true rfl) ⟨by simp [r_beh, c8], rfl⟩
  · have c8 : a < len := Nat.not_le.mp fun q => c_8 ((nI_leI (by omega) (by omega)).mpr q)
    refine V_aload_n Y.1 0 dX6_behind_11 (rfl : _ = 12) rfl rfl ?_
    refine V_get Y.1 fi_X6_26 hM.1 rfl dX6_behind_12 (rfl : _ = 15) ?_
    refine V_aload_n Y.1 0 dX6_behind_15 (rfl : _ = 16) rfl rfl ?_
    refine V_get Y.1 fi_X6_198 hM.1 rfl dX6_behind_16 (rfl : _ = 19) ?_
    refine V_nm (v := nI a) rfl ?_
    refine V_cald Y.1 (v := t a) hM.2.2.2.2.2.2.1 (by first | assumption | exact vp_in_nI (by omega) (by omega)) (by rw [nI_clamp (by omega)]) dX6_behind_19 (rfl : _ = 20) ?_
    refine V_goto Y.1 (tgt := 24) dX6_behind_20 (by decide) ?_
    exact V_ret Y.1 dX6_behind_24 rfl (Nat.le_of_ble_eq_true rfl) (Nat.le_of_ble_eq_true rfl) ⟨by simp [r_beh, c8], rfl⟩

set_option maxRecDepth 100000 in
set_option maxHeartbeats 4000000 in
theorem c_X6_isDigit (l : Launch) (D : va_G) (kA : Nat → ClassId) (H0 : Heap) (o : Nat) (F s b v p u t c : Nat → Int32) (w a n len : Nat)  (hM : Rs D kA H0 o (r_rd F w a n) s b v p u t c) (hl : F 10 = nI len) (hlen : len ≤ 60) (ha : a ≤ len) (hw : w < 2)  : Ct l D kA yX6_isDigit cX6_isDigit 1 (some .boolean) 1 22 0 0 H0 [.ref o] (nof) (pI fun v9 H => v9 = (if w = 0 then r_in (r_beh t len a) 48 57 else 0) ∧ H = H0) := by
  refine Ct.of mi_X6_isDigit (Nat.le_of_ble_eq_true rfl) (ls0 := [(0, _)]) rfl ?_
  intro Pp Ee Ss Mm Ar Bl Me Cc Y hs hnm
  refine V_aload_n Y.1 0 dX6_isDigit_0 (rfl : _ = 1) rfl rfl ?_
  refine V_get Y.1 fi_X6_205 hM.1 rfl dX6_isDigit_1 (rfl : _ = 4) ?_
  refine V_nm (v := nI w) rfl ?_
  refine V_if_ne Y.1 (tgt := 25) dX6_isDigit_4 (by decide) (rfl : _ = 7) (fun c_4 => ?_) (fun c_4 => ?_)
  · have c0 : ¬ w = 0 := fun q => c_4 (by rw [q]; rfl)
    refine V_iconst Y.1 (v := 0) dX6_isDigit_25 (rfl : _ = 26) (by decide) ?_
    exact V_ret Y.1 dX6_isDigit_26 rfl (Nat.le_of_ble_eq_true rfl) (Nat.le_of_ble_eq_true rfl) ⟨by simp [*], rfl⟩
  · have c0 : w = 0 := (nI_eq (b := 0) (by omega) (by decide)).mp c_4
    refine V_aload_n Y.1 0 dX6_isDigit_7 (rfl : _ = 8) rfl rfl ?_
    refine V_cP Y (rV Y (c_X6_behind l D kA _ o F _ _ _ _ _ _ _ w a (n) len hM hl hlen ha hw) mi_X6_behind vi_X6_209 rfl hM.1 rfl rfl (Nat.le_of_ble_eq_true rfl) ⟨Nat.le_of_ble_eq_true rfl, Nat.le_of_ble_eq_true rfl⟩ (Nat.le_of_ble_eq_true rfl) (Nat.le_of_ble_eq_true rfl) dX6_isDigit_8) (rfl : _ = 11) ?_
    refine V_bipush Y.1 (v := 48) dX6_isDigit_11 (rfl : _ = 13) (by decide) ?_
    refine V_bipush Y.1 (v := 57) dX6_isDigit_13 (rfl : _ = 15) (by decide) ?_
    refine V_cP Y (rS Y (c_X6_in l D kA _ _ _ _) mi_X6_in si_X6_51 rfl rfl (Nat.le_of_ble_eq_true rfl) ⟨Nat.le_of_ble_eq_true rfl, Nat.le_of_ble_eq_true rfl⟩ (Nat.le_of_ble_eq_true rfl) (Nat.le_of_ble_eq_true rfl) dX6_isDigit_15) (rfl : _ = 18) ?_
    refine V_if_eq Y.1 (tgt := 25) dX6_isDigit_18 (by decide) (rfl : _ = 21) (fun c_18 => ?_) (fun c_18 => ?_)
    · refine V_iconst Y.1 (v := 0) dX6_isDigit_25 (rfl : _ = 26) (by decide) ?_
      exact V_ret Y.1 dX6_isDigit_26 rfl (Nat.le_of_ble_eq_true rfl) (Nat.le_of_ble_eq_true rfl) ⟨by simp [*], rfl⟩
    · have c18 := (r_in_01 _ _ _).resolve_left c_18
      refine V_iconst Y.1 (v := 1) dX6_isDigit_21 (rfl : _ = 22) (by decide) ?_
      refine V_goto Y.1 (tgt := 26) dX6_isDigit_22 (by decide) ?_
      exact V_ret Y.1 dX6_isDigit_26 rfl (Nat.le_of_ble_eq_true rfl) (Nat.le_of_ble_eq_true rfl) ⟨by simp [*], rfl⟩

set_option maxRecDepth 100000 in
set_option maxHeartbeats 4000000 in
theorem c_X6_readNumber (l : Launch) (D : va_G) (kA : Nat → ClassId) (H0 : Heap) (o : Nat) (F s b v p u t c : Nat → Int32) (w a n len : Nat) (most : Nat) (hmo : most < 10) (hM : Rs D kA H0 o (r_rd F w a n) s b v p u t c) (hl : F 10 = nI len) (hlen : len ≤ 60) (ha : a ≤ len) (hw : w < 2)  : Ct l D kA yX6_readNumber cX6_readNumber 4 (some .int) 2 42 0 0 H0 [.ref o, .int (nI most)] (blk o 8) (pI fun v9 H => v9 = (q_num t len most w a).2.2 ∧ Rs D kA H o (r_rd F (q_num t len most w a).1 (q_num t len most w a).2.1 n) s b v p u t c) := by
  refine Ct.of mi_X6_readNumber (Nat.le_of_ble_eq_true rfl) (ls0 := [(0, _), (1, _)]) rfl ?_
  intro Pp Ee Ss Mm Ar Bl Me Cc Y hs hnm
  refine V_aload_n Y.1 0 dX6_readNumber_0 (rfl : _ = 1) rfl rfl ?_
  refine V_aload_n Y.1 0 dX6_readNumber_1 (rfl : _ = 2) rfl rfl ?_
  refine V_get Y.1 fi_X6_205 hM.1 rfl dX6_readNumber_2 (rfl : _ = 5) ?_
  refine V_nm (v := nI w) rfl ?_
  refine V_if_ne Y.1 (tgt := 15) dX6_readNumber_5 (by decide) (rfl : _ = 8) (fun c_5 => ?_) (fun c_5 => ?_)
  · have c0 : ¬ w = 0 := fun q => c_5 (by rw [q]; rfl)
    refine V_iconst Y.1 (v := 1) dX6_readNumber_15 (rfl : _ = 16) (by decide) ?_
    refine V_goto Y.1 (tgt := 20) dX6_readNumber_16 (by decide) ?_
    refine V_put Y.1 fi_X6_205 fw_X6 rfl rfl hM.1 (Or.inl ⟨by omega, by omega⟩) rfl rfl (Nat.le_of_ble_eq_true rfl) dX6_readNumber_20 (rfl : _ = 23) (fun H20_8 h_new o_20 => ?_)
    have hM := hM.f12 o_20 h_new
    clear h_new
    have hM := Rs.d12 (w1 := 1) hM
    refine V_iconst Y.1 (v := 0) dX6_readNumber_23 (rfl : _ = 24) (by decide) ?_
    refine V_istore_n Y.1 (ls' := [(2, _), (0, _), (1, _)]) dX6_readNumber_24 (rfl : _ = 25) rfl (by decide) rfl ?_
    refine V_iconst Y.1 (v := 0) dX6_readNumber_25 (rfl : _ = 26) (by decide) ?_
    refine V_istore_n Y.1 (ls' := [(3, _), (2, _), (0, _), (1, _)]) dX6_readNumber_26 (rfl : _ = 27) rfl (by decide) rfl ?_
    have e9 : q_num t len most w a = (1, a, 0) := if_pos c0
    refine V_iload_n Y.1 0 dX6_readNumber_27 (rfl : _ = 28) rfl rfl ?_
    refine V_iload_n Y.1 3 dX6_readNumber_28 (rfl : _ = 29) rfl rfl ?_
    refine V_icmp_ge Y.1 (tgt := 73) dX6_readNumber_29 (by decide) (rfl : _ = 32) (fun c_29 => ?_) (fun c_29 => ?_)
    · refine V_iload_n Y.1 1 dX6_readNumber_73 (rfl : _ = 74) rfl rfl ?_
      exact V_ret Y.1 dX6_readNumber_74 rfl (Nat.le_of_ble_eq_true rfl) (Nat.le_of_ble_eq_true rfl) ⟨by rw [e9], by rw [e9]; exact hM⟩
    · refine V_aload_n Y.1 2 dX6_readNumber_32 (rfl : _ = 33) rfl rfl ?_
      refine V_cP Y (rV Y (c_X6_isDigit l D kA _ o F _ _ _ _ _ _ _ 1 a (n) len hM hl hlen ha (by decide)) mi_X6_isDigit vi_X6_216 rfl hM.1 rfl rfl (Nat.le_of_ble_eq_true rfl) ⟨Nat.le_of_ble_eq_true rfl, Nat.le_of_ble_eq_true rfl⟩ (Nat.le_of_ble_eq_true rfl) (Nat.le_of_ble_eq_true rfl) dX6_readNumber_33) (rfl : _ = 36) ?_
      refine V_if_eq Y.1 (tgt := 73) dX6_readNumber_36 (by decide) (rfl : _ = 39) (fun _ => ?_) (fun c_n => absurd rfl c_n)
      refine V_iload_n Y.1 1 dX6_readNumber_73 (rfl : _ = 74) rfl rfl ?_
      exact V_ret Y.1 dX6_readNumber_74 rfl (Nat.le_of_ble_eq_true rfl) (Nat.le_of_ble_eq_true rfl) ⟨by rw [e9], by rw [e9]; exact hM⟩
  · have c0 : w = 0 := (nI_eq (b := 0) (by omega) (by decide)).mp c_5
    refine V_aload_n Y.1 0 dX6_readNumber_8 (rfl : _ = 9) rfl rfl ?_
    refine V_cP Y (rV Y (c_X6_isDigit l D kA _ o F _ _ _ _ _ _ _ w a (n) len hM hl hlen ha hw) mi_X6_isDigit vi_X6_216 rfl hM.1 rfl rfl (Nat.le_of_ble_eq_true rfl) ⟨Nat.le_of_ble_eq_true rfl, Nat.le_of_ble_eq_true rfl⟩ (Nat.le_of_ble_eq_true rfl) (Nat.le_of_ble_eq_true rfl) dX6_readNumber_9) (rfl : _ = 12) ?_
    refine V_if_ne Y.1 (tgt := 19) dX6_readNumber_12 (by decide) (rfl : _ = 15) (fun c_12 => ?_) (fun c_12 => ?_)
    · refine V_iconst Y.1 (v := 0) dX6_readNumber_19 (rfl : _ = 20) (by decide) ?_
      refine V_put Y.1 fi_X6_205 fw_X6 rfl rfl hM.1 (Or.inl ⟨by omega, by omega⟩) rfl rfl (Nat.le_of_ble_eq_true rfl) dX6_readNumber_20 (rfl : _ = 23) (fun H20_22 h_new o_20 => ?_)
      have hM := hM.f12 o_20 h_new
      clear h_new
      have hM := Rs.d12 (w1 := 0) hM
      refine V_iconst Y.1 (v := 0) dX6_readNumber_23 (rfl : _ = 24) (by decide) ?_
      refine V_istore_n Y.1 (ls' := [(2, _), (0, _), (1, _)]) dX6_readNumber_24 (rfl : _ = 25) rfl (by decide) rfl ?_
      refine V_iconst Y.1 (v := 0) dX6_readNumber_25 (rfl : _ = 26) (by decide) ?_
      refine V_istore_n Y.1 (ls' := [(3, _), (2, _), (0, _), (1, _)]) dX6_readNumber_26 (rfl : _ = 27) rfl (by decide) rfl ?_
      have c12 : ¬ r_in (r_beh t len a) 48 57 = 0 := by simpa [c0] using c_12
      have e9 : q_num t len most w a = (0, q_digs t len most (a, 0)) := by rw [q_num, if_neg (not_not_intro c0), if_neg c12]
      have lp : ∀ (r k a1 : Nat) (x : Int32) (H : Heap), k + r = most → a1 ≤ len → q_digs t len r (a1, x) = q_digs t len most (a, 0) → Rs D kA H o (r_rd F 0 a1 n) s b v p u t c → V Pp l Ee (rmO 2 42 0 0) Ss Mm Ar Bl Me Cc 4 (AA H0 (blk o 8)) (QC Bl Ar Ss 0 0 H0 (blk o 8) (pI fun v9 H => v9 = (q_num t len most w a).2.2 ∧ Rs D kA H o (r_rd F (q_num t len most w a).1 (q_num t len most w a).2.1 n) s b v p u t c)) H 0 0 27 [(3, .int (nI k)), (2, .int x), (0, .ref o), (1, .int (nI most))] [] := by
        intro r
        induction r with
        | zero =>
          intro k a1 x H hk ha1 he hM
          obtain rfl : k = most := by omega
          refine V_iload_n Y.1 0 dX6_readNumber_27 (rfl : _ = 28) rfl rfl ?_
          refine V_iload_n Y.1 3 dX6_readNumber_28 (rfl : _ = 29) rfl rfl ?_
          refine V_icmp_ge Y.1 (tgt := 73) dX6_readNumber_29 (by decide) (rfl : _ = 32) (fun _ => ?_) (fun c_n => absurd (by simp (disch := omega) only [Int32.lt_iff_toInt_lt, Int32.le_iff_toInt_le, ge_iff_le, gt_iff_lt, nI_toInt, Int32.reduceToInt] ; omega) c_n)
          refine V_iload_n Y.1 1 dX6_readNumber_73 (rfl : _ = 74) rfl rfl ?_
          exact V_ret Y.1 dX6_readNumber_74 rfl (Nat.le_of_ble_eq_true rfl) (Nat.le_of_ble_eq_true rfl) ⟨by rw [e9, ← he]; rfl, by rw [e9, ← he]; exact hM⟩
        | succ r ih =>
          intro k a1 x H hk ha1 he hM
          refine V_iload_n Y.1 0 dX6_readNumber_27 (rfl : _ = 28) rfl rfl ?_
          refine V_iload_n Y.1 3 dX6_readNumber_28 (rfl : _ = 29) rfl rfl ?_
          refine V_icmp_ge Y.1 (tgt := 73) dX6_readNumber_29 (by decide) (rfl : _ = 32) (fun c_n => absurd c_n (by simp (disch := omega) only [Int32.lt_iff_toInt_lt, Int32.le_iff_toInt_le, ge_iff_le, gt_iff_lt, nI_toInt, Int32.reduceToInt] ; omega)) (fun _ => ?_)
          refine V_aload_n Y.1 2 dX6_readNumber_32 (rfl : _ = 33) rfl rfl ?_
          refine V_cP Y (rV Y (c_X6_isDigit l D kA _ o F _ _ _ _ _ _ _ 0 a1 (n) len hM hl hlen ha1 (by decide)) mi_X6_isDigit vi_X6_216 rfl hM.1 rfl rfl (Nat.le_of_ble_eq_true rfl) ⟨Nat.le_of_ble_eq_true rfl, Nat.le_of_ble_eq_true rfl⟩ (Nat.le_of_ble_eq_true rfl) (Nat.le_of_ble_eq_true rfl) dX6_readNumber_33) (rfl : _ = 36) ?_
          refine V_if_eq Y.1 (tgt := 73) dX6_readNumber_36 (by decide) (rfl : _ = 39) (fun c_36 => ?_) (fun c_36 => ?_)
          · have c36 : r_in (r_beh t len a1) 48 57 = 0 := by simpa using c_36
            have e8 : q_digs t len most (a, 0) = (a1, x) := by rw [← he, q_digs, if_pos c36]
            refine V_iload_n Y.1 1 dX6_readNumber_73 (rfl : _ = 74) rfl rfl ?_
            exact V_ret Y.1 dX6_readNumber_74 rfl (Nat.le_of_ble_eq_true rfl) (Nat.le_of_ble_eq_true rfl) ⟨by rw [e9, e8], by rw [e9, e8]; exact hM⟩
          · have c36 : ¬ r_in (r_beh t len a1) 48 57 = 0 := by simpa using c_36
            have hlt : a1 < len := r_beh_lt fun q => c36 (by rw [q]; decide)
            refine V_bipush Y.1 (v := 10) dX6_readNumber_39 (rfl : _ = 41) (by decide) ?_
            refine V_iload_n Y.1 1 dX6_readNumber_41 (rfl : _ = 42) rfl rfl ?_
            refine V_imul Y.1 dX6_readNumber_42 (rfl : _ = 43) ?_
            refine V_aload_n Y.1 2 dX6_readNumber_43 (rfl : _ = 44) rfl rfl ?_
            refine V_get Y.1 fi_X6_26 hM.1 rfl dX6_readNumber_44 (rfl : _ = 47) ?_
            refine V_aload_n Y.1 2 dX6_readNumber_47 (rfl : _ = 48) rfl rfl ?_
            refine V_get Y.1 fi_X6_198 hM.1 rfl dX6_readNumber_48 (rfl : _ = 51) ?_
            refine V_nm (v := nI a1) rfl ?_
            refine V_cald Y.1 (v := t a1) hM.2.2.2.2.2.2.1 (by first | assumption | exact vp_in_nI (by omega) (by omega)) (by rw [nI_clamp (by omega)]) dX6_readNumber_51 (rfl : _ = 52) ?_
            refine V_iadd Y.1 dX6_readNumber_52 (rfl : _ = 53) ?_
            refine V_bipush Y.1 (v := 48) dX6_readNumber_53 (rfl : _ = 55) (by decide) ?_
            refine V_isub Y.1 dX6_readNumber_55 (rfl : _ = 56) ?_
            refine V_istore_n Y.1 (ls' := [(2, _), (3, _), (0, _), (1, _)]) dX6_readNumber_56 (rfl : _ = 57) rfl (by decide) rfl ?_
            refine V_aload_n Y.1 2 dX6_readNumber_57 (rfl : _ = 58) rfl rfl ?_
            refine V_dup Y.1 dX6_readNumber_58 (rfl : _ = 59) rfl ?_
            refine V_get Y.1 fi_X6_198 hM.1 rfl dX6_readNumber_59 (rfl : _ = 62) ?_
            refine V_nm (v := nI a1) rfl ?_
            refine V_iconst Y.1 (v := 1) dX6_readNumber_62 (rfl : _ = 63) (by decide) ?_
            refine V_iadd Y.1 dX6_readNumber_63 (rfl : _ = 64) ?_
            refine V_nm (v := nI (a1 + 1)) (nI_1 _) ?_
            refine V_put Y.1 fi_X6_198 fw_X6 rfl rfl hM.1 (Or.inl ⟨by omega, by omega⟩) rfl rfl (Nat.le_of_ble_eq_true rfl) dX6_readNumber_64 (rfl : _ = 67) (fun H64_32 h_new o_64 => ?_)
            have hM := hM.f11 o_64 h_new
            clear h_new
            have hM := Rs.d11 (a1 := a1 + 1) hM
            refine V_iinc Y.1 (v := nI (k + 1)) (ls' := [(3, _), (2, _), (0, _), (1, _)]) 1 dX6_readNumber_67 (rfl : _ = 70) rfl (nI_1 _) (by decide) rfl ?_
            refine V_goto Y.1 (tgt := 27) dX6_readNumber_70 (by decide) ?_
            exact ih (k + 1) (a1 + 1) _ _ (by omega) hlt (by rw [← he, q_digs, if_neg c36]) hM
      exact lp most 0 a 0 _ (by omega) ha rfl hM
    · refine V_iconst Y.1 (v := 1) dX6_readNumber_15 (rfl : _ = 16) (by decide) ?_
      refine V_goto Y.1 (tgt := 20) dX6_readNumber_16 (by decide) ?_
      refine V_put Y.1 fi_X6_205 fw_X6 rfl rfl hM.1 (Or.inl ⟨by omega, by omega⟩) rfl rfl (Nat.le_of_ble_eq_true rfl) dX6_readNumber_20 (rfl : _ = 23) (fun H20_33 h_new o_20 => ?_)
      have hM := hM.f12 o_20 h_new
      clear h_new
      have hM := Rs.d12 (w1 := 1) hM
      refine V_iconst Y.1 (v := 0) dX6_readNumber_23 (rfl : _ = 24) (by decide) ?_
      refine V_istore_n Y.1 (ls' := [(2, _), (0, _), (1, _)]) dX6_readNumber_24 (rfl : _ = 25) rfl (by decide) rfl ?_
      refine V_iconst Y.1 (v := 0) dX6_readNumber_25 (rfl : _ = 26) (by decide) ?_
      refine V_istore_n Y.1 (ls' := [(3, _), (2, _), (0, _), (1, _)]) dX6_readNumber_26 (rfl : _ = 27) rfl (by decide) rfl ?_
      have c12 : r_in (r_beh t len a) 48 57 = 0 := by simpa [c0] using c_12
      have e9 : q_num t len most w a = (1, a, 0) := by rw [q_num, if_neg (not_not_intro c0), if_pos c12]
      refine V_iload_n Y.1 0 dX6_readNumber_27 (rfl : _ = 28) rfl rfl ?_
      refine V_iload_n Y.1 3 dX6_readNumber_28 (rfl : _ = 29) rfl rfl ?_
      refine V_icmp_ge Y.1 (tgt := 73) dX6_readNumber_29 (by decide) (rfl : _ = 32) (fun c_29 => ?_) (fun c_29 => ?_)
      · refine V_iload_n Y.1 1 dX6_readNumber_73 (rfl : _ = 74) rfl rfl ?_
        exact V_ret Y.1 dX6_readNumber_74 rfl (Nat.le_of_ble_eq_true rfl) (Nat.le_of_ble_eq_true rfl) ⟨by rw [e9], by rw [e9]; exact hM⟩
      · refine V_aload_n Y.1 2 dX6_readNumber_32 (rfl : _ = 33) rfl rfl ?_
        refine V_cP Y (rV Y (c_X6_isDigit l D kA _ o F _ _ _ _ _ _ _ 1 a (n) len hM hl hlen ha (by decide)) mi_X6_isDigit vi_X6_216 rfl hM.1 rfl rfl (Nat.le_of_ble_eq_true rfl) ⟨Nat.le_of_ble_eq_true rfl, Nat.le_of_ble_eq_true rfl⟩ (Nat.le_of_ble_eq_true rfl) (Nat.le_of_ble_eq_true rfl) dX6_readNumber_33) (rfl : _ = 36) ?_
        refine V_if_eq Y.1 (tgt := 73) dX6_readNumber_36 (by decide) (rfl : _ = 39) (fun _ => ?_) (fun c_n => absurd rfl c_n)
        refine V_iload_n Y.1 1 dX6_readNumber_73 (rfl : _ = 74) rfl rfl ?_
        exact V_ret Y.1 dX6_readNumber_74 rfl (Nat.le_of_ble_eq_true rfl) (Nat.le_of_ble_eq_true rfl) ⟨by rw [e9], by rw [e9]; exact hM⟩

set_option maxRecDepth 100000 in
set_option maxHeartbeats 4000000 in
theorem c_X6_skip (l : Launch) (D : va_G) (kA : Nat → ClassId) (Hs : Heap) (σ : SG) (H0 : Heap) (hg : Ag Hs H0) (o : Nat) (F s b v p u t c : Nat → Int32) (w a n len : Nat) (x : String × Nat × String) (hx : x ∈ wL) (hM : Rs D kA H0 o (r_rd F w a n) s b v p u t c) (hl : F 10 = nI len) (hlen : len ≤ 60) (ha : a ≤ len) (hw : w < 2) (hb0 : Hs.size ≤ o) : CtS l D kA Hs σ yX6_skip cX6_skip 3 none 4 85 0 0 H0 [.ref o, .ref (σ x.1 x.2.1).1] (blk o 8) (pV fun H => Rs D kA H o (r_rd F (q_skip t len (byt x.2.2) (w, a)).1 (q_skip t len (byt x.2.2) (w, a)).2 n) s b v p u t c) := by
  refine CtS.of mi_X6_skip (Nat.le_of_ble_eq_true rfl) (ls0 := [(0, _), (1, _)]) rfl hg (fun q z => Nat.le_trans hb0 z.1) ?_
  intro Pp Ee Ss Mm Ar Bl Me Cc Z hs hnm
  have Y := Z.1
  obtain ⟨fin, hfin⟩ : ∃ z, z = q_skip t len (byt x.2.2) (w, a) := ⟨_, rfl⟩
  rw [← hfin]
  have hb := wL_ok x hx
  have lp : ∀ (r k w a : Nat) (H : Heap), k + r = (byt x.2.2).length → w < 2 → a ≤ len → q_skip t len ((byt x.2.2).drop k) (w, a) = fin → Rs D kA H o (r_rd F w a n) s b v p u t c → Ag Hs H → V Pp l Ee (rmO 4 85 0 0) Ss Mm Ar Bl Me Cc 3 (AA H0 (blk o 8)) (QC Bl Ar Ss 0 0 H0 (blk o 8) (pV fun H => Rs D kA H o (r_rd F fin.1 fin.2 n) s b v p u t c)) H 0 0 2 [(2, .int (nI k)), (0, .ref o), (1, .ref (σ x.1 x.2.1).1)] [] := by
    intro r
    induction r with
    | zero =>
      intro k w a H hk hw ha he hM hg
      refine V_iload_n Y.1 0 dX6_skip_2 (rfl : _ = 3) rfl rfl ?_
      refine V_aload_n Y.1 2 dX6_skip_3 (rfl : _ = 4) rfl rfl ?_
      refine V_cP Y (sVL Z (c_J0_length_8abf5 l D kA Hs σ _ hg x hx) mi_J0_length_8abf5 vi_X6_201 (rcvL Z hx hg) rfl rfl (Nat.le_of_ble_eq_true rfl) ⟨Nat.le_of_ble_eq_true rfl, Nat.le_of_ble_eq_true rfl⟩ (Nat.le_of_ble_eq_true rfl) (Nat.le_of_ble_eq_true rfl) dX6_skip_4) (rfl : _ = 7) ?_
      refine V_icmp_ge Y.1 (tgt := 65) dX6_skip_7 (by decide) (rfl : _ = 10) (fun _ => ?_) (fun c_n => absurd ((nI_leI (by omega) (by omega)).mpr (by omega)) c_n)
      exact V_retV Y.1 dX6_skip_65 (Nat.le_of_ble_eq_true rfl) (Nat.le_of_ble_eq_true rfl) (by rw [← he, List.drop_eq_nil_iff.mpr (by omega)]; exact hM)
    | succ r ih =>
      intro k w a H hk hw ha he hM hg
      have hdr : (byt x.2.2).drop k = (byt x.2.2).getD k 0 :: (byt x.2.2).drop (k + 1) := by
        rw [List.drop_eq_getElem_cons (by omega), List.getD_eq_getElem?_getD, List.getElem?_eq_getElem (by omega)]
        rfl
      rw [hdr, q_skip] at he
      have hch : ¬ (byt x.2.2).getD k 0 = -1 := fun q => by
        have := (hb.2 k (by omega)).1
        rw [q] at this
        exact absurd this (by decide)
      refine V_iload_n Y.1 0 dX6_skip_2 (rfl : _ = 3) rfl rfl ?_
      refine V_aload_n Y.1 2 dX6_skip_3 (rfl : _ = 4) rfl rfl ?_
      refine V_cP Y (sVL Z (c_J0_length_8abf5 l D kA Hs σ _ hg x hx) mi_J0_length_8abf5 vi_X6_201 (rcvL Z hx hg) rfl rfl (Nat.le_of_ble_eq_true rfl) ⟨Nat.le_of_ble_eq_true rfl, Nat.le_of_ble_eq_true rfl⟩ (Nat.le_of_ble_eq_true rfl) (Nat.le_of_ble_eq_true rfl) dX6_skip_4) (rfl : _ = 7) ?_
      refine V_icmp_ge Y.1 (tgt := 65) dX6_skip_7 (by decide) (rfl : _ = 10) (fun c_n => absurd c_n (fun q => absurd ((nI_leI (by omega) (by omega)).mp q) (by omega))) (fun _ => ?_)
      refine V_aload_n Y.1 1 dX6_skip_10 (rfl : _ = 11) rfl rfl ?_
      refine V_get Y.1 fi_X6_205 hM.1 rfl dX6_skip_11 (rfl : _ = 14) ?_
      refine V_nm (v := nI w) rfl ?_
      refine V_if_ne Y.1 (tgt := 65) dX6_skip_14 (by decide) (rfl : _ = 17) (fun c_14 => ?_) (fun c_14 => ?_)
      · have c0 : ¬ w = 0 := fun q => c_14 (by rw [q]; rfl)
        rw [if_pos c0] at he
        exact V_retV Y.1 dX6_skip_65 (Nat.le_of_ble_eq_true rfl) (Nat.le_of_ble_eq_true rfl) (by rw [← he]; exact hM)
      · have c0 : w = 0 := Decidable.byContradiction fun q => absurd c_14 (nI_ne0 (by omega) (by omega))
        refine V_aload_n Y.1 1 dX6_skip_17 (rfl : _ = 18) rfl rfl ?_
        refine V_aload_n Y.1 1 dX6_skip_18 (rfl : _ = 19) rfl rfl ?_
        refine V_cP Y (rV Y (c_X6_behind l D kA _ o F _ _ _ _ _ _ _ w a (n) len hM hl hlen ha hw) mi_X6_behind vi_X6_209 rfl hM.1 rfl rfl (Nat.le_of_ble_eq_true rfl) ⟨Nat.le_of_ble_eq_true rfl, Nat.le_of_ble_eq_true rfl⟩ (Nat.le_of_ble_eq_true rfl) (Nat.le_of_ble_eq_true rfl) dX6_skip_19) (rfl : _ = 22) ?_
        refine V_aload_n Y.1 2 dX6_skip_22 (rfl : _ = 23) rfl rfl ?_
        refine V_iload_n Y.1 0 dX6_skip_23 (rfl : _ = 24) rfl rfl ?_
        refine V_cP Y (sVL Z (c_J0_charAt_5068e l D kA Hs σ _ hg x hx k (by omega)) mi_J0_charAt_5068e vi_X6_212 (rcvL Z hx hg) rfl rfl (Nat.le_of_ble_eq_true rfl) ⟨Nat.le_of_ble_eq_true rfl, Nat.le_of_ble_eq_true rfl⟩ (Nat.le_of_ble_eq_true rfl) (Nat.le_of_ble_eq_true rfl) dX6_skip_24) (rfl : _ = 27) ?_
        refine V_icmp_eq Y.1 (tgt := 34) dX6_skip_27 (by decide) (rfl : _ = 30) (fun c_27 => ?_) (fun c_27 => ?_)
        · refine V_iconst Y.1 (v := 0) dX6_skip_34 (rfl : _ = 35) (by decide) ?_
          refine V_put Y.1 fi_X6_205 fw_X6 rfl rfl hM.1 (Or.inl ⟨by omega, by omega⟩) rfl rfl (Nat.le_of_ble_eq_true rfl) dX6_skip_35 (rfl : _ = 38) (fun H35_20 h_new o_35 => ?_)
          have hM := hM.f12 o_35 h_new
          have hg := hg.put o_35 (by omega)
          clear h_new
          have hM := Rs.d12 (w1 := 0) hM
          refine V_aload_n Y.1 1 dX6_skip_38 (rfl : _ = 39) rfl rfl ?_
          refine V_dup Y.1 dX6_skip_39 (rfl : _ = 40) rfl ?_
          refine V_get Y.1 fi_X6_198 hM.1 rfl dX6_skip_40 (rfl : _ = 43) ?_
          refine V_nm (v := nI a) rfl ?_
          refine V_aload_n Y.1 1 dX6_skip_43 (rfl : _ = 44) rfl rfl ?_
          refine V_get Y.1 fi_X6_205 hM.1 rfl dX6_skip_44 (rfl : _ = 47) ?_
          refine V_nm (v := nI 0) rfl ?_
          refine V_if_eq Y.1 (tgt := 54) dX6_skip_47 (by decide) (rfl : _ = 50) (fun _ => ?_) (fun c_n => absurd rfl c_n)
          refine V_iconst Y.1 (v := 1) dX6_skip_54 (rfl : _ = 55) (by decide) ?_
          refine V_iadd Y.1 dX6_skip_55 (rfl : _ = 56) ?_
          refine V_nm (v := nI (a + 1)) (nI_1 _) ?_
          refine V_put Y.1 fi_X6_198 fw_X6 rfl rfl hM.1 (Or.inl ⟨by omega, by omega⟩) rfl rfl (Nat.le_of_ble_eq_true rfl) dX6_skip_56 (rfl : _ = 59) (fun H56_36 h_new o_56 => ?_)
          have hM := hM.f11 o_56 h_new
          have hg := hg.put o_56 (by omega)
          clear h_new
          have hM := Rs.d11 (a1 := a + 1) hM
          refine V_iinc Y.1 (v := nI (k + 1)) (ls' := [(2, _), (0, _), (1, _)]) 0 dX6_skip_59 (rfl : _ = 62) rfl (nI_1 _) (by decide) rfl ?_
          refine V_goto Y.1 (tgt := 2) dX6_skip_62 (by decide) ?_
          exact ih (k + 1) 0 (a + 1) _ (by omega) (by decide) (r_beh_lt (by rw [c_27]; exact hch)) (by rw [← he, if_neg (not_not_intro c0), if_pos c_27]) hM hg
        · refine V_iconst Y.1 (v := 1) dX6_skip_30 (rfl : _ = 31) (by decide) ?_
          refine V_goto Y.1 (tgt := 35) dX6_skip_31 (by decide) ?_
          refine V_put Y.1 fi_X6_205 fw_X6 rfl rfl hM.1 (Or.inl ⟨by omega, by omega⟩) rfl rfl (Nat.le_of_ble_eq_true rfl) dX6_skip_35 (rfl : _ = 38) (fun H35_46 h_new o_35 => ?_)
          have hM := hM.f12 o_35 h_new
          have hg := hg.put o_35 (by omega)
          clear h_new
          have hM := Rs.d12 (w1 := 1) hM
          refine V_aload_n Y.1 1 dX6_skip_38 (rfl : _ = 39) rfl rfl ?_
          refine V_dup Y.1 dX6_skip_39 (rfl : _ = 40) rfl ?_
          refine V_get Y.1 fi_X6_198 hM.1 rfl dX6_skip_40 (rfl : _ = 43) ?_
          refine V_nm (v := nI a) rfl ?_
          refine V_aload_n Y.1 1 dX6_skip_43 (rfl : _ = 44) rfl rfl ?_
          refine V_get Y.1 fi_X6_205 hM.1 rfl dX6_skip_44 (rfl : _ = 47) ?_
          refine V_nm (v := nI 1) rfl ?_
          refine V_if_eq Y.1 (tgt := 54) dX6_skip_47 (by decide) (rfl : _ = 50) (fun c_n => absurd c_n (by decide)) (fun _ => ?_)
          refine V_iconst Y.1 (v := 0) dX6_skip_50 (rfl : _ = 51) (by decide) ?_
          refine V_goto Y.1 (tgt := 55) dX6_skip_51 (by decide) ?_
          refine V_iadd Y.1 dX6_skip_55 (rfl : _ = 56) ?_
          refine V_nm (v := nI a) (Int32.add_zero _) ?_
          refine V_put Y.1 fi_X6_198 fw_X6 rfl rfl hM.1 (Or.inl ⟨by omega, by omega⟩) rfl rfl (Nat.le_of_ble_eq_true rfl) dX6_skip_56 (rfl : _ = 59) (fun H56_63 h_new o_56 => ?_)
          have hM := hM.f11 o_56 h_new
          have hg := hg.put o_56 (by omega)
          clear h_new
          have hM := Rs.d11 (a1 := a) hM
          refine V_iinc Y.1 (v := nI (k + 1)) (ls' := [(2, _), (0, _), (1, _)]) 0 dX6_skip_59 (rfl : _ = 62) rfl (nI_1 _) (by decide) rfl ?_
          refine V_goto Y.1 (tgt := 2) dX6_skip_62 (by decide) ?_
          exact ih (k + 1) 1 a _ (by omega) (by decide) ha (by rw [← he, if_neg (not_not_intro c0), if_neg c_27]; exact q_skip_w (by show ¬ (1 : Nat) = 0; decide)) hM hg
  refine V_iconst Y.1 (v := 0) dX6_skip_0 (rfl : _ = 1) (by decide) ?_
  refine V_istore_n Y.1 (ls' := [(2, _), (0, _), (1, _)]) dX6_skip_1 (rfl : _ = 2) rfl (by decide) rfl ?_
  exact lp (byt x.2.2).length 0 w a _ (by omega) hw ha (by rw [List.drop_zero]; exact hfin.symm) hM hg

