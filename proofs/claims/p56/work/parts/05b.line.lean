/-- the first zones -/
def z_ini (i : Nat) : Nat → Int32 := fun j => if j < i then nI (j / 2 + 1) else 0
theorem z_ini_succ {i : Nat} (hi : i < 2 ^ 30) : upd (z_ini i) i (nI i / 2 + 1) = z_ini (i + 1) := by
  have e : nI i / 2 = nI (i / 2) := pk_div (d := 2) (by omega) (by decide) (by decide)
  rw [e, nI_1]
  funext j
  unfold upd z_ini
  by_cases h : j = i
  · subst h; simp
  · by_cases h2 : j < i
    · rw [if_neg h, if_pos h2, if_pos (by omega)]
    · rw [if_neg h, if_neg h2, if_neg (by omega)]
def b_st (x : Int32) : Int32 := if x < 0 then 0 else if 12 ≤ x then 0 else 1
set_option maxRecDepth 100000 in
set_option maxHeartbeats 4000000 in
theorem c_X2_init (l : Launch) (D : va_G) (kA : Nat → ClassId) (H0 : Heap) (a : Nat) (fs : List Value) (h0 : hp D H0 a (eO 6 fs)) (hf : fs.length = 4) (hsz : H0.size = a + 1) : Ct l D kA yX2_init cX2_init 2 none 1 24 2 24 H0 [.ref a] (blk a 3) (pV fun H => Ln D kA H a (z_ini 12) (fun _ => 0) 200 50 ∧ H.size = a + 3) := by
  refine Ct.of mi_X2_init (Nat.le_of_ble_eq_true rfl) (ls0 := [(0, _)]) rfl ?_
  intro Pp Ee Ss Mm Ar Bl Me Cc Y hs hnm
  obtain ⟨f0, f1, f2, f3, rfl⟩ : ∃ f0 f1 f2 f3, fs = [f0, f1, f2, f3] := by
    match fs, hf with
    | [f0, f1, f2, f3], _ => exact ⟨f0, f1, f2, f3, rfl⟩
  have sz : H0.size = H0.size := rfl
  refine V_aload_n Y.1 0 dX2_init_0 (rfl : _ = 1) rfl rfl ?_
  refine V_objInit Y.1 ow_X2_3 dX2_init_1 (rfl : _ = 4) (Nat.le_of_ble_eq_true rfl) (Nat.le_of_ble_eq_true rfl) (Nat.le_of_ble_eq_true rfl) (Nat.le_of_ble_eq_true rfl) ?_
  refine V_aload_n Y.1 0 dX2_init_4 (rfl : _ = 5) rfl rfl ?_
  refine V_bipush Y.1 (v := 12) dX2_init_5 (rfl : _ = 7) (by decide) ?_
  refine V_newI Y.1 (N := 12) ac_int (by decide) (by decide) (Nat.le_of_ble_eq_true rfl) (Nat.le_of_ble_eq_true rfl) (Nat.le_of_ble_eq_true rfl) dX2_init_7 (rfl : _ = 9) (fun H7_4 q_7 eq_7 z_7 h_new o_7 => ?_)
  have e_q7 : q_7 = H0.size := eq_7.trans sz
  have sz : Array.size H7_4 = H0.size + 1 := by rw [z_7, e_q7]
  have h0 := h0.off o_7 id
  have hz := h_new
  have sz1 := z_7
  obtain rfl : q_7 = a + 1 := by omega
  refine V_putF Y.1 fi_X2_9 fw_X2 rfl (by rw [hnm]; rfl) rfl rfl h0 (Or.inl ⟨by omega, by omega⟩) rfl rfl (Nat.le_of_ble_eq_true rfl) dX2_init_9 (rfl : _ = 12) (fun H9_11 h_new o_9 => ?_)
  have h0 : hp D _ _ (.inr (6, [_, _, _, _])) := h_new
  have hz := hz.sto o_9 (by omega)
  have sz : Array.size H9_11 = H0.size + 1 := o_9.1.trans sz
  clear h_new
  refine V_aload_n Y.1 0 dX2_init_12 (rfl : _ = 13) rfl rfl ?_
  refine V_bipush Y.1 (v := 12) dX2_init_13 (rfl : _ = 15) (by decide) ?_
  refine V_newI Y.1 (N := 12) ac_int (by decide) (by decide) (Nat.le_of_ble_eq_true rfl) (Nat.le_of_ble_eq_true rfl) (Nat.le_of_ble_eq_true rfl) dX2_init_15 (rfl : _ = 17) (fun H15_18 q_15 eq_15 z_15 h_new o_15 => ?_)
  have e_q15 : q_15 = H0.size + 1 := eq_15.trans sz
  have sz : Array.size H15_18 = H0.size + 1 + 1 := by rw [z_15, e_q15]
  have h0 := h0.off o_15 id
  have hz := hz.off o_15 id
  have ht := h_new
  have z9 := o_9.1
  obtain rfl : q_15 = a + 2 := by omega
  have sz2 := z_15
  refine V_putF Y.1 fi_X2_15 fw_X2 rfl (by rw [hnm]; rfl) rfl rfl h0 (Or.inl ⟨by omega, by omega⟩) rfl rfl (Nat.le_of_ble_eq_true rfl) dX2_init_17 (rfl : _ = 20) (fun H17_27 h_new o_17 => ?_)
  have h0 : hp D _ _ (.inr (6, [_, _, _, _])) := h_new
  have hz := hz.sto o_17 (by omega)
  have ht := ht.sto o_17 (by omega)
  have sz : Array.size H17_27 = H0.size + 1 + 1 := o_17.1.trans sz
  clear h_new
  refine V_iconst Y.1 (v := 0) dX2_init_20 (rfl : _ = 21) (by decide) ?_
  refine V_istore_n Y.1 (ls' := [(1, _), (0, _)]) dX2_init_21 (rfl : _ = 22) rfl (by decide) rfl ?_
  have sz : _ = a + 3 := sz2
  rw [← o_17.1] at sz
  have lp : ∀ (n i : Nat) (H : Heap), i + n = 12 → H.size = a + 3 → hp D H a (eO 6 [.ref (a + 1), .ref (a + 2), f2, f3]) → hp D H (a + 1) (eI kA 12 (z_ini i)) → hp D H (a + 2) (eI kA 12 (fun _ => 0)) → V Pp l Ee (rmO 1 24 2 24) Ss Mm Ar Bl Me Cc 2 (AA H0 (blk a 3)) (QC Bl Ar Ss 2 24 H0 (blk a 3) (pV fun H => Ln D kA H a (z_ini 12) (fun _ => 0) 200 50 ∧ H.size = a + 3)) H 2 24 22 [(1, .int (nI i)), (0, .ref a)] [] := by
    intro n
    induction n with
    | zero =>
      intro i H hi sz h0 hz ht
      obtain rfl : i = 12 := by omega
      refine V_iload_n Y.1 0 dX2_init_22 (rfl : _ = 23) rfl rfl ?_
      refine V_bipush Y.1 (v := 12) dX2_init_23 (rfl : _ = 25) (by decide) ?_
      refine V_icmp_ge Y.1 (tgt := 45) dX2_init_25 (by decide) (rfl : _ = 28) (fun _ => ?_) (fun c_n => absurd (by simp (disch := omega) only [Int32.lt_iff_toInt_lt, Int32.le_iff_toInt_le, ge_iff_le, gt_iff_lt, nI_toInt, Int32.reduceToInt] ; omega) c_n)
      refine V_aload_n Y.1 1 dX2_init_45 (rfl : _ = 46) rfl rfl ?_
      refine V_sipush Y.1 (v := 200) dX2_init_46 (rfl : _ = 49) (by decide) ?_
      refine V_put Y.1 fi_X2_18 fw_X2 rfl rfl h0 (Or.inl ⟨by omega, by omega⟩) rfl rfl (Nat.le_of_ble_eq_true rfl) dX2_init_49 (rfl : _ = 52) (fun H49_5 h_new o_49 => ?_)
      have h0 : hp D _ _ (.inr (6, [_, _, _, _])) := h_new
      have hz := hz.sto o_49 (by omega)
      have ht := ht.sto o_49 (by omega)
      clear h_new
      refine V_aload_n Y.1 1 dX2_init_52 (rfl : _ = 53) rfl rfl ?_
      refine V_bipush Y.1 (v := 50) dX2_init_53 (rfl : _ = 55) (by decide) ?_
      refine V_put Y.1 fi_X2_22 fw_X2 rfl rfl h0 (Or.inl ⟨by omega, by omega⟩) rfl rfl (Nat.le_of_ble_eq_true rfl) dX2_init_55 (rfl : _ = 58) (fun H55_12 h_new o_55 => ?_)
      have h0 : hp D _ _ (.inr (6, [_, _, _, _])) := h_new
      have hz := hz.sto o_55 (by omega)
      have ht := ht.sto o_55 (by omega)
      clear h_new
      exact V_retV Y.1 dX2_init_58 (Nat.le_of_ble_eq_true rfl) (Nat.le_of_ble_eq_true rfl) ⟨⟨h0, hz, ht⟩, by rw [o_55.1, o_49.1]; exact sz⟩
    | succ n ih =>
      intro i H hi sz h0 hz ht
      refine V_iload_n Y.1 0 dX2_init_22 (rfl : _ = 23) rfl rfl ?_
      refine V_bipush Y.1 (v := 12) dX2_init_23 (rfl : _ = 25) (by decide) ?_
      refine V_icmp_ge Y.1 (tgt := 45) dX2_init_25 (by decide) (rfl : _ = 28) (fun c_n => absurd c_n (by simp (disch := omega) only [Int32.lt_iff_toInt_lt, Int32.le_iff_toInt_le, ge_iff_le, gt_iff_lt, nI_toInt, Int32.reduceToInt] ; omega)) (fun _ => ?_)
      refine V_aload_n Y.1 1 dX2_init_28 (rfl : _ = 29) rfl rfl ?_
      refine V_get Y.1 fi_X2_9 h0 rfl dX2_init_29 (rfl : _ = 32) ?_
      refine V_iload_n Y.1 0 dX2_init_32 (rfl : _ = 33) rfl rfl ?_
      refine V_iload_n Y.1 0 dX2_init_33 (rfl : _ = 34) rfl rfl ?_
      refine V_iconst Y.1 (v := 2) dX2_init_34 (rfl : _ = 35) (by decide) ?_
      refine V_idiv Y.1 dX2_init_35 (rfl : _ = 36) (by decide) ?_
      refine V_iconst Y.1 (v := 1) dX2_init_36 (rfl : _ = 37) (by decide) ?_
      refine V_iadd Y.1 dX2_init_37 (rfl : _ = 38) ?_
      refine V_iast Y.1 hz (Or.inl ⟨by omega, by omega⟩) (by first | assumption | exact vp_in_nI (by omega) (by omega)) dX2_init_38 (rfl : _ = 39) (fun H38_11 h_new o_38 => ?_)
      have hz := h_new
      have h0 := h0.sto o_38 (by omega)
      have ht := ht.sto o_38 (by omega)
      clear h_new
      refine V_iinc Y.1 (v := nI (i + 1)) (ls' := [(1, _), (0, _)]) 0 dX2_init_39 (rfl : _ = 42) rfl (nI_1 i) (by decide) rfl ?_
      
      refine V_goto Y.1 (tgt := 22) dX2_init_42 (by decide) ?_
      exact ih (i + 1) _ (by omega) (by rw [o_38.1]; exact sz) h0 (by rw [nI_clamp (by omega), z_ini_succ (by omega)] at hz; exact hz) ht
  exact lp 12 0 _ rfl sz h0 (by have e : z_ini 0 = fun _ => 0 := (by funext j; simp [z_ini]); rw [e]; exact hz) ht

set_option maxRecDepth 100000 in
set_option maxHeartbeats 4000000 in
theorem c_X2_hasStation (l : Launch) (D : va_G) (kA : Nat → ClassId) (H0 : Heap) (x : Int32)  : Ct l D kA yX2_hasStation cX2_hasStation 1 (some .boolean) 0 0 0 0 H0 [.int x] (nof) (pI fun v H => v = b_st x ∧ H = H0) := by
  refine Ct.of mi_X2_hasStation (Nat.le_of_ble_eq_true rfl) (ls0 := [(0, _)]) rfl ?_
  intro Pp Ee Ss Mm Ar Bl Me Cc Y hs hnm
  have sz : H0.size = H0.size := rfl
  refine V_iload_n Y.1 0 dX2_hasStation_0 (rfl : _ = 1) rfl rfl ?_
  refine V_if_lt Y.1 (tgt := 14) dX2_hasStation_1 (by decide) (rfl : _ = 4) (fun c_1 => ?_) (fun c_1 => ?_)
  · refine V_iconst Y.1 (v := 0) dX2_hasStation_14 (rfl : _ = 15) (by decide) ?_
    exact V_ret Y.1 dX2_hasStation_15 rfl (Nat.le_of_ble_eq_true rfl) (Nat.le_of_ble_eq_true rfl) ⟨by simp [b_st, *], rfl⟩
  · refine V_iload_n Y.1 0 dX2_hasStation_4 (rfl : _ = 5) rfl rfl ?_
    refine V_bipush Y.1 (v := 12) dX2_hasStation_5 (rfl : _ = 7) (by decide) ?_
    refine V_icmp_ge Y.1 (tgt := 14) dX2_hasStation_7 (by decide) (rfl : _ = 10) (fun c_7 => ?_) (fun c_7 => ?_)
    · refine V_iconst Y.1 (v := 0) dX2_hasStation_14 (rfl : _ = 15) (by decide) ?_
      exact V_ret Y.1 dX2_hasStation_15 rfl (Nat.le_of_ble_eq_true rfl) (Nat.le_of_ble_eq_true rfl) ⟨by simp [b_st, *], rfl⟩
    · refine V_iconst Y.1 (v := 1) dX2_hasStation_10 (rfl : _ = 11) (by decide) ?_
      refine V_goto Y.1 (tgt := 15) dX2_hasStation_11 (by decide) ?_
      exact V_ret Y.1 dX2_hasStation_15 rfl (Nat.le_of_ble_eq_true rfl) (Nat.le_of_ble_eq_true rfl) ⟨by simp [b_st, *], rfl⟩

set_option maxRecDepth 100000 in
set_option maxHeartbeats 4000000 in
theorem c_X2_copyFrom (l : Launch) (D : va_G) (kA : Nat → ClassId) (H0 : Heap) (a : Nat) (z t : Nat → Int32) (b p : Int32) (a1 : Nat) (z1 t1 : Nat → Int32) (b1 p1 : Int32) (h : Ln D kA H0 a z t b p) (g : Ln D kA H0 a1 z1 t1 b1 p1) (hd : a + 3 ≤ a1 ∨ a1 + 3 ≤ a) : Ct l D kA yX2_copyFrom cX2_copyFrom 2 none 1 48 0 0 H0 [.ref a, .ref a1] (blk a 3) (pV fun H => Ln D kA H a z1 t1 b1 p1 ∧ H.size = H0.size) := by
  refine Ct.of mi_X2_copyFrom (Nat.le_of_ble_eq_true rfl) (ls0 := [(0, _), (1, _)]) rfl ?_
  intro Pp Ee Ss Mm Ar Bl Me Cc Y hs hnm
  obtain ⟨h0, hz, ht⟩ := id h
  obtain ⟨g0, gz, gt⟩ := id g
  have sz : H0.size = H0.size := rfl
  refine V_aload_n Y.1 1 dX2_copyFrom_0 (rfl : _ = 1) rfl rfl ?_
  refine V_get Y.1 fi_X2_9 g0 rfl dX2_copyFrom_1 (rfl : _ = 4) ?_
  refine V_iconst Y.1 (v := 0) dX2_copyFrom_4 (rfl : _ = 5) (by decide) ?_
  refine V_aload_n Y.1 0 dX2_copyFrom_5 (rfl : _ = 6) rfl rfl ?_
  refine V_get Y.1 fi_X2_9 h0 rfl dX2_copyFrom_6 (rfl : _ = 9) ?_
  refine V_iconst Y.1 (v := 0) dX2_copyFrom_9 (rfl : _ = 10) (by decide) ?_
  refine V_bipush Y.1 (v := 12) dX2_copyFrom_10 (rfl : _ = 12) (by decide) ?_
  refine V_copy Y.1 aw_X2_25 (sp := 0) (dp := 0) (N := 12) gz hz rfl rfl (Or.inl ⟨by omega, by omega⟩) rfl rfl rfl (by omega) (by omega) (by omega) (by omega) (fun _ _ => rfl) (Nat.le_of_ble_eq_true rfl) (Nat.le_of_ble_eq_true rfl) dX2_copyFrom_12 (rfl : _ = 15) (fun H12_7 h_new o_12 => ?_)
  have hz := h_new
  have h0 := h0.sto o_12 (by omega)
  have ht := ht.sto o_12 (by omega)
  have g0 := g0.sto o_12 (by omega)
  have gz := gz.sto o_12 (by omega)
  have gt := gt.sto o_12 (by omega)
  have sz : Array.size H12_7 = H0.size := o_12.1.trans sz
  clear h_new
  refine V_aload_n Y.1 1 dX2_copyFrom_15 (rfl : _ = 16) rfl rfl ?_
  refine V_get Y.1 fi_X2_15 g0 rfl dX2_copyFrom_16 (rfl : _ = 19) ?_
  refine V_iconst Y.1 (v := 0) dX2_copyFrom_19 (rfl : _ = 20) (by decide) ?_
  refine V_aload_n Y.1 0 dX2_copyFrom_20 (rfl : _ = 21) rfl rfl ?_
  refine V_get Y.1 fi_X2_15 h0 rfl dX2_copyFrom_21 (rfl : _ = 24) ?_
  refine V_iconst Y.1 (v := 0) dX2_copyFrom_24 (rfl : _ = 25) (by decide) ?_
  refine V_bipush Y.1 (v := 12) dX2_copyFrom_25 (rfl : _ = 27) (by decide) ?_
  refine V_copy Y.1 aw_X2_25 (sp := 0) (dp := 0) (N := 12) gt ht rfl rfl (Or.inl ⟨by omega, by omega⟩) rfl rfl rfl (by omega) (by omega) (by omega) (by omega) (fun _ _ => rfl) (Nat.le_of_ble_eq_true rfl) (Nat.le_of_ble_eq_true rfl) dX2_copyFrom_27 (rfl : _ = 30) (fun H27_23 h_new o_27 => ?_)
  have ht := h_new
  have h0 := h0.sto o_27 (by omega)
  have hz := hz.sto o_27 (by omega)
  have g0 := g0.sto o_27 (by omega)
  have gz := gz.sto o_27 (by omega)
  have gt := gt.sto o_27 (by omega)
  have sz : Array.size H27_23 = H0.size := o_27.1.trans sz
  clear h_new
  refine V_aload_n Y.1 0 dX2_copyFrom_30 (rfl : _ = 31) rfl rfl ?_
  refine V_aload_n Y.1 1 dX2_copyFrom_31 (rfl : _ = 32) rfl rfl ?_
  refine V_get Y.1 fi_X2_18 g0 rfl dX2_copyFrom_32 (rfl : _ = 35) ?_
  refine V_put Y.1 fi_X2_18 fw_X2 rfl rfl h0 (Or.inl ⟨by omega, by omega⟩) rfl rfl (Nat.le_of_ble_eq_true rfl) dX2_copyFrom_35 (rfl : _ = 38) (fun H35_35 h_new o_35 => ?_)
  have h0 : hp D _ _ (.inr (6, [_, _, _, _])) := h_new
  have hz := hz.sto o_35 (by omega)
  have ht := ht.sto o_35 (by omega)
  have g0 := g0.sto o_35 (by omega)
  have gz := gz.sto o_35 (by omega)
  have gt := gt.sto o_35 (by omega)
  have sz : Array.size H35_35 = H0.size := o_35.1.trans sz
  clear h_new
  refine V_aload_n Y.1 0 dX2_copyFrom_38 (rfl : _ = 39) rfl rfl ?_
  refine V_aload_n Y.1 1 dX2_copyFrom_39 (rfl : _ = 40) rfl rfl ?_
  refine V_get Y.1 fi_X2_22 g0 rfl dX2_copyFrom_40 (rfl : _ = 43) ?_
  refine V_put Y.1 fi_X2_22 fw_X2 rfl rfl h0 (Or.inl ⟨by omega, by omega⟩) rfl rfl (Nat.le_of_ble_eq_true rfl) dX2_copyFrom_43 (rfl : _ = 46) (fun H43_47 h_new o_43 => ?_)
  have h0 : hp D _ _ (.inr (6, [_, _, _, _])) := h_new
  have hz := hz.sto o_43 (by omega)
  have ht := ht.sto o_43 (by omega)
  have g0 := g0.sto o_43 (by omega)
  have gz := gz.sto o_43 (by omega)
  have gt := gt.sto o_43 (by omega)
  have sz : Array.size H43_47 = H0.size := o_43.1.trans sz
  clear h_new
  exact V_retV Y.1 dX2_copyFrom_46 (Nat.le_of_ble_eq_true rfl) (Nat.le_of_ble_eq_true rfl) ⟨⟨h0, hz.cpy, ht.cpy⟩, by rw [o_43.1, o_35.1, o_27.1, o_12.1]⟩

set_option maxRecDepth 100000 in
set_option maxHeartbeats 4000000 in
theorem c_X2_countByMarking (l : Launch) (D : va_G) (kA : Nat → ClassId) (H0 : Heap) (a : Nat) (z t : Nat → Int32) (b p : Int32) (f g : Nat) (hf : f < 12) (hg : g < 12) (h : Ln D kA H0 a z t b p) : Ct l D kA yX2_countByMarking cX2_countByMarking 6 (some .int) 1 24 0 0 H0 [.ref a, .int (nI f), .int (nI g)] (nof) (pI fun v H => v = ln_cnt z f g ∧ H = H0) := by
  refine Ct.of mi_X2_countByMarking (Nat.le_of_ble_eq_true rfl) (ls0 := [(0, _), (1, _), (2, _)]) rfl ?_
  intro Pp Ee Ss Mm Ar Bl Me Cc Y hs hnm
  obtain ⟨h0, hz, ht⟩ := id h
  have sz : H0.size = H0.size := rfl
  refine V_iload_n Y.1 1 dX2_countByMarking_0 (rfl : _ = 1) rfl rfl ?_
  refine V_iload_n Y.1 2 dX2_countByMarking_1 (rfl : _ = 2) rfl rfl ?_
  refine V_mmax Y.1 mw_X2_31 (Nat.le_of_ble_eq_true rfl) (Nat.le_of_ble_eq_true rfl) (Nat.le_of_ble_eq_true rfl) (Nat.le_of_ble_eq_true rfl) dX2_countByMarking_2 (rfl : _ = 5) ?_
  refine V_nm (v := nI (max f g)) (mx_nI (by omega) (by omega)) ?_
  refine V_istore_n Y.1 (ls' := [(3, _), (0, _), (1, _), (2, _)]) dX2_countByMarking_5 (rfl : _ = 6) rfl (by decide) rfl ?_
  refine V_iconst Y.1 (v := 0) dX2_countByMarking_6 (rfl : _ = 7) (by decide) ?_
  refine V_istore Y.1 (ls' := [(4, _), (3, _), (0, _), (1, _), (2, _)]) dX2_countByMarking_7 (rfl : _ = 9) (by decide) rfl ?_
  refine V_iload_n Y.1 3 dX2_countByMarking_9 (rfl : _ = 10) rfl rfl ?_
  refine V_iload_n Y.1 4 dX2_countByMarking_10 (rfl : _ = 11) rfl rfl ?_
  refine V_mmin Y.1 mw_X2_37 (Nat.le_of_ble_eq_true rfl) (Nat.le_of_ble_eq_true rfl) (Nat.le_of_ble_eq_true rfl) (Nat.le_of_ble_eq_true rfl) dX2_countByMarking_11 (rfl : _ = 14) ?_
  refine V_nm (v := nI (min f g)) (mn_nI (by omega) (by omega)) ?_
  refine V_istore Y.1 (ls' := [(5, _), (4, _), (3, _), (0, _), (1, _), (2, _)]) dX2_countByMarking_14 (rfl : _ = 16) (by decide) rfl ?_
  have lp : ∀ (n k : Nat), min f g + k + n = max f g + 1 → V Pp l Ee (rmO 1 24 0 0) Ss Mm Ar Bl Me Cc 6 (AA H0 (nof)) (QC Bl Ar Ss 0 0 H0 (nof) (pI fun v H => v = ln_cnt z f g ∧ H = H0)) H0 0 0 16 [(5, .int (nI (min f g + k))), (4, .int (ln_set z (min f g) k)), (3, .int (nI (max f g))), (0, .ref a), (1, .int (nI f)), (2, .int (nI g))] [] := by
    intro n
    induction n with
    | zero =>
      intro k hk
      refine V_iload Y.1 0 dX2_countByMarking_16 (rfl : _ = 18) rfl ?_
      refine V_iload_n Y.1 2 dX2_countByMarking_18 (rfl : _ = 19) rfl rfl ?_
      refine V_icmp_gt Y.1 (tgt := 42) dX2_countByMarking_19 (by decide) (rfl : _ = 22) (fun _ => ?_) (fun c_n => absurd (by simp (disch := omega) only [Int32.lt_iff_toInt_lt, Int32.le_iff_toInt_le, ge_iff_le, gt_iff_lt, nI_toInt, Int32.reduceToInt] ; omega) c_n)
      refine V_iload Y.1 1 dX2_countByMarking_42 (rfl : _ = 44) rfl ?_
      refine V_cP Y (rS Y (c_J6_bitCount_0f7a4 l D kA _ _) mi_J6_bitCount_0f7a4 si_X2_40 rfl rfl (Nat.le_of_ble_eq_true rfl) ⟨Nat.le_of_ble_eq_true rfl, Nat.le_of_ble_eq_true rfl⟩ (Nat.le_of_ble_eq_true rfl) (Nat.le_of_ble_eq_true rfl) dX2_countByMarking_44) (rfl : _ = 47) ?_
      exact V_ret Y.1 dX2_countByMarking_47 rfl (Nat.le_of_ble_eq_true rfl) (Nat.le_of_ble_eq_true rfl) ⟨by rw [ln_cnt, show max f g + 1 - min f g = k by omega], rfl⟩
    | succ n ih =>
      intro k hk
      refine V_iload Y.1 0 dX2_countByMarking_16 (rfl : _ = 18) rfl ?_
      refine V_iload_n Y.1 2 dX2_countByMarking_18 (rfl : _ = 19) rfl rfl ?_
      refine V_icmp_gt Y.1 (tgt := 42) dX2_countByMarking_19 (by decide) (rfl : _ = 22) (fun c_n => absurd c_n (by simp (disch := omega) only [Int32.lt_iff_toInt_lt, Int32.le_iff_toInt_le, ge_iff_le, gt_iff_lt, nI_toInt, Int32.reduceToInt] ; omega)) (fun _ => ?_)
      refine V_iload Y.1 1 dX2_countByMarking_22 (rfl : _ = 24) rfl ?_
      refine V_iconst Y.1 (v := 1) dX2_countByMarking_24 (rfl : _ = 25) (by decide) ?_
      refine V_aload_n Y.1 3 dX2_countByMarking_25 (rfl : _ = 26) rfl rfl ?_
      refine V_get Y.1 fi_X2_9 h0 rfl dX2_countByMarking_26 (rfl : _ = 29) ?_
      refine V_iload Y.1 0 dX2_countByMarking_29 (rfl : _ = 31) rfl ?_
      refine V_iald Y.1 (v := z (min f g + k)) hz (by first | assumption | exact vp_in_nI (by omega) (by omega)) (by rw [nI_clamp (by omega)]) dX2_countByMarking_31 (rfl : _ = 32) ?_
      refine V_ishl Y.1 dX2_countByMarking_32 (rfl : _ = 33) ?_
      refine V_ior Y.1 dX2_countByMarking_33 (rfl : _ = 34) ?_
      refine V_istore Y.1 (ls' := [(4, _), (5, _), (3, _), (0, _), (1, _), (2, _)]) dX2_countByMarking_34 (rfl : _ = 36) (by decide) rfl ?_
      refine V_iinc Y.1 (v := nI (min f g + (k + 1))) (ls' := [(5, _), (4, _), (3, _), (0, _), (1, _), (2, _)]) 1 dX2_countByMarking_36 (rfl : _ = 39) rfl (nI_1 _) (by decide) rfl ?_
      refine V_goto Y.1 (tgt := 16) dX2_countByMarking_39 (by decide) ?_
      exact ih (k + 1) (by omega)
  exact lp (max f g + 1 - min f g) 0 (by omega)

set_option maxRecDepth 100000 in
set_option maxHeartbeats 4000000 in
theorem c_X2_countByPairs (l : Launch) (D : va_G) (kA : Nat → ClassId) (H0 : Heap) (a : Nat) (z t : Nat → Int32) (b p : Int32) (f g : Nat) (hf : f < 12) (hg : g < 12) (h : Ln D kA H0 a z t b p) : Ct l D kA yX2_countByPairs cX2_countByPairs 9 (some .int) 1 24 0 0 H0 [.ref a, .int (nI f), .int (nI g)] (nof) (pI fun v H => v = nI (ln_pairs z f g) ∧ H = H0) := by
  refine Ct.of mi_X2_countByPairs (Nat.le_of_ble_eq_true rfl) (ls0 := [(0, _), (1, _), (2, _)]) rfl ?_
  intro Pp Ee Ss Mm Ar Bl Me Cc Y hs hnm
  obtain ⟨h0, hz, ht⟩ := id h
  have sz : H0.size = H0.size := rfl
  refine V_iload_n Y.1 1 dX2_countByPairs_0 (rfl : _ = 1) rfl rfl ?_
  refine V_iload_n Y.1 2 dX2_countByPairs_1 (rfl : _ = 2) rfl rfl ?_
  refine V_mmin Y.1 mw_X2_37 (Nat.le_of_ble_eq_true rfl) (Nat.le_of_ble_eq_true rfl) (Nat.le_of_ble_eq_true rfl) (Nat.le_of_ble_eq_true rfl) dX2_countByPairs_2 (rfl : _ = 5) ?_
  refine V_nm (v := nI (min f g)) (mn_nI (by omega) (by omega)) ?_
  refine V_istore_n Y.1 (ls' := [(3, _), (0, _), (1, _), (2, _)]) dX2_countByPairs_5 (rfl : _ = 6) rfl (by decide) rfl ?_
  refine V_iload_n Y.1 2 dX2_countByPairs_6 (rfl : _ = 7) rfl rfl ?_
  refine V_iload_n Y.1 3 dX2_countByPairs_7 (rfl : _ = 8) rfl rfl ?_
  refine V_mmax Y.1 mw_X2_31 (Nat.le_of_ble_eq_true rfl) (Nat.le_of_ble_eq_true rfl) (Nat.le_of_ble_eq_true rfl) (Nat.le_of_ble_eq_true rfl) dX2_countByPairs_8 (rfl : _ = 11) ?_
  refine V_nm (v := nI (max f g)) (mx_nI (by omega) (by omega)) ?_
  refine V_istore Y.1 (ls' := [(4, _), (3, _), (0, _), (1, _), (2, _)]) dX2_countByPairs_11 (rfl : _ = 13) (by decide) rfl ?_
  refine V_iconst Y.1 (v := 0) dX2_countByPairs_13 (rfl : _ = 14) (by decide) ?_
  refine V_istore Y.1 (ls' := [(5, _), (4, _), (3, _), (0, _), (1, _), (2, _)]) dX2_countByPairs_14 (rfl : _ = 16) (by decide) rfl ?_
  refine V_iload_n Y.1 2 dX2_countByPairs_16 (rfl : _ = 17) rfl rfl ?_
  refine V_istore Y.1 (ls' := [(6, _), (5, _), (4, _), (3, _), (0, _), (1, _), (2, _)]) dX2_countByPairs_17 (rfl : _ = 19) (by decide) rfl ?_
  obtain ⟨lo, hlo⟩ : ∃ x, x = min f g := ⟨_, rfl⟩
  obtain ⟨hi, hhi⟩ : ∃ x, x = max f g := ⟨_, rfl⟩
  rw [← hlo, ← hhi]
  have b1 : hi < 12 := by omega
  have b2 : lo ≤ hi := by omega
  have lp : ∀ (n k : Nat), lo + k + n = hi + 1 → V Pp l Ee (rmO 1 24 0 0) Ss Mm Ar Bl Me Cc 9 (AA H0 (nof)) (QC Bl Ar Ss 0 0 H0 (nof) (pI fun v H => v = nI (ln_pairs z f g) ∧ H = H0)) H0 0 0 19 [(6, .int (nI (lo + k))), (5, .int (nI (ln_prs z lo k))), (4, .int (nI hi)), (3, .int (nI lo)), (0, .ref a), (1, .int (nI f)), (2, .int (nI g))] [] := by
    intro n
    induction n with
    | zero =>
      intro k hk
      refine V_iload Y.1 0 dX2_countByPairs_19 (rfl : _ = 21) rfl ?_
      refine V_iload Y.1 2 dX2_countByPairs_21 (rfl : _ = 23) rfl ?_
      refine V_icmp_gt Y.1 (tgt := 79) dX2_countByPairs_23 (by decide) (rfl : _ = 26) (fun _ => ?_) (fun c_n => absurd (by simp (disch := omega) only [Int32.lt_iff_toInt_lt, Int32.le_iff_toInt_le, ge_iff_le, gt_iff_lt, nI_toInt, Int32.reduceToInt] ; omega) c_n)
      refine V_iload Y.1 1 dX2_countByPairs_79 (rfl : _ = 81) rfl ?_
      exact V_ret Y.1 dX2_countByPairs_81 rfl (Nat.le_of_ble_eq_true rfl) (Nat.le_of_ble_eq_true rfl) ⟨by rw [ln_pairs, ← hlo, ← hhi, show hi + 1 - lo = k by omega], rfl⟩
    | succ n ih =>
      intro k hk
      refine V_iload Y.1 0 dX2_countByPairs_19 (rfl : _ = 21) rfl ?_
      refine V_iload Y.1 2 dX2_countByPairs_21 (rfl : _ = 23) rfl ?_
      refine V_icmp_gt Y.1 (tgt := 79) dX2_countByPairs_23 (by decide) (rfl : _ = 26) (fun c_n => absurd c_n (by simp (disch := omega) only [Int32.lt_iff_toInt_lt, Int32.le_iff_toInt_le, ge_iff_le, gt_iff_lt, nI_toInt, Int32.reduceToInt] ; omega)) (fun _ => ?_)
      refine V_iconst Y.1 (v := 1) dX2_countByPairs_26 (rfl : _ = 27) (by decide) ?_
      refine V_istore Y.1 (ls' := [(7, _), (6, _), (5, _), (4, _), (3, _), (0, _), (1, _), (2, _)]) dX2_countByPairs_27 (rfl : _ = 29) (by decide) rfl ?_
      refine V_iload_n Y.1 4 dX2_countByPairs_29 (rfl : _ = 30) rfl rfl ?_
      refine V_istore Y.1 (ls' := [(8, _), (7, _), (6, _), (5, _), (4, _), (3, _), (0, _), (1, _), (2, _)]) dX2_countByPairs_30 (rfl : _ = 32) (by decide) rfl ?_
      have bp := ln_prs_le z lo k
      have lq : ∀ (m9 j : Nat), j + m9 = k → V Pp l Ee (rmO 1 24 0 0) Ss Mm Ar Bl Me Cc 9 (AA H0 (nof)) (QC Bl Ar Ss 0 0 H0 (nof) (pI fun v H => v = nI (ln_pairs z f g) ∧ H = H0)) H0 0 0 32 [(8, .int (nI (lo + j))), (7, .int (if ln_new z lo (lo + k) j then 1 else 0)), (6, .int (nI (lo + k))), (5, .int (nI (ln_prs z lo k))), (4, .int (nI hi)), (3, .int (nI lo)), (0, .ref a), (1, .int (nI f)), (2, .int (nI g))] [] := by
        intro m9
        induction m9 with
        | zero =>
          intro j hj
          obtain rfl : j = k := by omega
          refine V_iload Y.1 0 dX2_countByPairs_32 (rfl : _ = 34) rfl ?_
          refine V_iload Y.1 2 dX2_countByPairs_34 (rfl : _ = 36) rfl ?_
          refine V_icmp_ge Y.1 (tgt := 65) dX2_countByPairs_36 (by decide) (rfl : _ = 39) (fun _ => ?_) (fun c_n => absurd (by simp (disch := omega) only [Int32.lt_iff_toInt_lt, Int32.le_iff_toInt_le, ge_iff_le, gt_iff_lt, nI_toInt, Int32.reduceToInt] ; omega) c_n)
          refine V_iload Y.1 1 dX2_countByPairs_65 (rfl : _ = 67) rfl ?_
          refine V_if_eq Y.1 (tgt := 73) dX2_countByPairs_67 (by decide) (rfl : _ = 70) (fun c_67 => ?_) (fun c_67 => ?_)
          · refine V_iinc Y.1 (v := nI (lo + (j + 1))) (ls' := [(6, _), (8, _), (7, _), (5, _), (4, _), (3, _), (0, _), (1, _), (2, _)]) 2 dX2_countByPairs_73 (rfl : _ = 76) rfl (nI_1 _) (by decide) rfl ?_
            refine V_goto Y.1 (tgt := 19) dX2_countByPairs_76 (by decide) ?_
            have e9 : ln_prs z lo (j + 1) = ln_prs z lo j := by cases e8 : ln_new z lo (lo + j) j <;> simp [ln_prs, e8] at c_67 ⊢
            have g9 := ih (j + 1) (by omega)
            rw [e9] at g9
            exact V_forget (ls' := [(6, _), (5, _), (4, _), (3, _), (0, _), (1, _), (2, _)]) [0, 3, 4, 5, 6, 7, 8] rfl (g9)
          · refine V_iinc Y.1 (v := nI (ln_prs z lo j + 1)) (ls' := [(5, _), (8, _), (7, _), (6, _), (4, _), (3, _), (0, _), (1, _), (2, _)]) 3 dX2_countByPairs_70 (rfl : _ = 73) rfl (nI_1 _) (by decide) rfl ?_
            refine V_iinc Y.1 (v := nI (lo + (j + 1))) (ls' := [(6, _), (5, _), (8, _), (7, _), (4, _), (3, _), (0, _), (1, _), (2, _)]) 3 dX2_countByPairs_73 (rfl : _ = 76) rfl (nI_1 _) (by decide) rfl ?_
            refine V_goto Y.1 (tgt := 19) dX2_countByPairs_76 (by decide) ?_
            have e9 : ln_prs z lo (j + 1) = ln_prs z lo j + 1 := by cases e8 : ln_new z lo (lo + j) j <;> simp [ln_prs, e8] at c_67 ⊢
            have g9 := ih (j + 1) (by omega)
            rw [e9] at g9
            exact V_forget (ls' := [(6, _), (5, _), (4, _), (3, _), (0, _), (1, _), (2, _)]) [0, 1, 4, 5, 6, 7, 8] rfl (g9)
        | succ m9 ih2 =>
          intro j hj
          refine V_iload Y.1 0 dX2_countByPairs_32 (rfl : _ = 34) rfl ?_
          refine V_iload Y.1 2 dX2_countByPairs_34 (rfl : _ = 36) rfl ?_
          refine V_icmp_ge Y.1 (tgt := 65) dX2_countByPairs_36 (by decide) (rfl : _ = 39) (fun c_n => absurd c_n (by simp (disch := omega) only [Int32.lt_iff_toInt_lt, Int32.le_iff_toInt_le, ge_iff_le, gt_iff_lt, nI_toInt, Int32.reduceToInt] ; omega)) (fun _ => ?_)
          refine V_aload_n Y.1 6 dX2_countByPairs_39 (rfl : _ = 40) rfl rfl ?_
          refine V_get Y.1 fi_X2_9 h0 rfl dX2_countByPairs_40 (rfl : _ = 43) ?_
          refine V_iload Y.1 0 dX2_countByPairs_43 (rfl : _ = 45) rfl ?_
          refine V_iald Y.1 (v := z (lo + j)) hz (by first | assumption | exact vp_in_nI (by omega) (by omega)) (by rw [nI_clamp (by omega)]) dX2_countByPairs_45 (rfl : _ = 46) ?_
          refine V_aload_n Y.1 6 dX2_countByPairs_46 (rfl : _ = 47) rfl rfl ?_
          refine V_get Y.1 fi_X2_9 h0 rfl dX2_countByPairs_47 (rfl : _ = 50) ?_
          refine V_iload Y.1 2 dX2_countByPairs_50 (rfl : _ = 52) rfl ?_
          refine V_iald Y.1 (v := z (lo + k)) hz (by first | assumption | exact vp_in_nI (by omega) (by omega)) (by rw [nI_clamp (by omega)]) dX2_countByPairs_52 (rfl : _ = 53) ?_
          refine V_icmp_ne Y.1 (tgt := 59) dX2_countByPairs_53 (by decide) (rfl : _ = 56) (fun c_53 => ?_) (fun c_53 => ?_)
          · refine V_iinc Y.1 (v := nI (lo + (j + 1))) (ls' := [(8, _), (7, _), (6, _), (5, _), (4, _), (3, _), (0, _), (1, _), (2, _)]) 0 dX2_countByPairs_59 (rfl : _ = 62) rfl (nI_1 _) (by decide) rfl ?_
            refine V_goto Y.1 (tgt := 32) dX2_countByPairs_62 (by decide) ?_
            have g9 := ih2 (j + 1) (by omega)
            rw [show ln_new z lo (lo + k) (j + 1) = (if z (lo + j) = z (lo + k) then false else ln_new z lo (lo + k) j) from rfl, if_neg c_53] at g9
            exact V_forget (ls' := [(8, _), (7, _), (6, _), (5, _), (4, _), (3, _), (0, _), (1, _), (2, _)]) [0, 1, 2, 3, 4, 5, 6, 7, 8] rfl (g9)
          · refine V_iconst Y.1 (v := 0) dX2_countByPairs_56 (rfl : _ = 57) (by decide) ?_
            refine V_istore Y.1 (ls' := [(7, _), (8, _), (6, _), (5, _), (4, _), (3, _), (0, _), (1, _), (2, _)]) dX2_countByPairs_57 (rfl : _ = 59) (by decide) rfl ?_
            refine V_iinc Y.1 (v := nI (lo + (j + 1))) (ls' := [(8, _), (7, _), (6, _), (5, _), (4, _), (3, _), (0, _), (1, _), (2, _)]) 1 dX2_countByPairs_59 (rfl : _ = 62) rfl (nI_1 _) (by decide) rfl ?_
            refine V_goto Y.1 (tgt := 32) dX2_countByPairs_62 (by decide) ?_
            have g9 := ih2 (j + 1) (by omega)
            rw [show ln_new z lo (lo + k) (j + 1) = (if z (lo + j) = z (lo + k) then false else ln_new z lo (lo + k) j) from rfl, if_pos c_53] at g9
            exact V_forget (ls' := [(8, _), (7, _), (6, _), (5, _), (4, _), (3, _), (0, _), (1, _), (2, _)]) [0, 1, 2, 3, 4, 5, 6, 7, 8] rfl (g9)
      exact V_forget (ls' := [(8, _), (7, _), (6, _), (5, _), (4, _), (3, _), (0, _), (1, _), (2, _)]) [0, 1, 2, 3, 4, 5, 6, 7, 8] rfl (lq k 0 (by omega))
  exact lp (hi + 1 - lo) 0 (by omega)

set_option maxRecDepth 100000 in
set_option maxHeartbeats 4000000 in
theorem c_X2_fullFare (l : Launch) (D : va_G) (kA : Nat → ClassId) (H0 : Heap) (a : Nat) (z t : Nat → Int32) (b p : Int32) (f g : Nat) (hf : f < 12) (hg : g < 12) (h : Ln D kA H0 a z t b p) : Ct l D kA yX2_fullFare cX2_fullFare 3 (some .int) 2 49 0 0 H0 [.ref a, .int (nI f), .int (nI g)] (nof) (pI fun v H => v = ln_fare z b p f g ∧ H = H0) := by
  refine Ct.of mi_X2_fullFare (Nat.le_of_ble_eq_true rfl) (ls0 := [(0, _), (1, _), (2, _)]) rfl ?_
  intro Pp Ee Ss Mm Ar Bl Me Cc Y hs hnm
  obtain ⟨h0, hz, ht⟩ := id h
  have sz : H0.size = H0.size := rfl
  refine V_aload_n Y.1 0 dX2_fullFare_0 (rfl : _ = 1) rfl rfl ?_
  refine V_get Y.1 fi_X2_18 h0 rfl dX2_fullFare_1 (rfl : _ = 4) ?_
  refine V_aload_n Y.1 0 dX2_fullFare_4 (rfl : _ = 5) rfl rfl ?_
  refine V_get Y.1 fi_X2_22 h0 rfl dX2_fullFare_5 (rfl : _ = 8) ?_
  refine V_aload_n Y.1 0 dX2_fullFare_8 (rfl : _ = 9) rfl rfl ?_
  refine V_iload_n Y.1 1 dX2_fullFare_9 (rfl : _ = 10) rfl rfl ?_
  refine V_iload_n Y.1 2 dX2_fullFare_10 (rfl : _ = 11) rfl rfl ?_
  refine V_cP Y (rV Y (c_X2_countByMarking l D kA _ a z t b p f g hf hg h) mi_X2_countByMarking vi_X2_46 rfl h0 rfl rfl (Nat.le_of_ble_eq_true rfl) ⟨Nat.le_of_ble_eq_true rfl, Nat.le_of_ble_eq_true rfl⟩ (Nat.le_of_ble_eq_true rfl) (Nat.le_of_ble_eq_true rfl) dX2_fullFare_11) (rfl : _ = 14) ?_
  refine V_iconst Y.1 (v := 1) dX2_fullFare_14 (rfl : _ = 15) (by decide) ?_
  refine V_isub Y.1 dX2_fullFare_15 (rfl : _ = 16) ?_
  refine V_imul Y.1 dX2_fullFare_16 (rfl : _ = 17) ?_
  refine V_iadd Y.1 dX2_fullFare_17 (rfl : _ = 18) ?_
  exact V_ret Y.1 dX2_fullFare_18 rfl (Nat.le_of_ble_eq_true rfl) (Nat.le_of_ble_eq_true rfl) ⟨rfl, rfl⟩

set_option maxRecDepth 100000 in
set_option maxHeartbeats 4000000 in
theorem c_X2_fullDefault (l : Launch) (D : va_G) (kA : Nat → ClassId) (H0 : Heap) (a : Nat) (z t : Nat → Int32) (b p : Int32) (h : Ln D kA H0 a z t b p) : Ct l D kA yX2_fullDefault cX2_fullDefault 1 (some .int) 0 0 0 0 H0 [.ref a] (nof) (pI fun v H => v = b + 5 * p ∧ H = H0) := by
  refine Ct.of mi_X2_fullDefault (Nat.le_of_ble_eq_true rfl) (ls0 := [(0, _)]) rfl ?_
  intro Pp Ee Ss Mm Ar Bl Me Cc Y hs hnm
  obtain ⟨h0, hz, ht⟩ := id h
  have sz : H0.size = H0.size := rfl
  refine V_aload_n Y.1 0 dX2_fullDefault_0 (rfl : _ = 1) rfl rfl ?_
  refine V_get Y.1 fi_X2_18 h0 rfl dX2_fullDefault_1 (rfl : _ = 4) ?_
  refine V_iconst Y.1 (v := 5) dX2_fullDefault_4 (rfl : _ = 5) (by decide) ?_
  refine V_aload_n Y.1 0 dX2_fullDefault_5 (rfl : _ = 6) rfl rfl ?_
  refine V_get Y.1 fi_X2_22 h0 rfl dX2_fullDefault_6 (rfl : _ = 9) ?_
  refine V_imul Y.1 dX2_fullDefault_9 (rfl : _ = 10) ?_
  refine V_iadd Y.1 dX2_fullDefault_10 (rfl : _ = 11) ?_
  exact V_ret Y.1 dX2_fullDefault_11 rfl (Nat.le_of_ble_eq_true rfl) (Nat.le_of_ble_eq_true rfl) ⟨rfl, rfl⟩

set_option maxRecDepth 100000 in
set_option maxHeartbeats 4000000 in
theorem c_X2_countsAgree (l : Launch) (D : va_G) (kA : Nat → ClassId) (H0 : Heap) (a : Nat) (z t : Nat → Int32) (b p : Int32) (h : Ln D kA H0 a z t b p) (hag : ∀ f g, f < 12 → g < 12 → ln_cnt z f g = nI (ln_pairs z f g)) : Ct l D kA yX2_countsAgree cX2_countsAgree 3 (some .boolean) 2 52 0 0 H0 [.ref a] (nof) (pI fun v H => v = 1 ∧ H = H0) := by
  refine Ct.of mi_X2_countsAgree (Nat.le_of_ble_eq_true rfl) (ls0 := [(0, _)]) rfl ?_
  intro Pp Ee Ss Mm Ar Bl Me Cc Y hs hnm
  obtain ⟨h0, hz, ht⟩ := id h
  have sz : H0.size = H0.size := rfl
  refine V_iconst Y.1 (v := 0) dX2_countsAgree_0 (rfl : _ = 1) (by decide) ?_
  refine V_istore_n Y.1 (ls' := [(1, _), (0, _)]) dX2_countsAgree_1 (rfl : _ = 2) rfl (by decide) rfl ?_
  have lp : ∀ (n i : Nat), i + n = 12 → V Pp l Ee (rmO 2 52 0 0) Ss Mm Ar Bl Me Cc 3 (AA H0 (nof)) (QC Bl Ar Ss 0 0 H0 (nof) (pI fun v H => v = 1 ∧ H = H0)) H0 0 0 2 [(1, .int (nI i)), (0, .ref a)] [] := by
    intro n
    induction n with
    | zero =>
      intro i hi
      refine V_iload_n Y.1 0 dX2_countsAgree_2 (rfl : _ = 3) rfl rfl ?_
      refine V_bipush Y.1 (v := 12) dX2_countsAgree_3 (rfl : _ = 5) (by decide) ?_
      refine V_icmp_ge Y.1 (tgt := 45) dX2_countsAgree_5 (by decide) (rfl : _ = 8) (fun _ => ?_) (fun c_n => absurd (by simp (disch := omega) only [Int32.lt_iff_toInt_lt, Int32.le_iff_toInt_le, ge_iff_le, gt_iff_lt, nI_toInt, Int32.reduceToInt] ; omega) c_n)
      refine V_iconst Y.1 (v := 1) dX2_countsAgree_45 (rfl : _ = 46) (by decide) ?_
      exact V_ret Y.1 dX2_countsAgree_46 rfl (Nat.le_of_ble_eq_true rfl) (Nat.le_of_ble_eq_true rfl) ⟨rfl, rfl⟩
    | succ n ih =>
      intro i hi
      refine V_iload_n Y.1 0 dX2_countsAgree_2 (rfl : _ = 3) rfl rfl ?_
      refine V_bipush Y.1 (v := 12) dX2_countsAgree_3 (rfl : _ = 5) (by decide) ?_
      refine V_icmp_ge Y.1 (tgt := 45) dX2_countsAgree_5 (by decide) (rfl : _ = 8) (fun c_n => absurd c_n (by simp (disch := omega) only [Int32.lt_iff_toInt_lt, Int32.le_iff_toInt_le, ge_iff_le, gt_iff_lt, nI_toInt, Int32.reduceToInt] ; omega)) (fun _ => ?_)
      refine V_iconst Y.1 (v := 0) dX2_countsAgree_8 (rfl : _ = 9) (by decide) ?_
      refine V_istore_n Y.1 (ls' := [(2, _), (1, _), (0, _)]) dX2_countsAgree_9 (rfl : _ = 10) rfl (by decide) rfl ?_
      have lq : ∀ (m9 j : Nat), j + m9 = 12 → V Pp l Ee (rmO 2 52 0 0) Ss Mm Ar Bl Me Cc 3 (AA H0 (nof)) (QC Bl Ar Ss 0 0 H0 (nof) (pI fun v H => v = 1 ∧ H = H0)) H0 0 0 10 [(2, .int (nI j)), (1, .int (nI i)), (0, .ref a)] [] := by
        intro m9
        induction m9 with
        | zero =>
          intro j hj
          refine V_iload_n Y.1 0 dX2_countsAgree_10 (rfl : _ = 11) rfl rfl ?_
          refine V_bipush Y.1 (v := 12) dX2_countsAgree_11 (rfl : _ = 13) (by decide) ?_
          refine V_icmp_ge Y.1 (tgt := 39) dX2_countsAgree_13 (by decide) (rfl : _ = 16) (fun _ => ?_) (fun c_n => absurd (by simp (disch := omega) only [Int32.lt_iff_toInt_lt, Int32.le_iff_toInt_le, ge_iff_le, gt_iff_lt, nI_toInt, Int32.reduceToInt] ; omega) c_n)
          refine V_iinc Y.1 (v := nI (i + 1)) (ls' := [(1, _), (2, _), (0, _)]) 1 dX2_countsAgree_39 (rfl : _ = 42) rfl (nI_1 _) (by decide) rfl ?_
          refine V_goto Y.1 (tgt := 2) dX2_countsAgree_42 (by decide) ?_
          exact V_forget (ls' := [(1, _), (0, _)]) [0, 2] rfl (ih (i + 1) (by omega))
        | succ m9 ih2 =>
          intro j hj
          refine V_iload_n Y.1 0 dX2_countsAgree_10 (rfl : _ = 11) rfl rfl ?_
          refine V_bipush Y.1 (v := 12) dX2_countsAgree_11 (rfl : _ = 13) (by decide) ?_
          refine V_icmp_ge Y.1 (tgt := 39) dX2_countsAgree_13 (by decide) (rfl : _ = 16) (fun c_n => absurd c_n (by simp (disch := omega) only [Int32.lt_iff_toInt_lt, Int32.le_iff_toInt_le, ge_iff_le, gt_iff_lt, nI_toInt, Int32.reduceToInt] ; omega)) (fun _ => ?_)
          refine V_aload_n Y.1 2 dX2_countsAgree_16 (rfl : _ = 17) rfl rfl ?_
          refine V_iload_n Y.1 1 dX2_countsAgree_17 (rfl : _ = 18) rfl rfl ?_
          refine V_iload_n Y.1 0 dX2_countsAgree_18 (rfl : _ = 19) rfl rfl ?_
          refine V_cP Y (rV Y (c_X2_countByMarking l D kA _ a z t b p i j (by omega) (by omega) h) mi_X2_countByMarking vi_X2_46 rfl h0 rfl rfl (Nat.le_of_ble_eq_true rfl) ⟨Nat.le_of_ble_eq_true rfl, Nat.le_of_ble_eq_true rfl⟩ (Nat.le_of_ble_eq_true rfl) (Nat.le_of_ble_eq_true rfl) dX2_countsAgree_19) (rfl : _ = 22) ?_
          refine V_aload_n Y.1 2 dX2_countsAgree_22 (rfl : _ = 23) rfl rfl ?_
          refine V_iload_n Y.1 1 dX2_countsAgree_23 (rfl : _ = 24) rfl rfl ?_
          refine V_iload_n Y.1 0 dX2_countsAgree_24 (rfl : _ = 25) rfl rfl ?_
          refine V_cP Y (rV Y (c_X2_countByPairs l D kA _ a z t b p i j (by omega) (by omega) h) mi_X2_countByPairs vi_X2_49 rfl h0 rfl rfl (Nat.le_of_ble_eq_true rfl) ⟨Nat.le_of_ble_eq_true rfl, Nat.le_of_ble_eq_true rfl⟩ (Nat.le_of_ble_eq_true rfl) (Nat.le_of_ble_eq_true rfl) dX2_countsAgree_25) (rfl : _ = 28) ?_
          refine V_icmp_eq Y.1 (tgt := 33) dX2_countsAgree_28 (by decide) (rfl : _ = 31) (fun _ => ?_) (fun c_n => absurd (hag i j (by omega) (by omega)) c_n)
          refine V_iinc Y.1 (v := nI (j + 1)) (ls' := [(2, _), (1, _), (0, _)]) 0 dX2_countsAgree_33 (rfl : _ = 36) rfl (nI_1 _) (by decide) rfl ?_
          refine V_goto Y.1 (tgt := 10) dX2_countsAgree_36 (by decide) ?_
          exact ih2 (j + 1) (by omega)
      exact lq 12 0 rfl
  exact lp 12 0 rfl

set_option maxRecDepth 100000 in
set_option maxHeartbeats 4000000 in
theorem c_X2_rankByTaps (l : Launch) (D : va_G) (kA : Nat → ClassId) (H0 : Heap) (a : Nat) (z t : Nat → Int32) (b p : Int32) (w : Nat) (hw : w < 12) (h : Ln D kA H0 a z t b p) : Ct l D kA yX2_rankByTaps cX2_rankByTaps 5 (some .int) 0 0 0 0 H0 [.ref a, .int (nI w)] (nof) (pI fun v H => v = nI (ln_rk t w 12) ∧ H = H0) := by
  refine Ct.of mi_X2_rankByTaps (Nat.le_of_ble_eq_true rfl) (ls0 := [(0, _), (1, _)]) rfl ?_
  intro Pp Ee Ss Mm Ar Bl Me Cc Y hs hnm
  obtain ⟨h0, hz, ht⟩ := id h
  have sz : H0.size = H0.size := rfl
  refine V_iconst Y.1 (v := 0) dX2_rankByTaps_0 (rfl : _ = 1) (by decide) ?_
  refine V_istore_n Y.1 (ls' := [(2, _), (0, _), (1, _)]) dX2_rankByTaps_1 (rfl : _ = 2) rfl (by decide) rfl ?_
  refine V_iconst Y.1 (v := 0) dX2_rankByTaps_2 (rfl : _ = 3) (by decide) ?_
  refine V_istore_n Y.1 (ls' := [(3, _), (2, _), (0, _), (1, _)]) dX2_rankByTaps_3 (rfl : _ = 4) rfl (by decide) rfl ?_
  have lp : ∀ (n i : Nat), i + n = 12 → V Pp l Ee (rmO 0 0 0 0) Ss Mm Ar Bl Me Cc 5 (AA H0 (nof)) (QC Bl Ar Ss 0 0 H0 (nof) (pI fun v H => v = nI (ln_rk t w 12) ∧ H = H0)) H0 0 0 4 [(3, .int (nI i)), (2, .int (nI (ln_rk t w i))), (0, .ref a), (1, .int (nI w))] [] := by
    intro n
    induction n with
    | zero =>
      intro i hi
      obtain rfl : i = 12 := by omega
      refine V_iload_n Y.1 0 dX2_rankByTaps_4 (rfl : _ = 5) rfl rfl ?_
      refine V_bipush Y.1 (v := 12) dX2_rankByTaps_5 (rfl : _ = 7) (by decide) ?_
      refine V_icmp_ge Y.1 (tgt := 66) dX2_rankByTaps_7 (by decide) (rfl : _ = 10) (fun _ => ?_) (fun c_n => absurd (by simp (disch := omega) only [Int32.lt_iff_toInt_lt, Int32.le_iff_toInt_le, ge_iff_le, gt_iff_lt, nI_toInt, Int32.reduceToInt] ; omega) c_n)
      refine V_iload_n Y.1 1 dX2_rankByTaps_66 (rfl : _ = 67) rfl rfl ?_
      exact V_ret Y.1 dX2_rankByTaps_67 rfl (Nat.le_of_ble_eq_true rfl) (Nat.le_of_ble_eq_true rfl) ⟨rfl, rfl⟩
    | succ n ih =>
      intro i hi
      have br := ln_rk_le t w i
      refine V_iload_n Y.1 0 dX2_rankByTaps_4 (rfl : _ = 5) rfl rfl ?_
      refine V_bipush Y.1 (v := 12) dX2_rankByTaps_5 (rfl : _ = 7) (by decide) ?_
      refine V_icmp_ge Y.1 (tgt := 66) dX2_rankByTaps_7 (by decide) (rfl : _ = 10) (fun c_n => absurd c_n (by simp (disch := omega) only [Int32.lt_iff_toInt_lt, Int32.le_iff_toInt_le, ge_iff_le, gt_iff_lt, nI_toInt, Int32.reduceToInt] ; omega)) (fun _ => ?_)
      refine V_aload_n Y.1 2 dX2_rankByTaps_10 (rfl : _ = 11) rfl rfl ?_
      refine V_get Y.1 fi_X2_15 h0 rfl dX2_rankByTaps_11 (rfl : _ = 14) ?_
      refine V_iload_n Y.1 0 dX2_rankByTaps_14 (rfl : _ = 15) rfl rfl ?_
      refine V_iald Y.1 (v := t i) ht (by first | assumption | exact vp_in_nI (by omega) (by omega)) (by rw [nI_clamp (by omega)]) dX2_rankByTaps_15 (rfl : _ = 16) ?_
      refine V_aload_n Y.1 2 dX2_rankByTaps_16 (rfl : _ = 17) rfl rfl ?_
      refine V_get Y.1 fi_X2_15 h0 rfl dX2_rankByTaps_17 (rfl : _ = 20) ?_
      refine V_iload_n Y.1 3 dX2_rankByTaps_20 (rfl : _ = 21) rfl rfl ?_
      refine V_iald Y.1 (v := t w) ht (by first | assumption | exact vp_in_nI (by omega) (by omega)) (by rw [nI_clamp (by omega)]) dX2_rankByTaps_21 (rfl : _ = 22) ?_
      refine V_icmp_ne Y.1 (tgt := 29) dX2_rankByTaps_22 (by decide) (rfl : _ = 25) (fun c_22 => ?_) (fun c_22 => ?_)
      · refine V_iconst Y.1 (v := 0) dX2_rankByTaps_29 (rfl : _ = 30) (by decide) ?_
        refine V_istore Y.1 (ls' := [(4, _), (3, _), (2, _), (0, _), (1, _)]) dX2_rankByTaps_30 (rfl : _ = 32) (by decide) rfl ?_
        refine V_aload_n Y.1 3 dX2_rankByTaps_32 (rfl : _ = 33) rfl rfl ?_
        refine V_get Y.1 fi_X2_15 h0 rfl dX2_rankByTaps_33 (rfl : _ = 36) ?_
        refine V_iload_n Y.1 1 dX2_rankByTaps_36 (rfl : _ = 37) rfl rfl ?_
        refine V_iald Y.1 (v := t i) ht (by first | assumption | exact vp_in_nI (by omega) (by omega)) (by rw [nI_clamp (by omega)]) dX2_rankByTaps_37 (rfl : _ = 38) ?_
        refine V_aload_n Y.1 3 dX2_rankByTaps_38 (rfl : _ = 39) rfl rfl ?_
        refine V_get Y.1 fi_X2_15 h0 rfl dX2_rankByTaps_39 (rfl : _ = 42) ?_
        refine V_iload_n Y.1 4 dX2_rankByTaps_42 (rfl : _ = 43) rfl rfl ?_
        refine V_iald Y.1 (v := t w) ht (by first | assumption | exact vp_in_nI (by omega) (by omega)) (by rw [nI_clamp (by omega)]) dX2_rankByTaps_43 (rfl : _ = 44) ?_
        refine V_icmp_gt Y.1 (tgt := 57) dX2_rankByTaps_44 (by decide) (rfl : _ = 47) (fun c_44 => ?_) (fun c_44 => ?_)
        · refine V_iinc Y.1 (v := nI (ln_rk t w i + 1)) (ls' := [(2, _), (4, _), (3, _), (0, _), (1, _)]) 2 dX2_rankByTaps_57 (rfl : _ = 60) rfl (nI_1 _) (by decide) rfl ?_
          refine V_iinc Y.1 (v := nI (i + 1)) (ls' := [(3, _), (2, _), (4, _), (0, _), (1, _)]) 2 dX2_rankByTaps_60 (rfl : _ = 63) rfl (nI_1 _) (by decide) rfl ?_
          refine V_goto Y.1 (tgt := 4) dX2_rankByTaps_63 (by decide) ?_
          have e9 : ln_rk t w (i + 1) = ln_rk t w i + 1 := by rw [ln_rk, if_pos (Or.inl c_44)]
          have g9 := ih (i + 1) (by omega)
          rw [e9] at g9
          exact V_forget (ls' := [(3, _), (2, _), (0, _), (1, _)]) [0, 1, 3, 4] rfl (g9)
        · refine V_iload Y.1 0 dX2_rankByTaps_47 (rfl : _ = 49) rfl ?_
          refine V_if_eq Y.1 (tgt := 60) dX2_rankByTaps_49 (by decide) (rfl : _ = 52) (fun _ => ?_) (fun c_n => absurd rfl c_n)
          refine V_iinc Y.1 (v := nI (i + 1)) (ls' := [(3, _), (4, _), (2, _), (0, _), (1, _)]) 1 dX2_rankByTaps_60 (rfl : _ = 63) rfl (nI_1 _) (by decide) rfl ?_
          refine V_goto Y.1 (tgt := 4) dX2_rankByTaps_63 (by decide) ?_
          have e9 : ln_rk t w (i + 1) = ln_rk t w i := by simp [ln_rk, c_22, c_44]
          have g9 := ih (i + 1) (by omega)
          rw [e9] at g9
          exact V_forget (ls' := [(3, _), (2, _), (0, _), (1, _)]) [0, 2, 3, 4] rfl (g9)
      · refine V_iconst Y.1 (v := 1) dX2_rankByTaps_25 (rfl : _ = 26) (by decide) ?_
        refine V_goto Y.1 (tgt := 30) dX2_rankByTaps_26 (by decide) ?_
        refine V_istore Y.1 (ls' := [(4, _), (3, _), (2, _), (0, _), (1, _)]) dX2_rankByTaps_30 (rfl : _ = 32) (by decide) rfl ?_
        refine V_aload_n Y.1 3 dX2_rankByTaps_32 (rfl : _ = 33) rfl rfl ?_
        refine V_get Y.1 fi_X2_15 h0 rfl dX2_rankByTaps_33 (rfl : _ = 36) ?_
        refine V_iload_n Y.1 1 dX2_rankByTaps_36 (rfl : _ = 37) rfl rfl ?_
        refine V_iald Y.1 (v := t i) ht (by first | assumption | exact vp_in_nI (by omega) (by omega)) (by rw [nI_clamp (by omega)]) dX2_rankByTaps_37 (rfl : _ = 38) ?_
        refine V_aload_n Y.1 3 dX2_rankByTaps_38 (rfl : _ = 39) rfl rfl ?_
        refine V_get Y.1 fi_X2_15 h0 rfl dX2_rankByTaps_39 (rfl : _ = 42) ?_
        refine V_iload_n Y.1 4 dX2_rankByTaps_42 (rfl : _ = 43) rfl rfl ?_
        refine V_iald Y.1 (v := t w) ht (by first | assumption | exact vp_in_nI (by omega) (by omega)) (by rw [nI_clamp (by omega)]) dX2_rankByTaps_43 (rfl : _ = 44) ?_
        refine V_icmp_gt Y.1 (tgt := 57) dX2_rankByTaps_44 (by decide) (rfl : _ = 47) (fun c_44 => ?_) (fun c_44 => ?_)
        · refine V_iinc Y.1 (v := nI (ln_rk t w i + 1)) (ls' := [(2, _), (4, _), (3, _), (0, _), (1, _)]) 2 dX2_rankByTaps_57 (rfl : _ = 60) rfl (nI_1 _) (by decide) rfl ?_
          refine V_iinc Y.1 (v := nI (i + 1)) (ls' := [(3, _), (2, _), (4, _), (0, _), (1, _)]) 2 dX2_rankByTaps_60 (rfl : _ = 63) rfl (nI_1 _) (by decide) rfl ?_
          refine V_goto Y.1 (tgt := 4) dX2_rankByTaps_63 (by decide) ?_
          have e9 : ln_rk t w (i + 1) = ln_rk t w i + 1 := by rw [ln_rk, if_pos (Or.inl c_44)]
          have g9 := ih (i + 1) (by omega)
          rw [e9] at g9
          exact V_forget (ls' := [(3, _), (2, _), (0, _), (1, _)]) [0, 1, 3, 4] rfl (g9)
        · refine V_iload Y.1 0 dX2_rankByTaps_47 (rfl : _ = 49) rfl ?_
          refine V_if_eq Y.1 (tgt := 60) dX2_rankByTaps_49 (by decide) (rfl : _ = 52) (fun c_n => absurd c_n (by decide)) (fun _ => ?_)
          refine V_iload_n Y.1 1 dX2_rankByTaps_52 (rfl : _ = 53) rfl rfl ?_
          refine V_iload_n Y.1 4 dX2_rankByTaps_53 (rfl : _ = 54) rfl rfl ?_
          refine V_icmp_ge Y.1 (tgt := 60) dX2_rankByTaps_54 (by decide) (rfl : _ = 57) (fun c_54 => ?_) (fun c_54 => ?_)
          · have c_54 := (nI_leI (by omega) (by omega)).mp c_54
            refine V_iinc Y.1 (v := nI (i + 1)) (ls' := [(3, _), (4, _), (2, _), (0, _), (1, _)]) 1 dX2_rankByTaps_60 (rfl : _ = 63) rfl (nI_1 _) (by decide) rfl ?_
            refine V_goto Y.1 (tgt := 4) dX2_rankByTaps_63 (by decide) ?_
            have e9 : ln_rk t w (i + 1) = ln_rk t w i := by simp [ln_rk, c_22, c_44, c_54]
            have g9 := ih (i + 1) (by omega)
            rw [e9] at g9
            exact V_forget (ls' := [(3, _), (2, _), (0, _), (1, _)]) [0, 2, 3, 4] rfl (g9)
          · have c_54 : i < w := Nat.not_le.mp fun z => c_54 ((nI_leI (by omega) (by omega)).mpr z)
            refine V_iinc Y.1 (v := nI (ln_rk t w i + 1)) (ls' := [(2, _), (4, _), (3, _), (0, _), (1, _)]) 2 dX2_rankByTaps_57 (rfl : _ = 60) rfl (nI_1 _) (by decide) rfl ?_
            refine V_iinc Y.1 (v := nI (i + 1)) (ls' := [(3, _), (2, _), (4, _), (0, _), (1, _)]) 2 dX2_rankByTaps_60 (rfl : _ = 63) rfl (nI_1 _) (by decide) rfl ?_
            refine V_goto Y.1 (tgt := 4) dX2_rankByTaps_63 (by decide) ?_
            have e9 : ln_rk t w (i + 1) = ln_rk t w i + 1 := by simp [ln_rk, c_22, c_44, c_54]
            have g9 := ih (i + 1) (by omega)
            rw [e9] at g9
            exact V_forget (ls' := [(3, _), (2, _), (0, _), (1, _)]) [0, 1, 3, 4] rfl (g9)
  exact lp 12 0 rfl
