def s_zn : Nat → Nat → Int32
  | 0 => upd (upd (fun _ => 0) 2 200) 3 50
  | k + 1 => upd (s_zn k) (9 + k) (nI k / 2 + 1)
def F_ini : Nat → Int32 := fun j => if j = 13 then -1 else if j = 14 then -1 else 0
set_option maxRecDepth 100000 in
set_option maxHeartbeats 4000000 in
theorem c_X6_init (l : Launch) (D : va_G) (kA : Nat → ClassId) (H0 : Heap) (o : Nat) (fs : List Value) (h0 : hp D H0 o (eO 10 fs)) (hf : fs = [.null, .null, .null, .int 0, .null, .int 0, .int 0, .null, .int 0, .null, .int 0, .int 0, .int 0, .int 0, .int 0, .null, .int 0]) (hsz : H0.size = o + 1) : Ct l D kA yX6_init cX6_init 2 none 1 24 7 2129 H0 [.ref o] (blk o 8) (pV fun H => Rs D kA H o F_ini (s_zn 12) (fun _ => 0) (fun _ => 0) (fun _ => 0) (fun _ => 0) (fun _ => 0) (fun _ => 0) ∧ H.size = o + 8) := by
  refine Ct.of mi_X6_init (Nat.le_of_ble_eq_true rfl) (ls0 := [(0, _)]) rfl ?_
  intro Pp Ee Ss Mm Ar Bl Me Cc Y hs hnm
  have lp : ∀ (r k : Nat) (H : Heap), k + r = 12 → Rs D kA H o F_ini (s_zn k) (fun _ => 0) (fun _ => 0) (fun _ => 0) (fun _ => 0) (fun _ => 0) (fun _ => 0) → H.size = o + 8 → V Pp l Ee (rmO 1 24 7 2129) Ss Mm Ar Bl Me Cc 2 (AA H0 (blk o 8)) (QC Bl Ar Ss 7 2129 H0 (blk o 8) (pV fun H => Rs D kA H o F_ini (s_zn 12) (fun _ => 0) (fun _ => 0) (fun _ => 0) (fun _ => 0) (fun _ => 0) (fun _ => 0) ∧ H.size = o + 8)) H 7 2129 94 [(1, .int (nI k)), (0, .ref o)] [] := by
    clear h0 hsz
    intro r
    induction r with
    | zero =>
      intro k H hk hM sz
      obtain rfl : k = 12 := by omega
      refine V_iload_n Y.1 0 dX6_init_94 (rfl : _ = 95) rfl rfl ?_
      refine V_bipush Y.1 (v := 12) dX6_init_95 (rfl : _ = 97) (by decide) ?_
      refine V_icmp_ge Y.1 (tgt := 120) dX6_init_97 (by decide) (rfl : _ = 100) (fun _ => ?_) (fun c_n => absurd (by simp (disch := omega) only [Int32.lt_iff_toInt_lt, Int32.le_iff_toInt_le, ge_iff_le, gt_iff_lt, nI_toInt, Int32.reduceToInt] ; omega) c_n)
      exact V_retV Y.1 dX6_init_120 (Nat.le_of_ble_eq_true rfl) (Nat.le_of_ble_eq_true rfl) ⟨hM, sz⟩
    | succ r ih =>
      intro k H hk hM sz
      refine V_iload_n Y.1 0 dX6_init_94 (rfl : _ = 95) rfl rfl ?_
      refine V_bipush Y.1 (v := 12) dX6_init_95 (rfl : _ = 97) (by decide) ?_
      refine V_icmp_ge Y.1 (tgt := 120) dX6_init_97 (by decide) (rfl : _ = 100) (fun c_n => absurd c_n (by simp (disch := omega) only [Int32.lt_iff_toInt_lt, Int32.le_iff_toInt_le, ge_iff_le, gt_iff_lt, nI_toInt, Int32.reduceToInt] ; omega)) (fun _ => ?_)
      refine V_aload_n Y.1 1 dX6_init_100 (rfl : _ = 101) rfl rfl ?_
      refine V_get Y.1 fi_X6_9 hM.1 rfl dX6_init_101 (rfl : _ = 104) ?_
      refine V_bipush Y.1 (v := 9) dX6_init_104 (rfl : _ = 106) (by decide) ?_
      refine V_iload_n Y.1 0 dX6_init_106 (rfl : _ = 107) rfl rfl ?_
      refine V_iadd Y.1 dX6_init_107 (rfl : _ = 108) ?_
      refine V_nm (v := nI (9 + k)) (nI_add _ _) ?_
      refine V_iload_n Y.1 0 dX6_init_108 (rfl : _ = 109) rfl rfl ?_
      refine V_iconst Y.1 (v := 2) dX6_init_109 (rfl : _ = 110) (by decide) ?_
      refine V_idiv Y.1 dX6_init_110 (rfl : _ = 111) (by decide) ?_
      refine V_iconst Y.1 (v := 1) dX6_init_111 (rfl : _ = 112) (by decide) ?_
      refine V_iadd Y.1 dX6_init_112 (rfl : _ = 113) ?_
      refine V_iast Y.1 hM.2.1 (Or.inl ⟨by omega, by omega⟩) (by first | assumption | exact vp_in_nI (by omega) (by omega)) dX6_init_113 (rfl : _ = 114) (fun H113_14 h_new o_113 => ?_)
      rw [nI_clamp (by omega)] at h_new
      have hM := hM.a1 o_113 h_new
      clear h_new
      refine V_iinc Y.1 (v := nI (k + 1)) (ls' := [(1, _), (0, _)]) 0 dX6_init_114 (rfl : _ = 117) rfl (nI_1 _) (by decide) rfl ?_
      refine V_goto Y.1 (tgt := 94) dX6_init_117 (by decide) ?_
      exact ih (k + 1) _ (by omega) hM (o_113.1.trans sz)
  have lp2 : ∀ (H : Heap), Rs D kA H o F_ini (fun _ => 0) (fun _ => 0) (fun _ => 0) (fun _ => 0) (fun _ => 0) (fun _ => 0) (fun _ => 0) → H.size = o + 8 → V Pp l Ee (rmO 1 24 7 2129) Ss Mm Ar Bl Me Cc 2 (AA H0 (blk o 8)) (QC Bl Ar Ss 7 2129 H0 (blk o 8) (pV fun H => Rs D kA H o F_ini (s_zn 12) (fun _ => 0) (fun _ => 0) (fun _ => 0) (fun _ => 0) (fun _ => 0) (fun _ => 0) ∧ H.size = o + 8)) H 7 2129 75 [(0, .ref o)] [] := by
    clear h0 hsz
    intro H hM sz
    refine V_aload_n Y.1 0 dX6_init_75 (rfl : _ = 76) rfl rfl ?_
    refine V_get Y.1 fi_X6_9 hM.1 rfl dX6_init_76 (rfl : _ = 79) ?_
    refine V_iconst Y.1 (v := 2) dX6_init_79 (rfl : _ = 80) (by decide) ?_
    refine V_sipush Y.1 (v := 200) dX6_init_80 (rfl : _ = 83) (by decide) ?_
    refine V_iast Y.1 hM.2.1 (Or.inl ⟨by omega, by omega⟩) (by unfold vp_in; decide) dX6_init_83 (rfl : _ = 84) (fun H83_4 h_new o_83 => ?_)
    have h_new : hp D _ _ (eI kA 169 (upd _ 2 _)) := h_new
    have hM := hM.a1 o_83 h_new
    clear h_new
    refine V_aload_n Y.1 0 dX6_init_84 (rfl : _ = 85) rfl rfl ?_
    refine V_get Y.1 fi_X6_9 hM.1 rfl dX6_init_85 (rfl : _ = 88) ?_
    refine V_iconst Y.1 (v := 3) dX6_init_88 (rfl : _ = 89) (by decide) ?_
    refine V_bipush Y.1 (v := 50) dX6_init_89 (rfl : _ = 91) (by decide) ?_
    refine V_iast Y.1 hM.2.1 (Or.inl ⟨by omega, by omega⟩) (by unfold vp_in; decide) dX6_init_91 (rfl : _ = 92) (fun H91_12 h_new o_91 => ?_)
    have h_new : hp D _ _ (eI kA 169 (upd _ 3 _)) := h_new
    have hM := hM.a1 o_91 h_new
    clear h_new
    refine V_iconst Y.1 (v := 0) dX6_init_92 (rfl : _ = 93) (by decide) ?_
    refine V_istore_n Y.1 (ls' := [(1, _), (0, _)]) dX6_init_93 (rfl : _ = 94) rfl (by decide) rfl ?_
    exact lp 12 0 _ rfl hM (o_91.1.trans (o_83.1.trans sz))
  clear lp
  subst hf
  have sz : H0.size = H0.size := rfl
  refine V_aload_n Y.1 0 dX6_init_0 (rfl : _ = 1) rfl rfl ?_
  refine V_objInit Y.1 ow_X6_3 dX6_init_1 (rfl : _ = 4) (Nat.le_of_ble_eq_true rfl) (Nat.le_of_ble_eq_true rfl) (Nat.le_of_ble_eq_true rfl) (Nat.le_of_ble_eq_true rfl) ?_
  refine V_aload_n Y.1 0 dX6_init_4 (rfl : _ = 5) rfl rfl ?_
  refine V_sipush Y.1 (v := 169) dX6_init_5 (rfl : _ = 8) (by decide) ?_
  refine V_newI Y.1 (N := 169) ac_int (by decide) (by decide) (Nat.le_of_ble_eq_true rfl) (Nat.le_of_ble_eq_true rfl) (Nat.le_of_ble_eq_true rfl) dX6_init_8 (rfl : _ = 10) (fun H8_4 q_8 eq_8 z_8 h_new o_8 => ?_)
  have e_q8 : q_8 = H0.size := eq_8.trans sz
  have sz : Array.size H8_4 = H0.size + 1 := by rw [z_8, e_q8]
  have h0 := h0.off o_8 id
  have a1 := h_new
  obtain rfl : q_8 = o + 1 := by omega
  refine V_putF Y.1 fi_X6_9 fw_X6 rfl (by rw [hnm]; rfl) rfl rfl h0 (Or.inl ⟨by omega, by omega⟩) rfl rfl (Nat.le_of_ble_eq_true rfl) dX6_init_10 (rfl : _ = 13) (fun H10_10 h_new o_10 => ?_)
  have h0 : hp D _ _ (.inr (10, [_, _, _, _, _, _, _, _, _, _, _, _, _, _, _, _, _])) := h_new
  have a1 := a1.sto o_10 (by omega)
  have sz : Array.size H10_10 = H0.size + 1 := o_10.1.trans sz
  clear h_new
  refine V_aload_n Y.1 0 dX6_init_13 (rfl : _ = 14) rfl rfl ?_
  refine V_sipush Y.1 (v := 169) dX6_init_14 (rfl : _ = 17) (by decide) ?_
  refine V_newI Y.1 (N := 169) ac_int (by decide) (by decide) (Nat.le_of_ble_eq_true rfl) (Nat.le_of_ble_eq_true rfl) (Nat.le_of_ble_eq_true rfl) dX6_init_17 (rfl : _ = 19) (fun H17_17 q_17 eq_17 z_17 h_new o_17 => ?_)
  have e_q17 : q_17 = H0.size + 1 := eq_17.trans sz
  have sz : Array.size H17_17 = H0.size + 1 + 1 := by rw [z_17, e_q17]
  have h0 := h0.off o_17 id
  have a1 := a1.off o_17 id
  have a2 := h_new
  obtain rfl : q_17 = o + 2 := by omega
  refine V_putF Y.1 fi_X6_13 fw_X6 rfl (by rw [hnm]; rfl) rfl rfl h0 (Or.inl ⟨by omega, by omega⟩) rfl rfl (Nat.le_of_ble_eq_true rfl) dX6_init_19 (rfl : _ = 22) (fun H19_24 h_new o_19 => ?_)
  have h0 : hp D _ _ (.inr (10, [_, _, _, _, _, _, _, _, _, _, _, _, _, _, _, _, _])) := h_new
  have a1 := a1.sto o_19 (by omega)
  have a2 := a2.sto o_19 (by omega)
  have sz : Array.size H19_24 = H0.size + 1 + 1 := o_19.1.trans sz
  clear h_new
  refine V_aload_n Y.1 0 dX6_init_22 (rfl : _ = 23) rfl rfl ?_
  refine V_sipush Y.1 (v := 169) dX6_init_23 (rfl : _ = 26) (by decide) ?_
  refine V_newI Y.1 (N := 169) ac_int (by decide) (by decide) (Nat.le_of_ble_eq_true rfl) (Nat.le_of_ble_eq_true rfl) (Nat.le_of_ble_eq_true rfl) dX6_init_26 (rfl : _ = 28) (fun H26_32 q_26 eq_26 z_26 h_new o_26 => ?_)
  have e_q26 : q_26 = H0.size + 1 + 1 := eq_26.trans sz
  have sz : Array.size H26_32 = H0.size + 1 + 1 + 1 := by rw [z_26, e_q26]
  have h0 := h0.off o_26 id
  have a1 := a1.off o_26 id
  have a2 := a2.off o_26 id
  have a3 := h_new
  obtain rfl : q_26 = o + 3 := by omega
  refine V_putF Y.1 fi_X6_16 fw_X6 rfl (by rw [hnm]; rfl) rfl rfl h0 (Or.inl ⟨by omega, by omega⟩) rfl rfl (Nat.le_of_ble_eq_true rfl) dX6_init_28 (rfl : _ = 31) (fun H28_40 h_new o_28 => ?_)
  have h0 : hp D _ _ (.inr (10, [_, _, _, _, _, _, _, _, _, _, _, _, _, _, _, _, _])) := h_new
  have a1 := a1.sto o_28 (by omega)
  have a2 := a2.sto o_28 (by omega)
  have a3 := a3.sto o_28 (by omega)
  have sz : Array.size H28_40 = H0.size + 1 + 1 + 1 := o_28.1.trans sz
  clear h_new
  refine V_aload_n Y.1 0 dX6_init_31 (rfl : _ = 32) rfl rfl ?_
  refine V_sipush Y.1 (v := 1352) dX6_init_32 (rfl : _ = 35) (by decide) ?_
  refine V_newI Y.1 (N := 1352) ac_int (by decide) (by decide) (Nat.le_of_ble_eq_true rfl) (Nat.le_of_ble_eq_true rfl) (Nat.le_of_ble_eq_true rfl) dX6_init_35 (rfl : _ = 37) (fun H35_49 q_35 eq_35 z_35 h_new o_35 => ?_)
  have e_q35 : q_35 = H0.size + 1 + 1 + 1 := eq_35.trans sz
  have sz : Array.size H35_49 = H0.size + 1 + 1 + 1 + 1 := by rw [z_35, e_q35]
  have h0 := h0.off o_35 id
  have a1 := a1.off o_35 id
  have a2 := a2.off o_35 id
  have a3 := a3.off o_35 id
  have a4 := h_new
  obtain rfl : q_35 = o + 4 := by omega
  refine V_putF Y.1 fi_X6_19 fw_X6 rfl (by rw [hnm]; rfl) rfl rfl h0 (Or.inl ⟨by omega, by omega⟩) rfl rfl (Nat.le_of_ble_eq_true rfl) dX6_init_37 (rfl : _ = 40) (fun H37_58 h_new o_37 => ?_)
  have h0 : hp D _ _ (.inr (10, [_, _, _, _, _, _, _, _, _, _, _, _, _, _, _, _, _])) := h_new
  have a1 := a1.sto o_37 (by omega)
  have a2 := a2.sto o_37 (by omega)
  have a3 := a3.sto o_37 (by omega)
  have a4 := a4.sto o_37 (by omega)
  have sz : Array.size H37_58 = H0.size + 1 + 1 + 1 + 1 := o_37.1.trans sz
  clear h_new
  refine V_aload_n Y.1 0 dX6_init_40 (rfl : _ = 41) rfl rfl ?_
  refine V_bipush Y.1 (v := 30) dX6_init_41 (rfl : _ = 43) (by decide) ?_
  refine V_newC Y.1 (N := 30) ac_char (by decide) (by decide) (Nat.le_of_ble_eq_true rfl) (Nat.le_of_ble_eq_true rfl) (Nat.le_of_ble_eq_true rfl) dX6_init_43 (rfl : _ = 45) (fun H43_68 q_43 eq_43 z_43 h_new o_43 => ?_)
  have e_q43 : q_43 = H0.size + 1 + 1 + 1 + 1 := eq_43.trans sz
  have sz : Array.size H43_68 = H0.size + 1 + 1 + 1 + 1 + 1 := by rw [z_43, e_q43]
  have h0 := h0.off o_43 id
  have a1 := a1.off o_43 id
  have a2 := a2.off o_43 id
  have a3 := a3.off o_43 id
  have a4 := a4.off o_43 id
  have a5 := h_new
  obtain rfl : q_43 = o + 5 := by omega
  refine V_putF Y.1 fi_X6_22 fw_X6 rfl (by rw [hnm]; rfl) rfl rfl h0 (Or.inl ⟨by omega, by omega⟩) rfl rfl (Nat.le_of_ble_eq_true rfl) dX6_init_45 (rfl : _ = 48) (fun H45_78 h_new o_45 => ?_)
  have h0 : hp D _ _ (.inr (10, [_, _, _, _, _, _, _, _, _, _, _, _, _, _, _, _, _])) := h_new
  have a1 := a1.sto o_45 (by omega)
  have a2 := a2.sto o_45 (by omega)
  have a3 := a3.sto o_45 (by omega)
  have a4 := a4.sto o_45 (by omega)
  have a5 := a5.sto o_45 (by omega)
  have sz : Array.size H45_78 = H0.size + 1 + 1 + 1 + 1 + 1 := o_45.1.trans sz
  clear h_new
  refine V_aload_n Y.1 0 dX6_init_48 (rfl : _ = 49) rfl rfl ?_
  refine V_bipush Y.1 (v := 60) dX6_init_49 (rfl : _ = 51) (by decide) ?_
  refine V_newC Y.1 (N := 60) ac_char (by decide) (by decide) (Nat.le_of_ble_eq_true rfl) (Nat.le_of_ble_eq_true rfl) (Nat.le_of_ble_eq_true rfl) dX6_init_51 (rfl : _ = 53) (fun H51_89 q_51 eq_51 z_51 h_new o_51 => ?_)
  have e_q51 : q_51 = H0.size + 1 + 1 + 1 + 1 + 1 := eq_51.trans sz
  have sz : Array.size H51_89 = H0.size + 1 + 1 + 1 + 1 + 1 + 1 := by rw [z_51, e_q51]
  have h0 := h0.off o_51 id
  have a1 := a1.off o_51 id
  have a2 := a2.off o_51 id
  have a3 := a3.off o_51 id
  have a4 := a4.off o_51 id
  have a5 := a5.off o_51 id
  have a6 := h_new
  obtain rfl : q_51 = o + 6 := by omega
  refine V_putF Y.1 fi_X6_26 fw_X6 rfl (by rw [hnm]; rfl) rfl rfl h0 (Or.inl ⟨by omega, by omega⟩) rfl rfl (Nat.le_of_ble_eq_true rfl) dX6_init_53 (rfl : _ = 56) (fun H53_100 h_new o_53 => ?_)
  have h0 : hp D _ _ (.inr (10, [_, _, _, _, _, _, _, _, _, _, _, _, _, _, _, _, _])) := h_new
  have a1 := a1.sto o_53 (by omega)
  have a2 := a2.sto o_53 (by omega)
  have a3 := a3.sto o_53 (by omega)
  have a4 := a4.sto o_53 (by omega)
  have a5 := a5.sto o_53 (by omega)
  have a6 := a6.sto o_53 (by omega)
  have sz : Array.size H53_100 = H0.size + 1 + 1 + 1 + 1 + 1 + 1 := o_53.1.trans sz
  clear h_new
  refine V_aload_n Y.1 0 dX6_init_56 (rfl : _ = 57) rfl rfl ?_
  refine V_iconst Y.1 (v := -1) dX6_init_57 (rfl : _ = 58) (by decide) ?_
  refine V_put Y.1 fi_X6_29 fw_X6 rfl rfl h0 (Or.inl ⟨by omega, by omega⟩) rfl rfl (Nat.le_of_ble_eq_true rfl) dX6_init_58 (rfl : _ = 61) (fun H58_112 h_new o_58 => ?_)
  have h0 : hp D _ _ (.inr (10, [_, _, _, _, _, _, _, _, _, _, _, _, _, _, _, _, _])) := h_new
  have a1 := a1.sto o_58 (by omega)
  have a2 := a2.sto o_58 (by omega)
  have a3 := a3.sto o_58 (by omega)
  have a4 := a4.sto o_58 (by omega)
  have a5 := a5.sto o_58 (by omega)
  have a6 := a6.sto o_58 (by omega)
  have sz : Array.size H58_112 = H0.size + 1 + 1 + 1 + 1 + 1 + 1 := o_58.1.trans sz
  clear h_new
  refine V_aload_n Y.1 0 dX6_init_61 (rfl : _ = 62) rfl rfl ?_
  refine V_iconst Y.1 (v := -1) dX6_init_62 (rfl : _ = 63) (by decide) ?_
  refine V_put Y.1 fi_X6_33 fw_X6 rfl rfl h0 (Or.inl ⟨by omega, by omega⟩) rfl rfl (Nat.le_of_ble_eq_true rfl) dX6_init_63 (rfl : _ = 66) (fun H63_124 h_new o_63 => ?_)
  have h0 : hp D _ _ (.inr (10, [_, _, _, _, _, _, _, _, _, _, _, _, _, _, _, _, _])) := h_new
  have a1 := a1.sto o_63 (by omega)
  have a2 := a2.sto o_63 (by omega)
  have a3 := a3.sto o_63 (by omega)
  have a4 := a4.sto o_63 (by omega)
  have a5 := a5.sto o_63 (by omega)
  have a6 := a6.sto o_63 (by omega)
  have sz : Array.size H63_124 = H0.size + 1 + 1 + 1 + 1 + 1 + 1 := o_63.1.trans sz
  clear h_new
  refine V_aload_n Y.1 0 dX6_init_66 (rfl : _ = 67) rfl rfl ?_
  refine V_sipush Y.1 (v := 180) dX6_init_67 (rfl : _ = 70) (by decide) ?_
  refine V_newI Y.1 (N := 180) ac_int (by decide) (by decide) (Nat.le_of_ble_eq_true rfl) (Nat.le_of_ble_eq_true rfl) (Nat.le_of_ble_eq_true rfl) dX6_init_70 (rfl : _ = 72) (fun H70_136 q_70 eq_70 z_70 h_new o_70 => ?_)
  have e_q70 : q_70 = H0.size + 1 + 1 + 1 + 1 + 1 + 1 := eq_70.trans sz
  have sz : Array.size H70_136 = H0.size + 1 + 1 + 1 + 1 + 1 + 1 + 1 := by rw [z_70, e_q70]
  have h0 := h0.off o_70 id
  have a1 := a1.off o_70 id
  have a2 := a2.off o_70 id
  have a3 := a3.off o_70 id
  have a4 := a4.off o_70 id
  have a5 := a5.off o_70 id
  have a6 := a6.off o_70 id
  have a7 := h_new
  obtain rfl : q_70 = o + 7 := by omega
  refine V_putF Y.1 fi_X6_36 fw_X6 rfl (by rw [hnm]; rfl) rfl rfl h0 (Or.inl ⟨by omega, by omega⟩) rfl rfl (Nat.le_of_ble_eq_true rfl) dX6_init_72 (rfl : _ = 75) (fun H72_148 h_new o_72 => ?_)
  have h0 : hp D _ _ (.inr (10, [_, _, _, _, _, _, _, _, _, _, _, _, _, _, _, _, _])) := h_new
  have a1 := a1.sto o_72 (by omega)
  have a2 := a2.sto o_72 (by omega)
  have a3 := a3.sto o_72 (by omega)
  have a4 := a4.sto o_72 (by omega)
  have a5 := a5.sto o_72 (by omega)
  have a6 := a6.sto o_72 (by omega)
  have a7 := a7.sto o_72 (by omega)
  have sz : Array.size H72_148 = H0.size + 1 + 1 + 1 + 1 + 1 + 1 + 1 := o_72.1.trans sz
  clear h_new
  have hs8 := sz
  rw [hsz] at hs8
  refine lp2 _ ?_ ?_
  · exact ⟨h0, a1, a2, a3, a4, a5, a6, a7⟩
  · exact hs8

