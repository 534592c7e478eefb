/-! The class's calls that change. -/
theorem vu_ne {α : Type} {f : Nat → α} {i j : Nat} {v : α} (h : j ≠ i) : va_up f i v j = f j := if_neg h
theorem vu_eq {α : Type} {f : Nat → α} {i : Nat} {v : α} : va_up f i v i = v := if_pos rfl
theorem vu_vu {α : Type} {f : Nat → α} {i : Nat} {v w : α} : va_up (va_up f i v) i w = va_up f i w := by
  funext j
  by_cases e : j = i
  · subst e; rw [vu_eq, vu_eq]
  · rw [vu_ne e, vu_ne e, vu_ne e]
theorem gro_sz {ES : Nat → Prop} {H0 H1 H : Heap} (h : H1.size = H0.size) : gro ES H1 H = gro ES H0 H := by unfold gro; rw [h]
theorem nI_gt0 {u : Nat} (h : ¬ u = 0) (h2 : u < 2 ^ 31) : 0 < nI u := by
  rw [Int32.lt_iff_toInt_lt, nI_toInt h2]
  show (0 : Int) < u
  omega
def p_mv (π : Nat → Nat) (j k : Nat) : Nat := if k < j then π (4 + k) else π (3 + k)
theorem p_mv_1 (π : Nat → Nat) (j : Nat) : p_mv π j (j + 1) = π (4 + j) := by
  unfold p_mv
  rw [if_neg (by omega)]
  congr 1
  omega
theorem p_mv_s {a : Nat} (π : Nat → Nat) (j k : Nat) : va_up (fun k => some (sl a (p_mv π j k))) j (some (sl a (π (4 + j)))) k = some (sl a (p_mv π (j + 1) k)) := by
  by_cases e : k = j
  · subst e
    rw [vu_eq]
    unfold p_mv
    rw [if_pos (by omega)]
  · rw [vu_ne e]
    unfold p_mv
    by_cases g : k < j
    · rw [if_pos g, if_pos (by omega)]
    · rw [if_neg g, if_neg (by omega)]
theorem p_row {a u k : Nat} {π : Nat → Nat} (hu : u < 8) (hk : k < 8) : va_up (fun k => some (sl a (π (3 + k)))) u (some (sl a (π 1))) k = some (sl a (p_push π u (3 + k))) := by
  unfold p_push
  rw [if_pos hu, if_neg (by omega)]
  by_cases e : k = u
  · subst e
    rw [vu_eq, if_pos rfl]
  · rw [vu_ne e, if_neg (by omega)]
theorem p_row8 {a u k : Nat} {π : Nat → Nat} (hu : u = 8) (hk : k < 8) : va_up (fun k => some (sl a (p_mv π 7 k))) 7 (some (sl a (π 1))) k = some (sl a (p_push π u (3 + k))) := by
  unfold p_push
  rw [if_neg (by omega), if_neg (by omega)]
  by_cases e : k = 7
  · subst e
    rw [vu_eq, if_pos (by omega)]
  · rw [vu_ne e, if_neg (by omega), if_pos (by omega)]
    unfold p_mv
    rw [if_pos (by omega), show 3 + k + 1 = 4 + k by omega]
theorem p_sw0 {π : Nat → Nat} {j : Nat} : p_swap π 0 j 0 = π j := if_pos rfl
theorem p_sw1 {π : Nat → Nat} {j : Nat} : p_swap π 0 (3 + j) 1 = π 1 := by
  unfold p_swap
  rw [if_neg (by decide), if_neg (by omega)]
theorem p_roww {a u k : Nat} {π : Nat → Nat} (hu : 0 < u) (hk : k < 8) : va_up (fun k => some (sl a (π (3 + k)))) (u - 1) (some (sl a (π 0))) k = some (sl a (p_swap π 0 (3 + (u - 1)) (3 + k))) := by
  unfold p_swap
  rw [if_neg (by omega)]
  by_cases e : k = u - 1
  · subst e
    rw [vu_eq, if_pos rfl]
  · rw [vu_ne e, if_neg (by omega)]
section FSR
variable {D : va_G} {kA : Nat → ClassId} {H H1 : Heap} {a : Nat} {W : Nat → MS} {π π1 : Nat → Nat} {ES F : Nat → Prop} {u u1 : Nat} {hs ep fc hs1 ep1 fc1 : Int32} {no : Nat} {go : Nat → Int32} {vs cs ns : Nat} {gs : Nat → Int32}
/-- the object and its row of the history have changed -/
theorem Fs.rol (h : Fs D kA H a W π ES u hs ep fc no go vs cs ns gs) (o : off (fun q => q = a ∨ q = a + 88) H H1) (ho : Ob D kA H1 a π1 u1 hs1 ep1 fc1) (hp : Pm π1) (hu : u1 ≤ 8) (hh : hs1 = 0 ∨ hs1 = 1) : Fs D kA H1 a W π1 ES u1 hs1 ep1 fc1 no go vs cs ns gs := by
  obtain ⟨a1, a2, a3, a4, a5, a6, a7, a8⟩ := h
  have hl := a7.2.1
  exact ⟨ho, a2.kept o (fun k hk q hq z => by have := sl_lo a k; have := sl_88 (a := a) (k := k); have := hq.1; have := hq.2; exact z.elim (fun e => by omega) (fun e => by omega)) (fun q hq z => by have := (a7.1 q hq).1; exact z.elim (fun e => by omega) (fun e => by omega)),
    a3.off o (fun z => z.elim (fun e => by omega) (fun e => by omega)) (fun z => z.elim (fun e => by omega) (fun e => by omega)), a4.off o (fun z => z.elim (fun e => by omega) (fun e => by omega)) (fun z => z.elim (fun e => by omega) (fun e => by omega)), a5.off o (fun q hq z => by have := hq.1; exact z.elim (fun e => by omega) (fun e => by omega)), hp, a7.off o, hu, hh⟩
/-- the script has changed -/
theorem Fs.scr {vs1 cs1 n1 : Nat} {g1 : Nat → Int32} (h : Fs D kA H a W π ES u hs ep fc no go vs cs ns gs) (o : off F H H1) (hf : ∀ q, F q → q = a + 323 ∨ q = vs) (hs9 : Sb D kA H1 (a + 323) vs1 cs1 n1 g1) (hl1 : Lay H1 a vs1 ES) : Fs D kA H1 a W π ES u hs ep fc no go vs1 cs1 n1 g1 := by
  obtain ⟨a1, a2, a3, a4, a5, a6, a7, a8⟩ := h
  have hl := a7.2.1
  exact ⟨a1.off o (fun z => by have := hf _ z; omega) (fun z => by have := hf _ z; omega), a2.kept o (fun k hk q hq z => by have := hf _ z; have := sl_hi (a := a) hk; have := hq.2; omega) (fun q hq z => by have := hf _ z; have := (a7.1 q hq); omega),
    a3.off o (fun z => by have := hf _ z; omega) (fun z => by have := hf _ z; omega), hs9, a5.off o (fun q hq z => by have := hf _ z; have := hq.1; have := hq.2; omega), a6, hl1, a8⟩
end FSR
set_option maxRecDepth 100000 in
set_option maxHeartbeats 4000000 in
theorem c_X3_performU_0 (l : Launch) (D : va_G) (kA : Nat → ClassId) (H0 : Heap) (m : Nat) (M : MS) (ES : Nat → Prop) (i : Nat) (hi : i < 8) (x y : Int32) (hM : Mc D kA H0 m M ES) (hn : M.1 0 = nI i) : Ct l D kA yX3_perform cX3_perform 4 (some .int) 5 119 8 24 H0 [.ref m, .int 0, .int x, .int y] (blk m 29) (pI fun v H => v = nI i ∧ Mc D kA H m (m_addCard M i (if x = 1 then 1 else 0)) (gro ES H0 H)) := by
  refine Ct.of mi_X3_perform (Nat.le_of_ble_eq_true rfl) (ls0 := [(0, _), (1, _), (2, _), (3, _)]) rfl ?_
  intro Pp Ee Ss Mm Ar Bl Me Cc Y hsH hnm
  obtain ⟨E, hK⟩ := id hM
  have sz : H0.size = H0.size := rfl
  refine V_iload_n Y.1 1 dX3_perform_0 (rfl : _ = 1) rfl rfl ?_
  refine V_tableIn Y.1 (tgt := 44) dX3_perform_1 (by decide) (by decide) rfl (by decide) ?_
  refine V_aload_n Y.1 0 dX3_perform_44 (rfl : _ = 45) rfl rfl ?_
  refine V_iload_n Y.1 2 dX3_perform_45 (rfl : _ = 46) rfl rfl ?_
  refine V_iconst Y.1 (v := 1) dX3_perform_46 (rfl : _ = 47) (by decide) ?_
  refine V_icmp_ne Y.1 (tgt := 54) dX3_perform_47 (by decide) (rfl : _ = 50) (fun c_47 => ?_) (fun c_47 => ?_)
  · refine V_iconst Y.1 (v := 0) dX3_perform_54 (rfl : _ = 55) (by decide) ?_
    refine V_cI Y (rV Y (c_X3_addCard l D kA _ m M ES i hi 0 hM hn (by decide)) mi_X3_addCard vi_X3_100 rfl hK.1.1 rfl rfl (Nat.le_of_ble_eq_true rfl) ⟨Nat.le_of_ble_eq_true rfl, Nat.le_of_ble_eq_true rfl⟩ (Nat.le_of_ble_eq_true rfl) (Nat.le_of_ble_eq_true rfl) dX3_perform_55) (fun q hq => Or.inl hq) (rfl : _ = 58) (fun v_55 H55_7 hq_55 o_55 => ?_)
    obtain ⟨hv, hM1, hz⟩ := hq_55
    exact V_ret Y.1 dX3_perform_58 rfl (Nat.le_of_ble_eq_true rfl) (Nat.le_of_ble_eq_true rfl) ⟨hv, by rw [gro_z hz, if_neg c_47]; exact hM1⟩
  · refine V_iconst Y.1 (v := 1) dX3_perform_50 (rfl : _ = 51) (by decide) ?_
    refine V_goto Y.1 (tgt := 55) dX3_perform_51 (by decide) ?_
    refine V_cI Y (rV Y (c_X3_addCard l D kA _ m M ES i hi 1 hM hn (by decide)) mi_X3_addCard vi_X3_100 rfl hK.1.1 rfl rfl (Nat.le_of_ble_eq_true rfl) ⟨Nat.le_of_ble_eq_true rfl, Nat.le_of_ble_eq_true rfl⟩ (Nat.le_of_ble_eq_true rfl) (Nat.le_of_ble_eq_true rfl) dX3_perform_55) (fun q hq => Or.inl hq) (rfl : _ = 58) (fun v_55 H55_12 hq_55 o_55 => ?_)
    obtain ⟨hv, hM1, hz⟩ := hq_55
    exact V_ret Y.1 dX3_perform_58 rfl (Nat.le_of_ble_eq_true rfl) (Nat.le_of_ble_eq_true rfl) ⟨hv, by rw [gro_z hz, if_pos c_47]; exact hM1⟩

set_option maxRecDepth 100000 in
set_option maxHeartbeats 4000000 in
theorem c_X3_performU_1 (l : Launch) (D : va_G) (kA : Nat → ClassId) (H0 : Heap) (m : Nat) (M : MS) (ES : Nat → Prop) (i : Nat) (hi : i < 8) (x : Int32) (hM : Mc D kA H0 m M ES)  : Ct l D kA yX3_perform cX3_perform 4 (some .int) 5 119 8 24 H0 [.ref m, .int 1, .int (nI i), .int x] (blk m 29) (pI fun v H => v = (M.2.2.2.1 i).1 1 + x ∧ Mc D kA H m (m_load M i x) (gro ES H0 H)) := by
  refine Ct.of mi_X3_perform (Nat.le_of_ble_eq_true rfl) (ls0 := [(0, _), (1, _), (2, _), (3, _)]) rfl ?_
  intro Pp Ee Ss Mm Ar Bl Me Cc Y hsH hnm
  obtain ⟨E, hK⟩ := id hM
  have sz : H0.size = H0.size := rfl
  refine V_iload_n Y.1 1 dX3_perform_0 (rfl : _ = 1) rfl rfl ?_
  refine V_tableIn Y.1 (tgt := 59) dX3_perform_1 (by decide) (by decide) rfl (by decide) ?_
  refine V_aload_n Y.1 0 dX3_perform_59 (rfl : _ = 60) rfl rfl ?_
  refine V_iload_n Y.1 2 dX3_perform_60 (rfl : _ = 61) rfl rfl ?_
  refine V_iload_n Y.1 3 dX3_perform_61 (rfl : _ = 62) rfl rfl ?_
  refine V_cI Y (rV Y (c_X3_addMoney l D kA _ m M ES i hi x hM) mi_X3_addMoney vi_X3_104 rfl hK.1.1 rfl rfl (Nat.le_of_ble_eq_true rfl) ⟨Nat.le_of_ble_eq_true rfl, Nat.le_of_ble_eq_true rfl⟩ (Nat.le_of_ble_eq_true rfl) (Nat.le_of_ble_eq_true rfl) dX3_perform_62) (fun q hq => Or.inl hq) (rfl : _ = 65) (fun v_62 H62_5 hq_62 o_62 => ?_)
  obtain ⟨hv, hM1, hz⟩ := hq_62
  exact V_ret Y.1 dX3_perform_65 rfl (Nat.le_of_ble_eq_true rfl) (Nat.le_of_ble_eq_true rfl) ⟨hv, by rw [gro_z hz]; exact hM1⟩

set_option maxRecDepth 100000 in
set_option maxHeartbeats 4000000 in
theorem c_X3_performU_2 (l : Launch) (D : va_G) (kA : Nat → ClassId) (H0 : Heap) (m : Nat) (M : MS) (ES : Nat → Prop) (i : Nat) (hi : i < 8) (w : Nat) (hw : w < 12) (d : Nat) (hd : M.1 1 / 1440 = nI d) (hd2 : d < 2 ^ 31) (hM : Mc D kA H0 m M ES)  : Ct l D kA yX3_perform cX3_perform 4 (some .int) 5 119 8 24 H0 [.ref m, .int 2, .int (nI i), .int (nI w)] (blk m 29) (pI fun v H => v = (m_enterAt M i w d).1 ∧ Mc D kA H m (m_enterAt M i w d).2 (gro ES H0 H)) := by
  refine Ct.of mi_X3_perform (Nat.le_of_ble_eq_true rfl) (ls0 := [(0, _), (1, _), (2, _), (3, _)]) rfl ?_
  intro Pp Ee Ss Mm Ar Bl Me Cc Y hsH hnm
  obtain ⟨E, hK⟩ := id hM
  have sz : H0.size = H0.size := rfl
  refine V_iload_n Y.1 1 dX3_perform_0 (rfl : _ = 1) rfl rfl ?_
  refine V_tableIn Y.1 (tgt := 66) dX3_perform_1 (by decide) (by decide) rfl (by decide) ?_
  refine V_aload_n Y.1 0 dX3_perform_66 (rfl : _ = 67) rfl rfl ?_
  refine V_iload_n Y.1 2 dX3_perform_67 (rfl : _ = 68) rfl rfl ?_
  refine V_iload_n Y.1 3 dX3_perform_68 (rfl : _ = 69) rfl rfl ?_
  refine V_cI Y (rV Y (c_X3_enterAt l D kA _ m M ES i hi w hw d hd hd2 hM) mi_X3_enterAt vi_X3_107 rfl hK.1.1 rfl rfl (Nat.le_of_ble_eq_true rfl) ⟨Nat.le_of_ble_eq_true rfl, Nat.le_of_ble_eq_true rfl⟩ (Nat.le_of_ble_eq_true rfl) (Nat.le_of_ble_eq_true rfl) dX3_perform_69) (fun q hq => Or.inl hq) (rfl : _ = 72) (fun v_69 H69_5 hq_69 o_69 => ?_)
  obtain ⟨hv, hM1⟩ := hq_69
  refine V_if_eq Y.1 (tgt := 79) dX3_perform_72 (by decide) (rfl : _ = 75) (fun c_72 => ?_) (fun c_72 => ?_)
  · refine V_iconst Y.1 (v := 0) dX3_perform_79 (rfl : _ = 80) (by decide) ?_
    exact V_ret Y.1 dX3_perform_80 rfl (Nat.le_of_ble_eq_true rfl) (Nat.le_of_ble_eq_true rfl) ⟨by rw [← hv]; rcases m_enterAt_z M i w d with z | z <;> rw [← hv] at z <;> first | exact absurd z c_72 | exact z.symm | exact c_72.symm | (rw [z] at c_72; exact absurd c_72 (by decide)), hM1⟩
  · refine V_iconst Y.1 (v := 1) dX3_perform_75 (rfl : _ = 76) (by decide) ?_
    refine V_goto Y.1 (tgt := 80) dX3_perform_76 (by decide) ?_
    exact V_ret Y.1 dX3_perform_80 rfl (Nat.le_of_ble_eq_true rfl) (Nat.le_of_ble_eq_true rfl) ⟨by rw [← hv]; rcases m_enterAt_z M i w d with z | z <;> rw [← hv] at z <;> first | exact absurd z c_72 | exact z.symm | exact c_72.symm | (rw [z] at c_72; exact absurd c_72 (by decide)), hM1⟩

set_option maxRecDepth 100000 in
set_option maxHeartbeats 4000000 in
theorem c_X3_performU_3 (l : Launch) (D : va_G) (kA : Nat → ClassId) (H0 : Heap) (m : Nat) (M : MS) (ES : Nat → Prop) (i : Nat) (hi : i < 8) (j w : Nat) (hj : (M.2.2.2.1 i).1 5 = nI j) (hj2 : j < 12) (hw : w < 12) (d : Nat) (hd : M.1 1 / 1440 = nI d) (hd2 : d < 2 ^ 31) (hM : Mc D kA H0 m M ES)  : Ct l D kA yX3_perform cX3_perform 4 (some .int) 5 119 8 24 H0 [.ref m, .int 3, .int (nI i), .int (nI w)] (blk m 29) (pI fun v H => v = m_leaveX M i j w d ∧ Mc D kA H m (m_leave M i w d (m_leaveX M i j w d)) (gro ES H0 H)) := by
  refine Ct.of mi_X3_perform (Nat.le_of_ble_eq_true rfl) (ls0 := [(0, _), (1, _), (2, _), (3, _)]) rfl ?_
  intro Pp Ee Ss Mm Ar Bl Me Cc Y hsH hnm
  obtain ⟨E, hK⟩ := id hM
  have sz : H0.size = H0.size := rfl
  refine V_iload_n Y.1 1 dX3_perform_0 (rfl : _ = 1) rfl rfl ?_
  refine V_tableIn Y.1 (tgt := 81) dX3_perform_1 (by decide) (by decide) rfl (by decide) ?_
  refine V_aload_n Y.1 0 dX3_perform_81 (rfl : _ = 82) rfl rfl ?_
  refine V_iload_n Y.1 2 dX3_perform_82 (rfl : _ = 83) rfl rfl ?_
  refine V_iload_n Y.1 3 dX3_perform_83 (rfl : _ = 84) rfl rfl ?_
  refine V_cI Y (rV Y (c_X3_leaveAt l D kA _ m M ES i hi j w hj hj2 hw d hd hd2 hM) mi_X3_leaveAt vi_X3_111 rfl hK.1.1 rfl rfl (Nat.le_of_ble_eq_true rfl) ⟨Nat.le_of_ble_eq_true rfl, Nat.le_of_ble_eq_true rfl⟩ (Nat.le_of_ble_eq_true rfl) (Nat.le_of_ble_eq_true rfl) dX3_perform_84) (fun q hq => Or.inl hq) (rfl : _ = 87) (fun v_84 H84_5 hq_84 o_84 => ?_)
  obtain ⟨hv, hM1⟩ := hq_84
  exact V_ret Y.1 dX3_perform_87 rfl (Nat.le_of_ble_eq_true rfl) (Nat.le_of_ble_eq_true rfl) ⟨hv, hM1⟩

set_option maxRecDepth 100000 in
set_option maxHeartbeats 4000000 in
theorem c_X3_performU_4 (l : Launch) (D : va_G) (kA : Nat → ClassId) (H0 : Heap) (m : Nat) (M : MS) (ES : Nat → Prop) (i : Nat) (hi : i < 8) (j w d : Nat) (hj : (M.2.2.2.1 i).1 11 = nI j) (hj2 : j < 12) (hw : w < 12) (hd : (M.2.2.2.1 i).1 12 = nI d) (hd2 : d < 2 ^ 31) (hM : Mc D kA H0 m M ES)  : Ct l D kA yX3_perform cX3_perform 4 (some .int) 5 119 8 24 H0 [.ref m, .int 4, .int (nI i), .int (nI w)] (blk m 29) (pI fun v H => v = m_backX M i j w ∧ Mc D kA H m (m_back M i d (m_backX M i j w)) (gro ES H0 H)) := by
  refine Ct.of mi_X3_perform (Nat.le_of_ble_eq_true rfl) (ls0 := [(0, _), (1, _), (2, _), (3, _)]) rfl ?_
  intro Pp Ee Ss Mm Ar Bl Me Cc Y hsH hnm
  obtain ⟨E, hK⟩ := id hM
  have sz : H0.size = H0.size := rfl
  refine V_iload_n Y.1 1 dX3_perform_0 (rfl : _ = 1) rfl rfl ?_
  refine V_tableIn Y.1 (tgt := 88) dX3_perform_1 (by decide) (by decide) rfl (by decide) ?_
  refine V_aload_n Y.1 0 dX3_perform_88 (rfl : _ = 89) rfl rfl ?_
  refine V_iload_n Y.1 2 dX3_perform_89 (rfl : _ = 90) rfl rfl ?_
  refine V_iload_n Y.1 3 dX3_perform_90 (rfl : _ = 91) rfl rfl ?_
  refine V_cI Y (rV Y (c_X3_payBack l D kA _ m M ES i hi j w d hj hj2 hw hd hd2 hM) mi_X3_payBack vi_X3_114 rfl hK.1.1 rfl rfl (Nat.le_of_ble_eq_true rfl) ⟨Nat.le_of_ble_eq_true rfl, Nat.le_of_ble_eq_true rfl⟩ (Nat.le_of_ble_eq_true rfl) (Nat.le_of_ble_eq_true rfl) dX3_perform_91) (fun q hq => Or.inl hq) (rfl : _ = 94) (fun v_91 H91_5 hq_91 o_91 => ?_)
  obtain ⟨hv, hM1⟩ := hq_91
  exact V_ret Y.1 dX3_perform_94 rfl (Nat.le_of_ble_eq_true rfl) (Nat.le_of_ble_eq_true rfl) ⟨hv, hM1⟩

set_option maxRecDepth 100000 in
set_option maxHeartbeats 4000000 in
theorem c_X3_performU_5 (l : Launch) (D : va_G) (kA : Nat → ClassId) (H0 : Heap) (m : Nat) (M : MS) (ES : Nat → Prop) (w : Nat) (hw : w < 12) (x : Int32) (hM : Mc D kA H0 m M ES)  : Ct l D kA yX3_perform cX3_perform 4 (some .int) 5 119 8 24 H0 [.ref m, .int 5, .int (nI w), .int x] (blk m 29) (pI fun v H => v = M.2.1 w ∧ Mc D kA H m (m_zone M w x) (gro ES H0 H)) := by
  refine Ct.of mi_X3_perform (Nat.le_of_ble_eq_true rfl) (ls0 := [(0, _), (1, _), (2, _), (3, _)]) rfl ?_
  intro Pp Ee Ss Mm Ar Bl Me Cc Y hsH hnm
  obtain ⟨E, hK⟩ := id hM
  have sz : H0.size = H0.size := rfl
  refine V_iload_n Y.1 1 dX3_perform_0 (rfl : _ = 1) rfl rfl ?_
  refine V_tableIn Y.1 (tgt := 95) dX3_perform_1 (by decide) (by decide) rfl (by decide) ?_
  refine V_aload_n Y.1 0 dX3_perform_95 (rfl : _ = 96) rfl rfl ?_
  refine V_iload_n Y.1 2 dX3_perform_96 (rfl : _ = 97) rfl rfl ?_
  refine V_iload_n Y.1 3 dX3_perform_97 (rfl : _ = 98) rfl rfl ?_
  refine V_cI Y (rV Y (c_X3_changeZone l D kA _ m M ES w hw x hM) mi_X3_changeZone vi_X3_117 rfl hK.1.1 rfl rfl (Nat.le_of_ble_eq_true rfl) ⟨Nat.le_of_ble_eq_true rfl, Nat.le_of_ble_eq_true rfl⟩ (Nat.le_of_ble_eq_true rfl) (Nat.le_of_ble_eq_true rfl) dX3_perform_98) (fun q hq => Or.inl hq) (rfl : _ = 101) (fun v_98 H98_5 hq_98 o_98 => ?_)
  obtain ⟨hv, hM1, hz⟩ := hq_98
  exact V_ret Y.1 dX3_perform_101 rfl (Nat.le_of_ble_eq_true rfl) (Nat.le_of_ble_eq_true rfl) ⟨hv, by rw [gro_z hz]; exact hM1⟩

set_option maxRecDepth 100000 in
set_option maxHeartbeats 4000000 in
theorem c_X3_performU_6 (l : Launch) (D : va_G) (kA : Nat → ClassId) (H0 : Heap) (m : Nat) (M : MS) (ES : Nat → Prop) (x y : Int32) (hM : Mc D kA H0 m M ES)  : Ct l D kA yX3_perform cX3_perform 4 (some .int) 5 119 8 24 H0 [.ref m, .int 6, .int x, .int y] (blk m 29) (pI fun v H => v = M.1 7 ∧ Mc D kA H m (m_fares M x y) (gro ES H0 H)) := by
  refine Ct.of mi_X3_perform (Nat.le_of_ble_eq_true rfl) (ls0 := [(0, _), (1, _), (2, _), (3, _)]) rfl ?_
  intro Pp Ee Ss Mm Ar Bl Me Cc Y hsH hnm
  obtain ⟨E, hK⟩ := id hM
  have sz : H0.size = H0.size := rfl
  refine V_iload_n Y.1 1 dX3_perform_0 (rfl : _ = 1) rfl rfl ?_
  refine V_tableIn Y.1 (tgt := 102) dX3_perform_1 (by decide) (by decide) rfl (by decide) ?_
  refine V_aload_n Y.1 0 dX3_perform_102 (rfl : _ = 103) rfl rfl ?_
  refine V_iload_n Y.1 2 dX3_perform_103 (rfl : _ = 104) rfl rfl ?_
  refine V_iload_n Y.1 3 dX3_perform_104 (rfl : _ = 105) rfl rfl ?_
  refine V_cI Y (rV Y (c_X3_changeFares l D kA _ m M ES x y hM) mi_X3_changeFares vi_X3_120 rfl hK.1.1 rfl rfl (Nat.le_of_ble_eq_true rfl) ⟨Nat.le_of_ble_eq_true rfl, Nat.le_of_ble_eq_true rfl⟩ (Nat.le_of_ble_eq_true rfl) (Nat.le_of_ble_eq_true rfl) dX3_perform_105) (fun q hq => Or.inl hq) (rfl : _ = 108) (fun v_105 H105_5 hq_105 o_105 => ?_)
  obtain ⟨hv, hM1, hz⟩ := hq_105
  exact V_ret Y.1 dX3_perform_108 rfl (Nat.le_of_ble_eq_true rfl) (Nat.le_of_ble_eq_true rfl) ⟨hv, by rw [gro_z hz]; exact hM1⟩

set_option maxRecDepth 100000 in
set_option maxHeartbeats 4000000 in
theorem c_X3_performU_7 (l : Launch) (D : va_G) (kA : Nat → ClassId) (H0 : Heap) (m : Nat) (M : MS) (ES : Nat → Prop) (x y : Int32) (n : Nat) (hn : M.1 0 = nI n) (hn8 : n ≤ 8) (hM : Mc D kA H0 m M ES) (ht : ∀ i, i < n → ¬ (M.2.2.2.1 i).1 2 = 0 → ∃ a : Nat, (M.2.2.2.1 i).1 4 = nI a ∧ a < 2 ^ 30) : Ct l D kA yX3_perform cX3_perform 4 (some .int) 5 119 8 24 H0 [.ref m, .int 7, .int x, .int y] (blk m 29) (pI fun v H => v = nI (m_pass M x n).1 ∧ Mc D kA H m (m_pass M x n).2 (gro ES H0 H)) := by
  refine Ct.of mi_X3_perform (Nat.le_of_ble_eq_true rfl) (ls0 := [(0, _), (1, _), (2, _), (3, _)]) rfl ?_
  intro Pp Ee Ss Mm Ar Bl Me Cc Y hsH hnm
  obtain ⟨E, hK⟩ := id hM
  have sz : H0.size = H0.size := rfl
  refine V_iload_n Y.1 1 dX3_perform_0 (rfl : _ = 1) rfl rfl ?_
  refine V_tableOut Y.1 (tgt := 109) dX3_perform_1 (by decide) (by decide) ?_
  refine V_aload_n Y.1 0 dX3_perform_109 (rfl : _ = 110) rfl rfl ?_
  refine V_iload_n Y.1 2 dX3_perform_110 (rfl : _ = 111) rfl rfl ?_
  refine V_cI Y (rV Y (c_X3_passTime l D kA _ m M ES x n hn hn8 hM ht) mi_X3_passTime vi_X3_123 rfl hK.1.1 rfl rfl (Nat.le_of_ble_eq_true rfl) ⟨Nat.le_of_ble_eq_true rfl, Nat.le_of_ble_eq_true rfl⟩ (Nat.le_of_ble_eq_true rfl) (Nat.le_of_ble_eq_true rfl) dX3_perform_111) (fun q hq => Or.inl hq) (rfl : _ = 114) (fun v_111 H111_4 hq_111 o_111 => ?_)
  obtain ⟨hv, hM1⟩ := hq_111
  exact V_ret Y.1 dX3_perform_114 rfl (Nat.le_of_ble_eq_true rfl) (Nat.le_of_ble_eq_true rfl) ⟨hv, hM1⟩

theorem c_X3_problemOf_all (l : Launch) (D : va_G) (kA : Nat → ClassId) (H0 : Heap) (m : Nat) (M : MS) (ES : Nat → Prop) (k : Nat) (hk : k < 8) (x y : Int32) (hM : Mc D kA H0 m M ES) : Ct l D kA yX3_problemOf cX3_problemOf 4 (some .int) 3 63 0 0 H0 [.ref m, .int (nI k), .int x, .int y] (nof) (pI fun v H => v = m_prob M k x y ∧ H = H0) := by
  match k, hk with
  | 0, _ => exact c_X3_problemOf_0 l D kA H0 m M ES x y hM
  | 1, _ => exact c_X3_problemOf_1 l D kA H0 m M ES x y hM
  | 2, _ => exact c_X3_problemOf_2 l D kA H0 m M ES x y hM
  | 3, _ => exact c_X3_problemOf_3 l D kA H0 m M ES x y hM
  | 4, _ => exact c_X3_problemOf_4 l D kA H0 m M ES x y hM
  | 5, _ => exact c_X3_problemOf_5 l D kA H0 m M ES x y hM
  | 6, _ => exact c_X3_problemOf_6 l D kA H0 m M ES x y hM
  | 7, _ => exact c_X3_problemOf_7 l D kA H0 m M ES x y hM

theorem c_X3_performU (l : Launch) (D : va_G) (kA : Nat → ClassId) (H0 : Heap) (m : Nat) (M : MS) (ES : Nat → Prop) (k : Nat) (hk : k < 8) (x y : Int32) (n d : Nat) (hM : Mc D kA H0 m M ES) (hI : MI M n d) (hz : m_prob M k x y = 0) : Ct l D kA yX3_perform cX3_perform 4 (some .int) 5 119 8 24 H0 [.ref m, .int (nI k), .int x, .int y] (blk m 29) (pI fun v H => v = (m_do M d n k x y).1 ∧ Mc D kA H m (m_do M d n k x y).2 (gro ES H0 H)) := by
  obtain ⟨hn, hn8, hd, hd2, hc⟩ := id hI
  match k, hk with
  | 0, _ =>
    have e : m_do M d n 0 x y = (nI n, m_addCard M n (if x = 1 then 1 else 0)) := by show (M.1 0, m_addCard M n (if x = 1 then 1 else 0)) = _; rw [hn]
    rw [e]
    exact c_X3_performU_0 l D kA H0 m M ES n (pr_0 hn hn8 hz) x y hM hn
  | 1, _ =>
    obtain ⟨i, hi, hi8, rfl⟩ := b_card_n hn hn8 (pr_1 hz)
    rw [m_do_1 hi8]
    exact c_X3_performU_1 l D kA H0 m M ES i hi8 y hM
  | 2, _ =>
    obtain ⟨i, hi, hi8, rfl⟩ := b_card_n hn hn8 (pr_2 hz).1
    obtain ⟨w, hw, rfl⟩ := b_st_in (pr_2 hz).2
    rw [m_do_2 hi8 hw]
    exact c_X3_performU_2 l D kA H0 m M ES i hi8 w hw d hd (by omega) hM
  | 3, _ =>
    obtain ⟨g1, g2, g3⟩ := pr_3 hz
    obtain ⟨i, hi, hi8, rfl⟩ := b_card_n hn hn8 g1
    obtain ⟨w, hw, rfl⟩ := b_st_in g2
    rw [show m_c M (nI i) = M.2.2.2.1 i by rw [m_c, nI_clamp (by omega)]] at g3
    obtain ⟨-, ⟨j, hj2, hj⟩, -⟩ := (hc i hi).2.1 g3
    rw [m_do_3 hi8 hw hj2 hj]
    exact c_X3_performU_3 l D kA H0 m M ES i hi8 j w hj hj2 hw d hd (by omega) hM
  | 4, _ =>
    obtain ⟨g1, g2, g3⟩ := pr_4 hz
    obtain ⟨i, hi, hi8, rfl⟩ := b_card_n hn hn8 g1
    obtain ⟨w, hw, rfl⟩ := b_st_in g2
    rw [show m_c M (nI i) = M.2.2.2.1 i by rw [m_c, nI_clamp (by omega)]] at g3
    obtain ⟨⟨j, hj2, hj⟩, e, he2, he⟩ := (hc i hi).2.2 g3
    rw [m_do_4 hi8 hw hj2 hj he2 he]
    exact c_X3_performU_4 l D kA H0 m M ES i hi8 j w e hj hj2 hw he (by omega) hM
  | 5, _ =>
    obtain ⟨w, hw, rfl⟩ := b_st_in (pr_5 hz)
    rw [m_do_5 hw]
    exact c_X3_performU_5 l D kA H0 m M ES w hw y hM
  | 6, _ => exact c_X3_performU_6 l D kA H0 m M ES x y hM
  | 7, _ => exact c_X3_performU_7 l D kA H0 m M ES x y n hn hn8 hM (fun i hi q => ((hc i hi).2.1 q).2.2)

set_option maxRecDepth 100000 in
set_option maxHeartbeats 4000000 in
theorem c_X5_refuse (l : Launch) (D : va_G) (kA : Nat → ClassId) (Hs : Heap) (σ : SG) (H0 : Heap) (hg : Ag Hs H0) (z : Int32) (hnt : l.stackTraces = false) (hz : z = 0 ∨ z = 1 ∨ z = 2 ∨ z = 3 ∨ z = 4 ∨ z = 5) : CtSX l D kA Hs σ yX5_refuse cX5_refuse 1 none 8 120 1 6 H0 [.int z] (nof) (pV fun H => H = H0 ∧ z = 0) (fun E H => E = xcl z ∧ ¬ z = 0) := by
  rcases hz with rfl | rfl | rfl | rfl | rfl | rfl
  · refine CtSX.of mi_X5_refuse (by decide +kernel) (Nat.le_of_ble_eq_true rfl) (ls0 := [(0, _)]) rfl hg (fun _ z => z.elim) ?_
    intro Pp Ee Ss Mm Ar Bl Me Cc Z hsH hnm
    have Y := Z.1
    refine V_iload_n Y.1 0 dX5_refuse_0 (rfl : _ = 1) rfl rfl ?_
    refine V_tableOut Y.1 (tgt := 91) dX5_refuse_1 (by decide) (by decide) ?_
    exact V_X (V_retV Y.1 dX5_refuse_91 (Nat.le_of_ble_eq_true rfl) (Nat.le_of_ble_eq_true rfl) ⟨rfl, rfl⟩)
  · refine CtSX.of mi_X5_refuse (by decide +kernel) (Nat.le_of_ble_eq_true rfl) (ls0 := [(0, _)]) rfl hg (fun _ z => z.elim) ?_
    intro Pp Ee Ss Mm Ar Bl Me Cc Z hsH hnm
    have Y := Z.1
    refine V_iload_n Y.1 0 dX5_refuse_0 (rfl : _ = 1) rfl rfl ?_
    refine V_tableIn Y.1 (tgt := 36) dX5_refuse_1 (by decide) (by decide) rfl (by decide) ?_
    refine V_thrW Z hnt th_X5_231 (show ("MetroFares", 300, "no such card or station") ∈ wL by decide +kernel) dX5_refuse_36 dX5_refuse_39 dX5_refuse_40 dX5_refuse_43 dX5_refuse_46 (Nat.le_of_ble_eq_true rfl) (Nat.le_of_ble_eq_true rfl) (Nat.le_of_ble_eq_true rfl) (Nat.le_of_ble_eq_true rfl) (fun H9 o9 => VX_out Y.1 hnm (Nat.le_of_ble_eq_true rfl) (Nat.le_of_ble_eq_true rfl) ⟨by unfold xcl; rw [if_pos rfl], by decide⟩)
  · refine CtSX.of mi_X5_refuse (by decide +kernel) (Nat.le_of_ble_eq_true rfl) (ls0 := [(0, _)]) rfl hg (fun _ z => z.elim) ?_
    intro Pp Ee Ss Mm Ar Bl Me Cc Z hsH hnm
    have Y := Z.1
    refine V_iload_n Y.1 0 dX5_refuse_0 (rfl : _ = 1) rfl rfl ?_
    refine V_tableIn Y.1 (tgt := 47) dX5_refuse_1 (by decide) (by decide) rfl (by decide) ?_
    refine V_thrW Z hnt th_X5_240 (show ("MetroFares", 302, "a value outside its bounds") ∈ wL by decide +kernel) dX5_refuse_47 dX5_refuse_50 dX5_refuse_51 dX5_refuse_54 dX5_refuse_57 (Nat.le_of_ble_eq_true rfl) (Nat.le_of_ble_eq_true rfl) (Nat.le_of_ble_eq_true rfl) (Nat.le_of_ble_eq_true rfl) (fun H9 o9 => VX_out Y.1 hnm (Nat.le_of_ble_eq_true rfl) (Nat.le_of_ble_eq_true rfl) ⟨by unfold xcl; rw [if_neg (by decide), if_pos rfl], by decide⟩)
  · refine CtSX.of mi_X5_refuse (by decide +kernel) (Nat.le_of_ble_eq_true rfl) (ls0 := [(0, _)]) rfl hg (fun _ z => z.elim) ?_
    intro Pp Ee Ss Mm Ar Bl Me Cc Z hsH hnm
    have Y := Z.1
    refine V_iload_n Y.1 0 dX5_refuse_0 (rfl : _ = 1) rfl rfl ?_
    refine V_tableIn Y.1 (tgt := 58) dX5_refuse_1 (by decide) (by decide) rfl (by decide) ?_
    refine V_thrW Z hnt th_X5_245 (show ("MetroFares", 304, "not possible now") ∈ wL by decide +kernel) dX5_refuse_58 dX5_refuse_61 dX5_refuse_62 dX5_refuse_65 dX5_refuse_68 (Nat.le_of_ble_eq_true rfl) (Nat.le_of_ble_eq_true rfl) (Nat.le_of_ble_eq_true rfl) (Nat.le_of_ble_eq_true rfl) (fun H9 o9 => VX_out Y.1 hnm (Nat.le_of_ble_eq_true rfl) (Nat.le_of_ble_eq_true rfl) ⟨by unfold xcl; rw [if_neg (by decide), if_neg (by decide), if_pos rfl], by decide⟩)
  · refine CtSX.of mi_X5_refuse (by decide +kernel) (Nat.le_of_ble_eq_true rfl) (ls0 := [(0, _)]) rfl hg (fun _ z => z.elim) ?_
    intro Pp Ee Ss Mm Ar Bl Me Cc Z hsH hnm
    have Y := Z.1
    refine V_iload_n Y.1 0 dX5_refuse_0 (rfl : _ = 1) rfl rfl ?_
    refine V_tableIn Y.1 (tgt := 69) dX5_refuse_1 (by decide) (by decide) rfl (by decide) ?_
    refine V_thrW Z hnt th_X5_101 (show ("MetroFares", 306, "no trip to repair") ∈ wL by decide +kernel) dX5_refuse_69 dX5_refuse_72 dX5_refuse_73 dX5_refuse_76 dX5_refuse_79 (Nat.le_of_ble_eq_true rfl) (Nat.le_of_ble_eq_true rfl) (Nat.le_of_ble_eq_true rfl) (Nat.le_of_ble_eq_true rfl) (fun H9 o9 => VX_out Y.1 hnm (Nat.le_of_ble_eq_true rfl) (Nat.le_of_ble_eq_true rfl) ⟨by unfold xcl; rw [if_neg (by decide), if_neg (by decide), if_neg (by decide), if_pos rfl], by decide⟩)
  · refine CtSX.of mi_X5_refuse (by decide +kernel) (Nat.le_of_ble_eq_true rfl) (ls0 := [(0, _)]) rfl hg (fun _ z => z.elim) ?_
    intro Pp Ee Ss Mm Ar Bl Me Cc Z hsH hnm
    have Y := Z.1
    refine V_iload_n Y.1 0 dX5_refuse_0 (rfl : _ = 1) rfl rfl ?_
    refine V_tableIn Y.1 (tgt := 80) dX5_refuse_1 (by decide) (by decide) rfl (by decide) ?_
    refine V_thrW Z hnt th_X5_308 (show ("MetroFares", 310, "more than a card can hold") ∈ wL by decide +kernel) dX5_refuse_80 dX5_refuse_83 dX5_refuse_84 dX5_refuse_87 dX5_refuse_90 (Nat.le_of_ble_eq_true rfl) (Nat.le_of_ble_eq_true rfl) (Nat.le_of_ble_eq_true rfl) (Nat.le_of_ble_eq_true rfl) (fun H9 o9 => VX_out Y.1 hnm (Nat.le_of_ble_eq_true rfl) (Nat.le_of_ble_eq_true rfl) ⟨by unfold xcl; rw [if_neg (by decide), if_neg (by decide), if_neg (by decide), if_neg (by decide)], by decide⟩)

set_option maxRecDepth 100000 in
set_option maxHeartbeats 4000000 in
theorem c_X5_pushSpare (l : Launch) (D : va_G) (kA : Nat → ClassId) (H0 : Heap) (a : Nat) (π : Nat → Nat) (u : Nat) (hs ep fc : Int32) (ho : Ob D kA H0 a π u hs ep fc) (hu : u ≤ 8) (hpi : ∀ j, j < 11 → π j < 11) (hob : ∀ k, k < 11 → ∃ vs, hp D H0 (sl a k) (.inr (7, vs))) : Ct l D kA yX5_pushSpare cX5_pushSpare 3 none 0 0 0 0 H0 [.ref a] (fun q => q = a ∨ q = a + 88) (pV fun H => Ob D kA H a (p_push π u) (if u < 8 then u + 1 else 8) hs ep fc ∧ H.size = H0.size) := by
  refine Ct.of mi_X5_pushSpare (Nat.le_of_ble_eq_true rfl) (ls0 := [(0, _)]) rfl ?_
  intro Pp Ee Ss Mm Ar Bl Me Cc Y hsH hnm
  obtain ⟨h1, h2⟩ := ho
  have lp : u = 8 → ∀ (m j : Nat) (H : Heap), j + m = 7 → hp D H a (eO 9 [.ref (a + 88), .ref (sl a 2), .ref (a + 321), .ref (a + 323), .ref (a + 325), .ref (sl a (π 0)), .ref (sl a (π 3)), .int (nI u), .int hs, .int ep, .int fc]) → hp D H (a + 88) (eR kA 5 8 (fun k => some (sl a (p_mv π j k)))) → (∀ k, k < 11 → ∃ vs, hp D H (sl a k) (.inr (7, vs))) → H.size = H0.size → V Pp l Ee (rmO 0 0 0 0) Ss Mm Ar Bl Me Cc 3 (AA H0 (fun q => q = a ∨ q = a + 88)) (QC Bl Ar Ss 0 0 H0 (fun q => q = a ∨ q = a + 88) (pV fun H => Ob D kA H a (p_push π u) (if u < 8 then u + 1 else 8) hs ep fc ∧ H.size = H0.size)) H 0 0 60 [(2, .int (nI (j + 1))), (0, .ref a), (1, .ref (sl a (π 1)))] [] := by
    intro h8 m
    clear h1 h2 hob
    induction m with
    | zero =>
      intro j H hj h1 h2 hob sz
      obtain rfl : j = 7 := by omega
      refine V_iload_n Y.1 0 dX5_pushSpare_60 (rfl : _ = 61) rfl rfl ?_
      refine V_bipush Y.1 (v := 8) dX5_pushSpare_61 (rfl : _ = 63) (by decide) ?_
      refine V_icmp_ge Y.1 (tgt := 86) dX5_pushSpare_63 (by decide) (rfl : _ = 66) (fun _ => ?_) (fun c_n => absurd ((nI_leI (a := 8) (b := 7 + 1) (by omega) (by omega)).mpr (Nat.le_refl _)) c_n)
      refine V_aload_n Y.1 1 dX5_pushSpare_86 (rfl : _ = 87) rfl rfl ?_
      refine V_get Y.1 fi_X5_22 h1 rfl dX5_pushSpare_87 (rfl : _ = 90) ?_
      refine V_bipush Y.1 (v := 7) dX5_pushSpare_90 (rfl : _ = 92) (by decide) ?_
      refine V_aload_n Y.1 2 dX5_pushSpare_92 (rfl : _ = 93) rfl rfl ?_
      refine V_astM Y.1 h2 (Or.inl (Or.inr rfl)) (show ¬ ((7 : Int32) < 0 ∨ 8 ≤ (7 : Int32).toNatClampNeg) by decide) (hob (π 1) (hpi _ (by omega))).choose_spec dX5_pushSpare_93 (rfl : _ = 94) (fun H93_7 h_new o_93 => ?_)
      have h2 := h_new
      have h1 := h1.sto o_93 (by omega)
      have hob : ∀ k, k < 11 → ∃ vs, hp D _ (sl a k) (.inr (7, vs)) := fun (k : Nat) (hk : k < 11) => (hob k hk).imp fun vs z => z.sto o_93 (by have := sl_lo a k; have := sl_88 (a := a) (k := k); omega)
      have sz : Array.size H93_7 = H0.size := o_93.1.trans sz
      clear h_new
      rw [show (7 : Int32).toNatClampNeg = 7 from rfl] at h2
      exact V_retV Y.1 dX5_pushSpare_94 (Nat.le_of_ble_eq_true rfl) (Nat.le_of_ble_eq_true rfl) ⟨⟨by rw [p_push_0, if_neg (by omega), ← h8, show p_push π u 1 = π 3 by rw [p_push, if_neg (by omega), if_pos rfl]]; exact h1, h2.congR (fun k hk => p_row8 h8 hk)⟩, sz⟩
    | succ m ih =>
      intro j H hj h1 h2 hob sz
      refine V_iload_n Y.1 0 dX5_pushSpare_60 (rfl : _ = 61) rfl rfl ?_
      refine V_bipush Y.1 (v := 8) dX5_pushSpare_61 (rfl : _ = 63) (by decide) ?_
      refine V_icmp_ge Y.1 (tgt := 86) dX5_pushSpare_63 (by decide) (rfl : _ = 66) (fun c_n => absurd c_n (fun q => absurd ((nI_leI (a := 8) (b := j + 1) (by omega) (by omega)).mp q) (by omega))) (fun _ => ?_)
      refine V_aload_n Y.1 1 dX5_pushSpare_66 (rfl : _ = 67) rfl rfl ?_
      refine V_get Y.1 fi_X5_22 h1 rfl dX5_pushSpare_67 (rfl : _ = 70) ?_
      refine V_iload_n Y.1 0 dX5_pushSpare_70 (rfl : _ = 71) rfl rfl ?_
      refine V_iconst Y.1 (v := 1) dX5_pushSpare_71 (rfl : _ = 72) (by decide) ?_
      refine V_isub Y.1 dX5_pushSpare_72 (rfl : _ = 73) ?_
      refine V_nm (v := nI j) (pk_sub (a := j + 1) (b := 1) (by omega)) ?_
      refine V_aload_n Y.1 1 dX5_pushSpare_73 (rfl : _ = 74) rfl rfl ?_
      refine V_get Y.1 fi_X5_22 h1 rfl dX5_pushSpare_74 (rfl : _ = 77) ?_
      refine V_iload_n Y.1 0 dX5_pushSpare_77 (rfl : _ = 78) rfl rfl ?_
      refine V_aldM Y.1 (v := sl a (π (4 + j))) h2 (vp_in_nI (by omega) (by omega)) (by rw [nI_clamp (by omega)]; exact congrArg (fun z => some (sl a z)) (p_mv_1 π j)) dX5_pushSpare_78 (rfl : _ = 79) ?_
      refine V_astM Y.1 h2 (Or.inl (Or.inr rfl)) (vp_in_nI (by omega) (by omega)) (hob (π (4 + j)) (hpi _ (by omega))).choose_spec dX5_pushSpare_79 (rfl : _ = 80) (fun H79_13 h_new o_79 => ?_)
      have h2 := h_new
      have h1 := h1.sto o_79 (by omega)
      have hob : ∀ k, k < 11 → ∃ vs, hp D _ (sl a k) (.inr (7, vs)) := fun (k : Nat) (hk : k < 11) => (hob k hk).imp fun vs z => z.sto o_79 (by have := sl_lo a k; have := sl_88 (a := a) (k := k); omega)
      have sz : Array.size H79_13 = H0.size := o_79.1.trans sz
      clear h_new
      rw [nI_clamp (by omega)] at h2
      replace h2 : hp D _ (a + 88) (eR kA 5 8 (fun k => some (sl a (p_mv π (j + 1) k)))) := h2.congR (fun k _ => p_mv_s (a := a) π j k)
      refine V_iinc Y.1 (v := nI (j + 1 + 1)) (ls' := [(2, _), (0, _), (1, _)]) 0 dX5_pushSpare_80 (rfl : _ = 83) rfl (nI_1 _) (by decide) rfl ?_
      refine V_goto Y.1 (tgt := 60) dX5_pushSpare_83 (by decide) ?_
      exact V_forget (ls' := [(2, _), (0, _), (1, _)]) [0, 1, 2] rfl (ih (j + 1) _ (by omega) h1 h2 hob sz)
  have sz : H0.size = H0.size := rfl
  refine V_aload_n Y.1 0 dX5_pushSpare_0 (rfl : _ = 1) rfl rfl ?_
  refine V_get Y.1 fi_X5_16 h1 rfl dX5_pushSpare_1 (rfl : _ = 4) ?_
  refine V_astore_n Y.1 (ls' := [(1, _), (0, _)]) dX5_pushSpare_4 (rfl : _ = 5) rfl (by decide) rfl ?_
  refine V_aload_n Y.1 1 dX5_pushSpare_5 (rfl : _ = 6) rfl rfl ?_
  refine V_get Y.1 fi_X5_281 h1 rfl dX5_pushSpare_6 (rfl : _ = 9) ?_
  refine V_bipush Y.1 (v := 8) dX5_pushSpare_9 (rfl : _ = 11) (by decide) ?_
  refine V_icmp_ge Y.1 (tgt := 48) dX5_pushSpare_11 (by decide) (rfl : _ = 14) (fun c_11 => ?_) (fun c_11 => ?_)
  · have h8 : u = 8 := by have := (nI_leI (a := 8) (b := u) (by omega) (by omega)).mp c_11; omega
    refine V_aload_n Y.1 1 dX5_pushSpare_48 (rfl : _ = 49) rfl rfl ?_
    refine V_aload_n Y.1 1 dX5_pushSpare_49 (rfl : _ = 50) rfl rfl ?_
    refine V_get Y.1 fi_X5_22 h1 rfl dX5_pushSpare_50 (rfl : _ = 53) ?_
    refine V_iconst Y.1 (v := 0) dX5_pushSpare_53 (rfl : _ = 54) (by decide) ?_
    refine V_aldM Y.1 (v := sl a (π 3)) h2 (show ¬ ((0 : Int32) < 0 ∨ 8 ≤ (0 : Int32).toNatClampNeg) by decide) rfl dX5_pushSpare_54 (rfl : _ = 55) ?_
    refine V_put Y.1 fi_X5_16 fw_X5 rfl rfl h1 (Or.inl (Or.inl rfl)) rfl rfl (Nat.le_of_ble_eq_true rfl) dX5_pushSpare_55 (rfl : _ = 58) (fun H55_13 h_new o_55 => ?_)
    have h1 : hp D _ _ (.inr (9, [_, _, _, _, _, _, _, _, _, _, _])) := h_new
    have h2 := h2.sto o_55 (by omega)
    have hob : ∀ k, k < 11 → ∃ vs, hp D _ (sl a k) (.inr (7, vs)) := fun (k : Nat) (hk : k < 11) => (hob k hk).imp fun vs z => z.sto o_55 (by have := sl_lo a k; have := sl_88 (a := a) (k := k); omega)
    have sz : Array.size H55_13 = H0.size := o_55.1.trans sz
    clear h_new
    refine V_iconst Y.1 (v := 1) dX5_pushSpare_58 (rfl : _ = 59) (by decide) ?_
    refine V_istore_n Y.1 (ls' := [(2, _), (1, _), (0, _)]) dX5_pushSpare_59 (rfl : _ = 60) rfl (by decide) rfl ?_
    exact V_forget (ls' := [(2, _), (0, _), (1, _)]) [0, 2, 1] rfl (lp h8 7 0 _ (by omega) h1 (h2.congR (fun k _ => by unfold p_mv; rw [if_neg (by omega)])) hob sz)
  · have hlt : u < 8 := Nat.not_le.mp fun z => c_11 ((nI_leI (a := 8) (b := u) (by omega) (by omega)).mpr z)
    refine V_aload_n Y.1 1 dX5_pushSpare_14 (rfl : _ = 15) rfl rfl ?_
    refine V_aload_n Y.1 1 dX5_pushSpare_15 (rfl : _ = 16) rfl rfl ?_
    refine V_get Y.1 fi_X5_22 h1 rfl dX5_pushSpare_16 (rfl : _ = 19) ?_
    refine V_aload_n Y.1 1 dX5_pushSpare_19 (rfl : _ = 20) rfl rfl ?_
    refine V_get Y.1 fi_X5_281 h1 rfl dX5_pushSpare_20 (rfl : _ = 23) ?_
    refine V_aldM Y.1 (v := sl a (π (3 + u))) h2 (vp_in_nI (by omega) (by omega)) (by rw [nI_clamp (by omega)]) dX5_pushSpare_23 (rfl : _ = 24) ?_
    refine V_put Y.1 fi_X5_16 fw_X5 rfl rfl h1 (Or.inl (Or.inl rfl)) rfl rfl (Nat.le_of_ble_eq_true rfl) dX5_pushSpare_24 (rfl : _ = 27) (fun H24_29 h_new o_24 => ?_)
    have h1 : hp D _ _ (.inr (9, [_, _, _, _, _, _, _, _, _, _, _])) := h_new
    have h2 := h2.sto o_24 (by omega)
    have hob : ∀ k, k < 11 → ∃ vs, hp D _ (sl a k) (.inr (7, vs)) := fun (k : Nat) (hk : k < 11) => (hob k hk).imp fun vs z => z.sto o_24 (by have := sl_lo a k; have := sl_88 (a := a) (k := k); omega)
    have sz : Array.size H24_29 = H0.size := o_24.1.trans sz
    clear h_new
    refine V_aload_n Y.1 1 dX5_pushSpare_27 (rfl : _ = 28) rfl rfl ?_
    refine V_get Y.1 fi_X5_22 h1 rfl dX5_pushSpare_28 (rfl : _ = 31) ?_
    refine V_aload_n Y.1 1 dX5_pushSpare_31 (rfl : _ = 32) rfl rfl ?_
    refine V_get Y.1 fi_X5_281 h1 rfl dX5_pushSpare_32 (rfl : _ = 35) ?_
    refine V_aload_n Y.1 0 dX5_pushSpare_35 (rfl : _ = 36) rfl rfl ?_
    refine V_astM Y.1 h2 (Or.inl (Or.inr rfl)) (vp_in_nI (by omega) (by omega)) (hob (π 1) (hpi _ (by omega))).choose_spec dX5_pushSpare_36 (rfl : _ = 37) (fun H36_40 h_new o_36 => ?_)
    have h2 := h_new
    have h1 := h1.sto o_36 (by omega)
    have hob : ∀ k, k < 11 → ∃ vs, hp D _ (sl a k) (.inr (7, vs)) := fun (k : Nat) (hk : k < 11) => (hob k hk).imp fun vs z => z.sto o_36 (by have := sl_lo a k; have := sl_88 (a := a) (k := k); omega)
    have sz : Array.size H36_40 = H0.size := o_36.1.trans sz
    clear h_new
    rw [nI_clamp (by omega)] at h2
    refine V_aload_n Y.1 1 dX5_pushSpare_37 (rfl : _ = 38) rfl rfl ?_
    refine V_dup Y.1 dX5_pushSpare_38 (rfl : _ = 39) rfl ?_
    refine V_get Y.1 fi_X5_281 h1 rfl dX5_pushSpare_39 (rfl : _ = 42) ?_
    refine V_iconst Y.1 (v := 1) dX5_pushSpare_42 (rfl : _ = 43) (by decide) ?_
    refine V_iadd Y.1 dX5_pushSpare_43 (rfl : _ = 44) ?_
    refine V_nm (v := nI (u + 1)) (nI_1 _) ?_
    refine V_put Y.1 fi_X5_281 fw_X5 rfl rfl h1 (Or.inl (Or.inl rfl)) rfl rfl (Nat.le_of_ble_eq_true rfl) dX5_pushSpare_44 (rfl : _ = 47) (fun H44_53 h_new o_44 => ?_)
    have h1 : hp D _ _ (.inr (9, [_, _, _, _, _, _, _, _, _, _, _])) := h_new
    have h2 := h2.sto o_44 (by omega)
    have hob : ∀ k, k < 11 → ∃ vs, hp D _ (sl a k) (.inr (7, vs)) := fun (k : Nat) (hk : k < 11) => (hob k hk).imp fun vs z => z.sto o_44 (by have := sl_lo a k; have := sl_88 (a := a) (k := k); omega)
    have sz : Array.size H44_53 = H0.size := o_44.1.trans sz
    clear h_new
    exact V_retV Y.1 dX5_pushSpare_47 (Nat.le_of_ble_eq_true rfl) (Nat.le_of_ble_eq_true rfl) ⟨⟨by rw [p_push_0, if_pos hlt, show p_push π u 1 = π (3 + u) by rw [p_push, if_pos hlt, if_pos rfl]]; exact h1, h2.congR (fun k hk => p_row hlt hk)⟩, sz⟩

set_option maxRecDepth 100000 in
set_option maxHeartbeats 4000000 in
theorem c_X5_takeBackToSpare (l : Launch) (D : va_G) (kA : Nat → ClassId) (H0 : Heap) (a : Nat) (π : Nat → Nat) (u : Nat) (hs ep fc : Int32) (ho : Ob D kA H0 a π u hs ep fc) : Ct l D kA yX5_takeBackToSpare cX5_takeBackToSpare 2 none 0 0 0 0 H0 [.ref a] (fun q => q = a) (pV fun H => Ob D kA H a (p_swap π 0 1) u hs ep fc ∧ H.size = H0.size) := by
  refine Ct.of mi_X5_takeBackToSpare (Nat.le_of_ble_eq_true rfl) (ls0 := [(0, _)]) rfl ?_
  intro Pp Ee Ss Mm Ar Bl Me Cc Y hsH hnm
  obtain ⟨h1, h2⟩ := ho
  have sz : H0.size = H0.size := rfl
  refine V_aload_n Y.1 0 dX5_takeBackToSpare_0 (rfl : _ = 1) rfl rfl ?_
  refine V_get Y.1 fi_X5_10 h1 rfl dX5_takeBackToSpare_1 (rfl : _ = 4) ?_
  refine V_astore_n Y.1 (ls' := [(1, _), (0, _)]) dX5_takeBackToSpare_4 (rfl : _ = 5) rfl (by decide) rfl ?_
  refine V_aload_n Y.1 1 dX5_takeBackToSpare_5 (rfl : _ = 6) rfl rfl ?_
  refine V_aload_n Y.1 1 dX5_takeBackToSpare_6 (rfl : _ = 7) rfl rfl ?_
  refine V_get Y.1 fi_X5_16 h1 rfl dX5_takeBackToSpare_7 (rfl : _ = 10) ?_
  refine V_put Y.1 fi_X5_10 fw_X5 rfl rfl h1 (Or.inl rfl) rfl rfl (Nat.le_of_ble_eq_true rfl) dX5_takeBackToSpare_10 (rfl : _ = 13) (fun H10_6 h_new o_10 => ?_)
  have h1 : hp D _ _ (.inr (9, [_, _, _, _, _, _, _, _, _, _, _])) := h_new
  have h2 := h2.sto o_10 (by omega)
  have sz : Array.size H10_6 = H0.size := o_10.1.trans sz
  clear h_new
  refine V_aload_n Y.1 1 dX5_takeBackToSpare_13 (rfl : _ = 14) rfl rfl ?_
  refine V_aload_n Y.1 0 dX5_takeBackToSpare_14 (rfl : _ = 15) rfl rfl ?_
  refine V_put Y.1 fi_X5_16 fw_X5 rfl rfl h1 (Or.inl rfl) rfl rfl (Nat.le_of_ble_eq_true rfl) dX5_takeBackToSpare_15 (rfl : _ = 18) (fun H15_13 h_new o_15 => ?_)
  have h1 : hp D _ _ (.inr (9, [_, _, _, _, _, _, _, _, _, _, _])) := h_new
  have h2 := h2.sto o_15 (by omega)
  have sz : Array.size H15_13 = H0.size := o_15.1.trans sz
  clear h_new
  exact V_retV Y.1 dX5_takeBackToSpare_18 (Nat.le_of_ble_eq_true rfl) (Nat.le_of_ble_eq_true rfl) ⟨⟨h1, h2.congR (fun k hk => by rw [show p_swap π 0 1 (3 + k) = π (3 + k) by unfold p_swap; rw [if_neg (by omega), if_neg (by omega)]])⟩, sz⟩

set_option maxRecDepth 100000 in
set_option maxHeartbeats 4000000 in
theorem c_X5_change (l : Launch) (D : va_G) (kA : Nat → ClassId) (Hs : Heap) (σ : SG) (H0 : Heap) (hg : Ag Hs H0) (a : Nat) (W : Nat → MS) (π : Nat → Nat) (ES : Nat → Prop) (u : Nat) (hs ep fc : Int32) (no : Nat) (go : Nat → Int32) (vs cs ns : Nat) (gs : Nat → Int32) (k : Nat) (hk : k < 8) (x y : Int32) (n d : Nat) (hF : Fs D kA H0 a W π ES u hs ep fc no go vs cs ns gs) (hnt : l.stackTraces = false) (hI : MI (W (π 0)) n d) (hbs : Hs.size ≤ a) : CtSX l D kA Hs σ yX5_change cX5_change 4 (some .int) 9 142 9 30 H0 [.ref a, .int (nI k), .int x, .int y] (blk a 329) (pI fun v9 H => m_prob (W (π 0)) k x y = 0 ∧ v9 = (m_do (W (π 0)) d n k x y).1 ∧ Fs D kA H a (va_up (va_up W (π 1) (m_copy (W (π 1)) (W (π 0)) n)) (π 0) (m_do (W (π 0)) d n k x y).2) (p_push π u) (gro ES H0 H) (if u < 8 then u + 1 else 8) hs ep fc no go vs cs ns gs) (fun E H => E = xcl (m_prob (W (π 0)) k x y) ∧ ¬ m_prob (W (π 0)) k x y = 0 ∧ Fs D kA H a W π ES u hs ep fc no go vs cs ns gs) := by
  refine CtSX.of mi_X5_change (by decide +kernel) (Nat.le_of_ble_eq_true rfl) (ls0 := [(0, _), (1, _), (2, _), (3, _)]) rfl hg (fun q z => Nat.le_trans hbs z.1) ?_
  intro Pp Ee Ss Mm Ar Bl Me Cc Z hsH hnm
  have Y := Z.1
  have hp0 := hF.2.2.2.2.2.1.1 0 (by decide)
  have hp1 := hF.2.2.2.2.2.1.1 1 (by decide)
  have h01 : π 1 ≠ π 0 := fun e => absurd (hF.2.2.2.2.2.1.2.1 1 0 (by decide) (by decide) e) (by decide)
  obtain ⟨E0, hE⟩ := hF.now
  obtain ⟨v1, ho1⟩ := (hF.2.1 (π 1) hp1).ob
  refine V_aload_n Y.1 0 dX5_change_0 (rfl : _ = 1) rfl rfl ?_
  refine V_get Y.1 fi_X5_10 hF.1.1 rfl dX5_change_1 (rfl : _ = 4) ?_
  refine V_iload_n Y.1 1 dX5_change_4 (rfl : _ = 5) rfl rfl ?_
  refine V_iload_n Y.1 2 dX5_change_5 (rfl : _ = 6) rfl rfl ?_
  refine V_iload_n Y.1 3 dX5_change_6 (rfl : _ = 7) rfl rfl ?_
  refine V_cP Y (rV Y (c_X3_problemOf_all l D kA _ _ _ ES k hk x y hF.now) mi_X3_problemOf vi_X5_291 rfl hE.1.1 rfl rfl (Nat.le_of_ble_eq_true rfl) ⟨Nat.le_of_ble_eq_true rfl, Nat.le_of_ble_eq_true rfl⟩ (Nat.le_of_ble_eq_true rfl) (Nat.le_of_ble_eq_true rfl) dX5_change_7) (rfl : _ = 10) ?_
  refine V_xV Y (sxS Z (c_X5_refuse l D kA Hs σ _ hg _ hnt (m_prob_in _ k x y)) mi_X5_refuse si_X5_294 rfl rfl (Nat.le_of_ble_eq_true rfl) ⟨Nat.le_of_ble_eq_true rfl, Nat.le_of_ble_eq_true rfl⟩ (Nat.le_of_ble_eq_true rfl) (Nat.le_of_ble_eq_true rfl) dX5_change_10) (fun _ z => z.elim) (rfl : _ = 13) (fun E_10 H10_6 hx_10 o_10 => ?_) (fun H10_6 hq_10 o_10 => ?_)
  · obtain ⟨rfl, hne⟩ := hx_10
    exact VX_out Y.1 hnm (Nat.le_of_ble_eq_true rfl) (Nat.le_of_ble_eq_true rfl) ⟨rfl, hne, hF.new o_10⟩
  obtain ⟨e10, hz⟩ := hq_10
  have e11 := e10.symm
  subst e11
  refine V_aload_n Y.1 0 dX5_change_13 (rfl : _ = 14) rfl rfl ?_
  refine V_get Y.1 fi_X5_16 hF.1.1 rfl dX5_change_14 (rfl : _ = 17) ?_
  refine V_aload_n Y.1 0 dX5_change_17 (rfl : _ = 18) rfl rfl ?_
  refine V_get Y.1 fi_X5_10 hF.1.1 rfl dX5_change_18 (rfl : _ = 21) ?_
  refine V_cV Y (rV Y (c_X3_copyFrom l D kA _ (sl a (π 1)) (W (π 1)) ES (sl a (π 0)) (W (π 0)) n hI.1 hI.2.1 (hF.2.1 _ hp1) hF.now (sl_ap h01) hI.hok) mi_X3_copyFrom vi_X5_259 rfl ho1 rfl rfl (Nat.le_of_ble_eq_true rfl) ⟨Nat.le_of_ble_eq_true rfl, Nat.le_of_ble_eq_true rfl⟩ (Nat.le_of_ble_eq_true rfl) (Nat.le_of_ble_eq_true rfl) dX5_change_21) (fun q z => Or.inl (blk_sl hp1 q z)) (rfl : _ = 24) (fun H21_15 hq_21 o_21 => ?_)
  obtain ⟨hm21, z21⟩ := hq_21
  have hF := hF.setw hp1 o_21 hm21 (fun q z => z) (hF.2.2.2.2.2.2.1.off o_21)
  refine V_aload_n Y.1 0 dX5_change_24 (rfl : _ = 25) rfl rfl ?_
  refine V_cV Y (rV Y (c_X5_pushSpare l D kA _ a π u hs ep fc hF.1 hF.2.2.2.2.2.2.2.1 hF.2.2.2.2.2.1.1 (fun k hk => (hF.2.1 k hk).ob)) mi_X5_pushSpare vi_X5_271 rfl hF.1.1 rfl rfl (Nat.le_of_ble_eq_true rfl) ⟨Nat.le_of_ble_eq_true rfl, Nat.le_of_ble_eq_true rfl⟩ (Nat.le_of_ble_eq_true rfl) (Nat.le_of_ble_eq_true rfl) dX5_change_25) (fun q z => Or.inl (z.elim (fun e => e ▸ ⟨by omega, by omega⟩) (fun e => e ▸ ⟨by omega, by omega⟩))) (rfl : _ = 28) (fun H25_19 hq_25 o_25 => ?_)
  have hF := hF.rol o_25 hq_25.1 (hF.2.2.2.2.2.1.push hF.2.2.2.2.2.2.2.1) (by split <;> omega) hF.2.2.2.2.2.2.2.2
  refine V_aload_n Y.1 0 dX5_change_28 (rfl : _ = 29) rfl rfl ?_
  refine V_get Y.1 fi_X5_10 hF.1.1 rfl dX5_change_29 (rfl : _ = 32) ?_
  refine V_iload_n Y.1 1 dX5_change_32 (rfl : _ = 33) rfl rfl ?_
  refine V_iload_n Y.1 2 dX5_change_33 (rfl : _ = 34) rfl rfl ?_
  refine V_iload_n Y.1 3 dX5_change_34 (rfl : _ = 35) rfl rfl ?_
  have e0 : (va_up W (π 1) (m_copy (W (π 1)) (W (π 0)) n)) (p_push π u 0) = W (π 0) := by rw [p_push_0]; exact vu_ne h01.symm
  have hM : Mc D kA _ (sl a (p_push π u 0)) (W (π 0)) ES := e0 ▸ hF.now
  obtain ⟨v2, ho2⟩ := hM.ob
  refine V_cI Y (rV Y (c_X3_performU l D kA _ (sl a (p_push π u 0)) (W (π 0)) ES k hk x y n d hM hI hz) mi_X3_perform vi_X5_297 rfl ho2 rfl rfl (Nat.le_of_ble_eq_true rfl) ⟨Nat.le_of_ble_eq_true rfl, Nat.le_of_ble_eq_true rfl⟩ (Nat.le_of_ble_eq_true rfl) (Nat.le_of_ble_eq_true rfl) dX5_change_35) (fun q z => Or.inl (blk_sl (hF.2.2.2.2.2.1.1 0 (by decide)) q z)) (rfl : _ = 38) (fun v_35 H35_29 hq_35 o_35 => ?_)
  obtain ⟨hv35, hm35⟩ := hq_35
  have eg := gro_sz (ES := ES) (H := H35_29) (hq_25.2.trans z21)
  rw [eg] at hm35
  have hF := hF.setw (hF.2.2.2.2.2.1.1 0 (by decide)) o_35 hm35 (fun q z => Or.inl z) (eg ▸ hF.2.2.2.2.2.2.1.gro o_35.1)
  exact V_X (V_ret Y.1 dX5_change_38 rfl (Nat.le_of_ble_eq_true rfl) (Nat.le_of_ble_eq_true rfl) ⟨hz, hv35, by have h9 := hF; rw [p_push_0] at h9; exact h9⟩)

set_option maxRecDepth 100000 in
set_option maxHeartbeats 4000000 in
theorem c_X5_issueCard (l : Launch) (D : va_G) (kA : Nat → ClassId) (Hs : Heap) (σ : SG) (H0 : Heap) (hg : Ag Hs H0) (a : Nat) (W : Nat → MS) (π : Nat → Nat) (ES : Nat → Prop) (u : Nat) (hs ep fc : Int32) (no : Nat) (go : Nat → Int32) (vs cs ns : Nat) (gs : Nat → Int32) (x : Int32) (n d : Nat) (hF : Fs D kA H0 a W π ES u hs ep fc no go vs cs ns gs) (hnt : l.stackTraces = false) (hI : MI (W (π 0)) n d) (hbs : Hs.size ≤ a) (hx : x = 0 ∨ x = 1) : CtSX l D kA Hs σ yX5_issueCard cX5_issueCard 2 (some .int) 10 165 9 30 H0 [.ref a, .int x] (blk a 329) (pI fun v9 H => m_prob (W (π 0)) 0 x 0 = 0 ∧ v9 = (m_do (W (π 0)) d n 0 x 0).1 ∧ Fs D kA H a (va_up (va_up W (π 1) (m_copy (W (π 1)) (W (π 0)) n)) (π 0) (m_do (W (π 0)) d n 0 x 0).2) (p_push π u) (gro ES H0 H) (if u < 8 then u + 1 else 8) hs ep fc no go vs cs ns gs) (fun E H => E = xcl (m_prob (W (π 0)) 0 x 0) ∧ ¬ m_prob (W (π 0)) 0 x 0 = 0 ∧ Fs D kA H a W π ES u hs ep fc no go vs cs ns gs) := by
  rcases hx with rfl | rfl
  · refine CtSX.of mi_X5_issueCard (by decide +kernel) (Nat.le_of_ble_eq_true rfl) (ls0 := [(0, _), (1, _)]) rfl hg (fun q z => Nat.le_trans hbs z.1) ?_
    intro Pp Ee Ss Mm Ar Bl Me Cc Z hsH hnm
    have Y := Z.1
    refine V_aload_n Y.1 0 dX5_issueCard_0 (rfl : _ = 1) rfl rfl ?_
    refine V_iconst Y.1 (v := 0) dX5_issueCard_1 (rfl : _ = 2) (by decide) ?_
    refine V_iload_n Y.1 1 dX5_issueCard_2 (rfl : _ = 3) rfl rfl ?_
    refine V_if_eq Y.1 (tgt := 10) dX5_issueCard_3 (by decide) (rfl : _ = 6) (fun _ => ?_) (fun c_n => absurd rfl c_n)
    refine V_iconst Y.1 (v := 0) dX5_issueCard_10 (rfl : _ = 11) (by decide) ?_
    refine V_iconst Y.1 (v := 0) dX5_issueCard_11 (rfl : _ = 12) (by decide) ?_
    refine V_xI Y (sxV Z (c_X5_change l D kA Hs σ _ hg _ _ _ _ _ _ _ _ _ _ _ _ _ _ 0 (by decide) 0 0 n d hF hnt hI hbs) mi_X5_change vi_X5_50 rfl hF.1.1 rfl rfl (Nat.le_of_ble_eq_true rfl) ⟨Nat.le_of_ble_eq_true rfl, Nat.le_of_ble_eq_true rfl⟩ (Nat.le_of_ble_eq_true rfl) (Nat.le_of_ble_eq_true rfl) dX5_issueCard_12) (fun q z => Or.inl z) (rfl : _ = 15) (fun E_12 H12_6 hx_12 o_12 => ?_) (fun v_12 H12_6 hq_12 o_12 => ?_)
    · exact VX_out Y.1 hnm (Nat.le_of_ble_eq_true rfl) (Nat.le_of_ble_eq_true rfl) hx_12
    exact V_X (V_ret Y.1 dX5_issueCard_15 rfl (Nat.le_of_ble_eq_true rfl) (Nat.le_of_ble_eq_true rfl) hq_12)
  · refine CtSX.of mi_X5_issueCard (by decide +kernel) (Nat.le_of_ble_eq_true rfl) (ls0 := [(0, _), (1, _)]) rfl hg (fun q z => Nat.le_trans hbs z.1) ?_
    intro Pp Ee Ss Mm Ar Bl Me Cc Z hsH hnm
    have Y := Z.1
    refine V_aload_n Y.1 0 dX5_issueCard_0 (rfl : _ = 1) rfl rfl ?_
    refine V_iconst Y.1 (v := 0) dX5_issueCard_1 (rfl : _ = 2) (by decide) ?_
    refine V_iload_n Y.1 1 dX5_issueCard_2 (rfl : _ = 3) rfl rfl ?_
    refine V_if_eq Y.1 (tgt := 10) dX5_issueCard_3 (by decide) (rfl : _ = 6) (fun c_n => absurd c_n (by decide)) (fun _ => ?_)
    refine V_iconst Y.1 (v := 1) dX5_issueCard_6 (rfl : _ = 7) (by decide) ?_
    refine V_goto Y.1 (tgt := 11) dX5_issueCard_7 (by decide) ?_
    refine V_iconst Y.1 (v := 0) dX5_issueCard_11 (rfl : _ = 12) (by decide) ?_
    refine V_xI Y (sxV Z (c_X5_change l D kA Hs σ _ hg _ _ _ _ _ _ _ _ _ _ _ _ _ _ 0 (by decide) 1 0 n d hF hnt hI hbs) mi_X5_change vi_X5_50 rfl hF.1.1 rfl rfl (Nat.le_of_ble_eq_true rfl) ⟨Nat.le_of_ble_eq_true rfl, Nat.le_of_ble_eq_true rfl⟩ (Nat.le_of_ble_eq_true rfl) (Nat.le_of_ble_eq_true rfl) dX5_issueCard_12) (fun q z => Or.inl z) (rfl : _ = 15) (fun E_12 H12_7 hx_12 o_12 => ?_) (fun v_12 H12_7 hq_12 o_12 => ?_)
    · exact VX_out Y.1 hnm (Nat.le_of_ble_eq_true rfl) (Nat.le_of_ble_eq_true rfl) hx_12
    exact V_X (V_ret Y.1 dX5_issueCard_15 rfl (Nat.le_of_ble_eq_true rfl) (Nat.le_of_ble_eq_true rfl) hq_12)

set_option maxRecDepth 100000 in
set_option maxHeartbeats 4000000 in
theorem c_X5_load (l : Launch) (D : va_G) (kA : Nat → ClassId) (Hs : Heap) (σ : SG) (H0 : Heap) (hg : Ag Hs H0) (a : Nat) (W : Nat → MS) (π : Nat → Nat) (ES : Nat → Prop) (u : Nat) (hs ep fc : Int32) (no : Nat) (go : Nat → Int32) (vs cs ns : Nat) (gs : Nat → Int32) (x y : Int32) (n d : Nat) (hF : Fs D kA H0 a W π ES u hs ep fc no go vs cs ns gs) (hnt : l.stackTraces = false) (hI : MI (W (π 0)) n d) (hbs : Hs.size ≤ a) : CtSX l D kA Hs σ yX5_load cX5_load 3 (some .int) 10 165 9 30 H0 [.ref a, .int x, .int y] (blk a 329) (pI fun v9 H => m_prob (W (π 0)) 1 x y = 0 ∧ v9 = (m_do (W (π 0)) d n 1 x y).1 ∧ Fs D kA H a (va_up (va_up W (π 1) (m_copy (W (π 1)) (W (π 0)) n)) (π 0) (m_do (W (π 0)) d n 1 x y).2) (p_push π u) (gro ES H0 H) (if u < 8 then u + 1 else 8) hs ep fc no go vs cs ns gs) (fun E H => E = xcl (m_prob (W (π 0)) 1 x y) ∧ ¬ m_prob (W (π 0)) 1 x y = 0 ∧ Fs D kA H a W π ES u hs ep fc no go vs cs ns gs) := by
  refine CtSX.of mi_X5_load (by decide +kernel) (Nat.le_of_ble_eq_true rfl) (ls0 := [(0, _), (1, _), (2, _)]) rfl hg (fun q z => Nat.le_trans hbs z.1) ?_
  intro Pp Ee Ss Mm Ar Bl Me Cc Z hsH hnm
  have Y := Z.1
  refine V_aload_n Y.1 0 dX5_load_0 (rfl : _ = 1) rfl rfl ?_
  refine V_iconst Y.1 (v := 1) dX5_load_1 (rfl : _ = 2) (by decide) ?_
  refine V_iload_n Y.1 1 dX5_load_2 (rfl : _ = 3) rfl rfl ?_
  refine V_iload_n Y.1 2 dX5_load_3 (rfl : _ = 4) rfl rfl ?_
  refine V_xI Y (sxV Z (c_X5_change l D kA Hs σ _ hg _ _ _ _ _ _ _ _ _ _ _ _ _ _ 1 (by decide) x y n d hF hnt hI hbs) mi_X5_change vi_X5_50 rfl hF.1.1 rfl rfl (Nat.le_of_ble_eq_true rfl) ⟨Nat.le_of_ble_eq_true rfl, Nat.le_of_ble_eq_true rfl⟩ (Nat.le_of_ble_eq_true rfl) (Nat.le_of_ble_eq_true rfl) dX5_load_4) (fun q z => Or.inl z) (rfl : _ = 7) (fun E_4 H4_4 hx_4 o_4 => ?_) (fun v_4 H4_4 hq_4 o_4 => ?_)
  · exact VX_out Y.1 hnm (Nat.le_of_ble_eq_true rfl) (Nat.le_of_ble_eq_true rfl) hx_4
  exact V_X (V_ret Y.1 dX5_load_7 rfl (Nat.le_of_ble_eq_true rfl) (Nat.le_of_ble_eq_true rfl) hq_4)

set_option maxRecDepth 100000 in
set_option maxHeartbeats 4000000 in
theorem c_X5_tapIn (l : Launch) (D : va_G) (kA : Nat → ClassId) (Hs : Heap) (σ : SG) (H0 : Heap) (hg : Ag Hs H0) (a : Nat) (W : Nat → MS) (π : Nat → Nat) (ES : Nat → Prop) (u : Nat) (hs ep fc : Int32) (no : Nat) (go : Nat → Int32) (vs cs ns : Nat) (gs : Nat → Int32) (x y : Int32) (n d : Nat) (hF : Fs D kA H0 a W π ES u hs ep fc no go vs cs ns gs) (hnt : l.stackTraces = false) (hI : MI (W (π 0)) n d) (hbs : Hs.size ≤ a) : CtSX l D kA Hs σ yX5_tapIn cX5_tapIn 3 (some .boolean) 10 165 9 30 H0 [.ref a, .int x, .int y] (blk a 329) (pI fun v9 H => m_prob (W (π 0)) 2 x y = 0 ∧ v9 = (if (m_do (W (π 0)) d n 2 x y).1 = 1 then 1 else 0) ∧ Fs D kA H a (va_up (va_up W (π 1) (m_copy (W (π 1)) (W (π 0)) n)) (π 0) (m_do (W (π 0)) d n 2 x y).2) (p_push π u) (gro ES H0 H) (if u < 8 then u + 1 else 8) hs ep fc no go vs cs ns gs) (fun E H => E = xcl (m_prob (W (π 0)) 2 x y) ∧ ¬ m_prob (W (π 0)) 2 x y = 0 ∧ Fs D kA H a W π ES u hs ep fc no go vs cs ns gs) := by
  refine CtSX.of mi_X5_tapIn (by decide +kernel) (Nat.le_of_ble_eq_true rfl) (ls0 := [(0, _), (1, _), (2, _)]) rfl hg (fun q z => Nat.le_trans hbs z.1) ?_
  intro Pp Ee Ss Mm Ar Bl Me Cc Z hsH hnm
  have Y := Z.1
  refine V_aload_n Y.1 0 dX5_tapIn_0 (rfl : _ = 1) rfl rfl ?_
  refine V_iconst Y.1 (v := 2) dX5_tapIn_1 (rfl : _ = 2) (by decide) ?_
  refine V_iload_n Y.1 1 dX5_tapIn_2 (rfl : _ = 3) rfl rfl ?_
  refine V_iload_n Y.1 2 dX5_tapIn_3 (rfl : _ = 4) rfl rfl ?_
  refine V_xI Y (sxV Z (c_X5_change l D kA Hs σ _ hg _ _ _ _ _ _ _ _ _ _ _ _ _ _ 2 (by decide) x y n d hF hnt hI hbs) mi_X5_change vi_X5_50 rfl hF.1.1 rfl rfl (Nat.le_of_ble_eq_true rfl) ⟨Nat.le_of_ble_eq_true rfl, Nat.le_of_ble_eq_true rfl⟩ (Nat.le_of_ble_eq_true rfl) (Nat.le_of_ble_eq_true rfl) dX5_tapIn_4) (fun q z => Or.inl z) (rfl : _ = 7) (fun E_4 H4_4 hx_4 o_4 => ?_) (fun v_4 H4_4 hq_4 o_4 => ?_)
  · exact VX_out Y.1 hnm (Nat.le_of_ble_eq_true rfl) (Nat.le_of_ble_eq_true rfl) hx_4
  obtain ⟨hz9, hv9, hF9⟩ := hq_4
  refine V_iconst Y.1 (v := 1) dX5_tapIn_7 (rfl : _ = 8) (by decide) ?_
  refine V_icmp_ne Y.1 (tgt := 15) dX5_tapIn_8 (by decide) (rfl : _ = 11) (fun c_8 => ?_) (fun c_8 => ?_)
  · refine V_iconst Y.1 (v := 0) dX5_tapIn_15 (rfl : _ = 16) (by decide) ?_
    exact V_X (V_ret Y.1 dX5_tapIn_16 rfl (Nat.le_of_ble_eq_true rfl) (Nat.le_of_ble_eq_true rfl) ⟨hz9, by rw [← hv9]; first | exact (if_pos c_8).symm | exact (if_neg c_8).symm, hF9⟩)
  · refine V_iconst Y.1 (v := 1) dX5_tapIn_11 (rfl : _ = 12) (by decide) ?_
    refine V_goto Y.1 (tgt := 16) dX5_tapIn_12 (by decide) ?_
    exact V_X (V_ret Y.1 dX5_tapIn_16 rfl (Nat.le_of_ble_eq_true rfl) (Nat.le_of_ble_eq_true rfl) ⟨hz9, by rw [← hv9]; first | exact (if_pos c_8).symm | exact (if_neg c_8).symm, hF9⟩)

set_option maxRecDepth 100000 in
set_option maxHeartbeats 4000000 in
theorem c_X5_tapOut (l : Launch) (D : va_G) (kA : Nat → ClassId) (Hs : Heap) (σ : SG) (H0 : Heap) (hg : Ag Hs H0) (a : Nat) (W : Nat → MS) (π : Nat → Nat) (ES : Nat → Prop) (u : Nat) (hs ep fc : Int32) (no : Nat) (go : Nat → Int32) (vs cs ns : Nat) (gs : Nat → Int32) (x y : Int32) (n d : Nat) (hF : Fs D kA H0 a W π ES u hs ep fc no go vs cs ns gs) (hnt : l.stackTraces = false) (hI : MI (W (π 0)) n d) (hbs : Hs.size ≤ a) : CtSX l D kA Hs σ yX5_tapOut cX5_tapOut 3 (some .int) 10 165 9 30 H0 [.ref a, .int x, .int y] (blk a 329) (pI fun v9 H => m_prob (W (π 0)) 3 x y = 0 ∧ v9 = (m_do (W (π 0)) d n 3 x y).1 ∧ Fs D kA H a (va_up (va_up W (π 1) (m_copy (W (π 1)) (W (π 0)) n)) (π 0) (m_do (W (π 0)) d n 3 x y).2) (p_push π u) (gro ES H0 H) (if u < 8 then u + 1 else 8) hs ep fc no go vs cs ns gs) (fun E H => E = xcl (m_prob (W (π 0)) 3 x y) ∧ ¬ m_prob (W (π 0)) 3 x y = 0 ∧ Fs D kA H a W π ES u hs ep fc no go vs cs ns gs) := by
  refine CtSX.of mi_X5_tapOut (by decide +kernel) (Nat.le_of_ble_eq_true rfl) (ls0 := [(0, _), (1, _), (2, _)]) rfl hg (fun q z => Nat.le_trans hbs z.1) ?_
  intro Pp Ee Ss Mm Ar Bl Me Cc Z hsH hnm
  have Y := Z.1
  refine V_aload_n Y.1 0 dX5_tapOut_0 (rfl : _ = 1) rfl rfl ?_
  refine V_iconst Y.1 (v := 3) dX5_tapOut_1 (rfl : _ = 2) (by decide) ?_
  refine V_iload_n Y.1 1 dX5_tapOut_2 (rfl : _ = 3) rfl rfl ?_
  refine V_iload_n Y.1 2 dX5_tapOut_3 (rfl : _ = 4) rfl rfl ?_
  refine V_xI Y (sxV Z (c_X5_change l D kA Hs σ _ hg _ _ _ _ _ _ _ _ _ _ _ _ _ _ 3 (by decide) x y n d hF hnt hI hbs) mi_X5_change vi_X5_50 rfl hF.1.1 rfl rfl (Nat.le_of_ble_eq_true rfl) ⟨Nat.le_of_ble_eq_true rfl, Nat.le_of_ble_eq_true rfl⟩ (Nat.le_of_ble_eq_true rfl) (Nat.le_of_ble_eq_true rfl) dX5_tapOut_4) (fun q z => Or.inl z) (rfl : _ = 7) (fun E_4 H4_4 hx_4 o_4 => ?_) (fun v_4 H4_4 hq_4 o_4 => ?_)
  · exact VX_out Y.1 hnm (Nat.le_of_ble_eq_true rfl) (Nat.le_of_ble_eq_true rfl) hx_4
  exact V_X (V_ret Y.1 dX5_tapOut_7 rfl (Nat.le_of_ble_eq_true rfl) (Nat.le_of_ble_eq_true rfl) hq_4)

set_option maxRecDepth 100000 in
set_option maxHeartbeats 4000000 in
theorem c_X5_repair (l : Launch) (D : va_G) (kA : Nat → ClassId) (Hs : Heap) (σ : SG) (H0 : Heap) (hg : Ag Hs H0) (a : Nat) (W : Nat → MS) (π : Nat → Nat) (ES : Nat → Prop) (u : Nat) (hs ep fc : Int32) (no : Nat) (go : Nat → Int32) (vs cs ns : Nat) (gs : Nat → Int32) (x y : Int32) (n d : Nat) (hF : Fs D kA H0 a W π ES u hs ep fc no go vs cs ns gs) (hnt : l.stackTraces = false) (hI : MI (W (π 0)) n d) (hbs : Hs.size ≤ a) : CtSX l D kA Hs σ yX5_repair cX5_repair 3 (some .int) 10 165 9 30 H0 [.ref a, .int x, .int y] (blk a 329) (pI fun v9 H => m_prob (W (π 0)) 4 x y = 0 ∧ v9 = (m_do (W (π 0)) d n 4 x y).1 ∧ Fs D kA H a (va_up (va_up W (π 1) (m_copy (W (π 1)) (W (π 0)) n)) (π 0) (m_do (W (π 0)) d n 4 x y).2) (p_push π u) (gro ES H0 H) (if u < 8 then u + 1 else 8) hs ep fc no go vs cs ns gs) (fun E H => E = xcl (m_prob (W (π 0)) 4 x y) ∧ ¬ m_prob (W (π 0)) 4 x y = 0 ∧ Fs D kA H a W π ES u hs ep fc no go vs cs ns gs) := by
  refine CtSX.of mi_X5_repair (by decide +kernel) (Nat.le_of_ble_eq_true rfl) (ls0 := [(0, _), (1, _), (2, _)]) rfl hg (fun q z => Nat.le_trans hbs z.1) ?_
  intro Pp Ee Ss Mm Ar Bl Me Cc Z hsH hnm
  have Y := Z.1
  refine V_aload_n Y.1 0 dX5_repair_0 (rfl : _ = 1) rfl rfl ?_
  refine V_iconst Y.1 (v := 4) dX5_repair_1 (rfl : _ = 2) (by decide) ?_
  refine V_iload_n Y.1 1 dX5_repair_2 (rfl : _ = 3) rfl rfl ?_
  refine V_iload_n Y.1 2 dX5_repair_3 (rfl : _ = 4) rfl rfl ?_
  refine V_xI Y (sxV Z (c_X5_change l D kA Hs σ _ hg _ _ _ _ _ _ _ _ _ _ _ _ _ _ 4 (by decide) x y n d hF hnt hI hbs) mi_X5_change vi_X5_50 rfl hF.1.1 rfl rfl (Nat.le_of_ble_eq_true rfl) ⟨Nat.le_of_ble_eq_true rfl, Nat.le_of_ble_eq_true rfl⟩ (Nat.le_of_ble_eq_true rfl) (Nat.le_of_ble_eq_true rfl) dX5_repair_4) (fun q z => Or.inl z) (rfl : _ = 7) (fun E_4 H4_4 hx_4 o_4 => ?_) (fun v_4 H4_4 hq_4 o_4 => ?_)
  · exact VX_out Y.1 hnm (Nat.le_of_ble_eq_true rfl) (Nat.le_of_ble_eq_true rfl) hx_4
  exact V_X (V_ret Y.1 dX5_repair_7 rfl (Nat.le_of_ble_eq_true rfl) (Nat.le_of_ble_eq_true rfl) hq_4)

set_option maxRecDepth 100000 in
set_option maxHeartbeats 4000000 in
theorem c_X5_setZone (l : Launch) (D : va_G) (kA : Nat → ClassId) (Hs : Heap) (σ : SG) (H0 : Heap) (hg : Ag Hs H0) (a : Nat) (W : Nat → MS) (π : Nat → Nat) (ES : Nat → Prop) (u : Nat) (hs ep fc : Int32) (no : Nat) (go : Nat → Int32) (vs cs ns : Nat) (gs : Nat → Int32) (x y : Int32) (n d : Nat) (hF : Fs D kA H0 a W π ES u hs ep fc no go vs cs ns gs) (hnt : l.stackTraces = false) (hI : MI (W (π 0)) n d) (hbs : Hs.size ≤ a) : CtSX l D kA Hs σ yX5_setZone cX5_setZone 3 (some .int) 10 165 9 30 H0 [.ref a, .int x, .int y] (blk a 329) (pI fun v9 H => m_prob (W (π 0)) 5 x y = 0 ∧ v9 = (m_do (W (π 0)) d n 5 x y).1 ∧ Fs D kA H a (va_up (va_up W (π 1) (m_copy (W (π 1)) (W (π 0)) n)) (π 0) (m_do (W (π 0)) d n 5 x y).2) (p_push π u) (gro ES H0 H) (if u < 8 then u + 1 else 8) hs ep fc no go vs cs ns gs) (fun E H => E = xcl (m_prob (W (π 0)) 5 x y) ∧ ¬ m_prob (W (π 0)) 5 x y = 0 ∧ Fs D kA H a W π ES u hs ep fc no go vs cs ns gs) := by
  refine CtSX.of mi_X5_setZone (by decide +kernel) (Nat.le_of_ble_eq_true rfl) (ls0 := [(0, _), (1, _), (2, _)]) rfl hg (fun q z => Nat.le_trans hbs z.1) ?_
  intro Pp Ee Ss Mm Ar Bl Me Cc Z hsH hnm
  have Y := Z.1
  refine V_aload_n Y.1 0 dX5_setZone_0 (rfl : _ = 1) rfl rfl ?_
  refine V_iconst Y.1 (v := 5) dX5_setZone_1 (rfl : _ = 2) (by decide) ?_
  refine V_iload_n Y.1 1 dX5_setZone_2 (rfl : _ = 3) rfl rfl ?_
  refine V_iload_n Y.1 2 dX5_setZone_3 (rfl : _ = 4) rfl rfl ?_
  refine V_xI Y (sxV Z (c_X5_change l D kA Hs σ _ hg _ _ _ _ _ _ _ _ _ _ _ _ _ _ 5 (by decide) x y n d hF hnt hI hbs) mi_X5_change vi_X5_50 rfl hF.1.1 rfl rfl (Nat.le_of_ble_eq_true rfl) ⟨Nat.le_of_ble_eq_true rfl, Nat.le_of_ble_eq_true rfl⟩ (Nat.le_of_ble_eq_true rfl) (Nat.le_of_ble_eq_true rfl) dX5_setZone_4) (fun q z => Or.inl z) (rfl : _ = 7) (fun E_4 H4_4 hx_4 o_4 => ?_) (fun v_4 H4_4 hq_4 o_4 => ?_)
  · exact VX_out Y.1 hnm (Nat.le_of_ble_eq_true rfl) (Nat.le_of_ble_eq_true rfl) hx_4
  exact V_X (V_ret Y.1 dX5_setZone_7 rfl (Nat.le_of_ble_eq_true rfl) (Nat.le_of_ble_eq_true rfl) hq_4)

set_option maxRecDepth 100000 in
set_option maxHeartbeats 4000000 in
theorem c_X5_setFares (l : Launch) (D : va_G) (kA : Nat → ClassId) (Hs : Heap) (σ : SG) (H0 : Heap) (hg : Ag Hs H0) (a : Nat) (W : Nat → MS) (π : Nat → Nat) (ES : Nat → Prop) (u : Nat) (hs ep fc : Int32) (no : Nat) (go : Nat → Int32) (vs cs ns : Nat) (gs : Nat → Int32) (x y : Int32) (n d : Nat) (hF : Fs D kA H0 a W π ES u hs ep fc no go vs cs ns gs) (hnt : l.stackTraces = false) (hI : MI (W (π 0)) n d) (hbs : Hs.size ≤ a) : CtSX l D kA Hs σ yX5_setFares cX5_setFares 3 (some .int) 10 165 9 30 H0 [.ref a, .int x, .int y] (blk a 329) (pI fun v9 H => m_prob (W (π 0)) 6 x y = 0 ∧ v9 = (m_do (W (π 0)) d n 6 x y).1 ∧ Fs D kA H a (va_up (va_up W (π 1) (m_copy (W (π 1)) (W (π 0)) n)) (π 0) (m_do (W (π 0)) d n 6 x y).2) (p_push π u) (gro ES H0 H) (if u < 8 then u + 1 else 8) hs ep fc no go vs cs ns gs) (fun E H => E = xcl (m_prob (W (π 0)) 6 x y) ∧ ¬ m_prob (W (π 0)) 6 x y = 0 ∧ Fs D kA H a W π ES u hs ep fc no go vs cs ns gs) := by
  refine CtSX.of mi_X5_setFares (by decide +kernel) (Nat.le_of_ble_eq_true rfl) (ls0 := [(0, _), (1, _), (2, _)]) rfl hg (fun q z => Nat.le_trans hbs z.1) ?_
  intro Pp Ee Ss Mm Ar Bl Me Cc Z hsH hnm
  have Y := Z.1
  refine V_aload_n Y.1 0 dX5_setFares_0 (rfl : _ = 1) rfl rfl ?_
  refine V_bipush Y.1 (v := 6) dX5_setFares_1 (rfl : _ = 3) (by decide) ?_
  refine V_iload_n Y.1 1 dX5_setFares_3 (rfl : _ = 4) rfl rfl ?_
  refine V_iload_n Y.1 2 dX5_setFares_4 (rfl : _ = 5) rfl rfl ?_
  refine V_xI Y (sxV Z (c_X5_change l D kA Hs σ _ hg _ _ _ _ _ _ _ _ _ _ _ _ _ _ 6 (by decide) x y n d hF hnt hI hbs) mi_X5_change vi_X5_50 rfl hF.1.1 rfl rfl (Nat.le_of_ble_eq_true rfl) ⟨Nat.le_of_ble_eq_true rfl, Nat.le_of_ble_eq_true rfl⟩ (Nat.le_of_ble_eq_true rfl) (Nat.le_of_ble_eq_true rfl) dX5_setFares_5) (fun q z => Or.inl z) (rfl : _ = 8) (fun E_5 H5_4 hx_5 o_5 => ?_) (fun v_5 H5_4 hq_5 o_5 => ?_)
  · exact VX_out Y.1 hnm (Nat.le_of_ble_eq_true rfl) (Nat.le_of_ble_eq_true rfl) hx_5
  exact V_X (V_ret Y.1 dX5_setFares_8 rfl (Nat.le_of_ble_eq_true rfl) (Nat.le_of_ble_eq_true rfl) hq_5)

set_option maxRecDepth 100000 in
set_option maxHeartbeats 4000000 in
theorem c_X5_advance (l : Launch) (D : va_G) (kA : Nat → ClassId) (Hs : Heap) (σ : SG) (H0 : Heap) (hg : Ag Hs H0) (a : Nat) (W : Nat → MS) (π : Nat → Nat) (ES : Nat → Prop) (u : Nat) (hs ep fc : Int32) (no : Nat) (go : Nat → Int32) (vs cs ns : Nat) (gs : Nat → Int32) (x : Int32) (n d : Nat) (hF : Fs D kA H0 a W π ES u hs ep fc no go vs cs ns gs) (hnt : l.stackTraces = false) (hI : MI (W (π 0)) n d) (hbs : Hs.size ≤ a) : CtSX l D kA Hs σ yX5_advance cX5_advance 2 (some .int) 10 165 9 30 H0 [.ref a, .int x] (blk a 329) (pI fun v9 H => m_prob (W (π 0)) 7 x 0 = 0 ∧ v9 = (m_do (W (π 0)) d n 7 x 0).1 ∧ Fs D kA H a (va_up (va_up W (π 1) (m_copy (W (π 1)) (W (π 0)) n)) (π 0) (m_do (W (π 0)) d n 7 x 0).2) (p_push π u) (gro ES H0 H) (if u < 8 then u + 1 else 8) hs ep fc no go vs cs ns gs) (fun E H => E = xcl (m_prob (W (π 0)) 7 x 0) ∧ ¬ m_prob (W (π 0)) 7 x 0 = 0 ∧ Fs D kA H a W π ES u hs ep fc no go vs cs ns gs) := by
  refine CtSX.of mi_X5_advance (by decide +kernel) (Nat.le_of_ble_eq_true rfl) (ls0 := [(0, _), (1, _)]) rfl hg (fun q z => Nat.le_trans hbs z.1) ?_
  intro Pp Ee Ss Mm Ar Bl Me Cc Z hsH hnm
  have Y := Z.1
  refine V_aload_n Y.1 0 dX5_advance_0 (rfl : _ = 1) rfl rfl ?_
  refine V_bipush Y.1 (v := 7) dX5_advance_1 (rfl : _ = 3) (by decide) ?_
  refine V_iload_n Y.1 1 dX5_advance_3 (rfl : _ = 4) rfl rfl ?_
  refine V_iconst Y.1 (v := 0) dX5_advance_4 (rfl : _ = 5) (by decide) ?_
  refine V_xI Y (sxV Z (c_X5_change l D kA Hs σ _ hg _ _ _ _ _ _ _ _ _ _ _ _ _ _ 7 (by decide) x 0 n d hF hnt hI hbs) mi_X5_change vi_X5_50 rfl hF.1.1 rfl rfl (Nat.le_of_ble_eq_true rfl) ⟨Nat.le_of_ble_eq_true rfl, Nat.le_of_ble_eq_true rfl⟩ (Nat.le_of_ble_eq_true rfl) (Nat.le_of_ble_eq_true rfl) dX5_advance_5) (fun q z => Or.inl z) (rfl : _ = 8) (fun E_5 H5_4 hx_5 o_5 => ?_) (fun v_5 H5_4 hq_5 o_5 => ?_)
  · exact VX_out Y.1 hnm (Nat.le_of_ble_eq_true rfl) (Nat.le_of_ble_eq_true rfl) hx_5
  exact V_X (V_ret Y.1 dX5_advance_8 rfl (Nat.le_of_ble_eq_true rfl) (Nat.le_of_ble_eq_true rfl) hq_5)

set_option maxRecDepth 100000 in
set_option maxHeartbeats 4000000 in
theorem c_X5_undo (l : Launch) (D : va_G) (kA : Nat → ClassId) (Hs : Heap) (σ : SG) (H0 : Heap) (hg : Ag Hs H0) (a : Nat) (W : Nat → MS) (π : Nat → Nat) (ES : Nat → Prop) (u : Nat) (hs ep fc : Int32) (no : Nat) (go : Nat → Int32) (vs cs ns : Nat) (gs : Nat → Int32) (hF : Fs D kA H0 a W π ES u hs ep fc no go vs cs ns gs) (hnt : l.stackTraces = false) (hbs : Hs.size ≤ a) : CtSX l D kA Hs σ yX5_undo cX5_undo 2 (some .int) 8 120 1 6 H0 [.ref a] (blk a 329) (pI fun v9 H => 0 < u ∧ v9 = nI (u - 1) ∧ Fs D kA H a W (p_swap π 0 (3 + (u - 1))) ES (u - 1) hs ep fc no go vs cs ns gs) (fun E H => E = "java/util/NoSuchElementException" ∧ u = 0 ∧ Fs D kA H a W π ES u hs ep fc no go vs cs ns gs) := by
  refine CtSX.of mi_X5_undo (by decide +kernel) (Nat.le_of_ble_eq_true rfl) (ls0 := [(0, _)]) rfl hg (fun q z => Nat.le_trans hbs z.1) ?_
  intro Pp Ee Ss Mm Ar Bl Me Cc Z hsH hnm
  have Y := Z.1
  have hp0 := hF.2.2.2.2.2.1.1 0 (by decide)
  have hpi := hF.2.2.2.2.2.1.1
  have hu8 := hF.2.2.2.2.2.2.2.1
  obtain ⟨h1, h2⟩ := hF.1
  have hob : ∀ k, k < 11 → ∃ vs, hp D H0 (sl a k) (.inr (7, vs)) := fun k hk => (hF.2.1 k hk).ob
  have oa : off (fun q => q = a ∨ q = a + 88) H0 H0 := ⟨Nat.le_refl _, fun _ _ _ => rfl⟩
  refine V_aload_n Y.1 0 dX5_undo_0 (rfl : _ = 1) rfl rfl ?_
  refine V_get Y.1 fi_X5_281 h1 rfl dX5_undo_1 (rfl : _ = 4) ?_
  refine V_if_gt Y.1 (tgt := 18) dX5_undo_4 (by decide) (rfl : _ = 7) (fun c_4 => ?_) (fun c_4 => ?_)
  · have hu0 : 0 < u := Nat.pos_of_ne_zero fun z => by rw [z] at c_4; exact absurd c_4 (by decide)
    refine V_aload_n Y.1 0 dX5_undo_18 (rfl : _ = 19) rfl rfl ?_
    refine V_dup Y.1 dX5_undo_19 (rfl : _ = 20) rfl ?_
    refine V_get Y.1 fi_X5_281 h1 rfl dX5_undo_20 (rfl : _ = 23) ?_
    refine V_iconst Y.1 (v := 1) dX5_undo_23 (rfl : _ = 24) (by decide) ?_
    refine V_isub Y.1 dX5_undo_24 (rfl : _ = 25) ?_
    refine V_nm (v := nI (u - 1)) (pk_sub (a := u) (b := 1) (by omega)) ?_
    refine V_put Y.1 fi_X5_281 fw_X5 rfl rfl h1 (Or.inl ⟨by omega, by omega⟩) rfl rfl (Nat.le_of_ble_eq_true rfl) dX5_undo_25 (rfl : _ = 28) (fun H25_10 h_new o_25 => ?_)
    have h1 : hp D _ _ (.inr (9, [_, _, _, _, _, _, _, _, _, _, _])) := h_new
    have h2 := h2.sto o_25 (by omega)
    have hob : ∀ k, k < 11 → ∃ vs, hp D _ (sl a k) (.inr (7, vs)) := fun (k : Nat) (hk : k < 11) => (hob k hk).imp fun vs z => z.sto o_25 (by have := sl_lo a k; have := sl_88 (a := a) (k := k); omega)
    have oa := oa.tr (o_25.off (F := fun q => q = a ∨ q = a + 88) (by first | exact Or.inl rfl | exact Or.inr rfl))
    clear h_new
    refine V_aload_n Y.1 0 dX5_undo_28 (rfl : _ = 29) rfl rfl ?_
    refine V_get Y.1 fi_X5_10 h1 rfl dX5_undo_29 (rfl : _ = 32) ?_
    refine V_astore_n Y.1 (ls' := [(1, _), (0, _)]) dX5_undo_32 (rfl : _ = 33) rfl (by decide) rfl ?_
    refine V_aload_n Y.1 1 dX5_undo_33 (rfl : _ = 34) rfl rfl ?_
    refine V_aload_n Y.1 1 dX5_undo_34 (rfl : _ = 35) rfl rfl ?_
    refine V_get Y.1 fi_X5_22 h1 rfl dX5_undo_35 (rfl : _ = 38) ?_
    refine V_aload_n Y.1 1 dX5_undo_38 (rfl : _ = 39) rfl rfl ?_
    refine V_get Y.1 fi_X5_281 h1 rfl dX5_undo_39 (rfl : _ = 42) ?_
    refine V_aldM Y.1 (v := sl a (π (3 + (u - 1)))) h2 (vp_in_nI (by omega) (by omega)) (by rw [nI_clamp (by omega)]) dX5_undo_42 (rfl : _ = 43) ?_
    refine V_put Y.1 fi_X5_10 fw_X5 rfl rfl h1 (Or.inl ⟨by omega, by omega⟩) rfl rfl (Nat.le_of_ble_eq_true rfl) dX5_undo_43 (rfl : _ = 46) (fun H43_25 h_new o_43 => ?_)
    have h1 : hp D _ _ (.inr (9, [_, _, _, _, _, _, _, _, _, _, _])) := h_new
    have h2 := h2.sto o_43 (by omega)
    have hob : ∀ k, k < 11 → ∃ vs, hp D _ (sl a k) (.inr (7, vs)) := fun (k : Nat) (hk : k < 11) => (hob k hk).imp fun vs z => z.sto o_43 (by have := sl_lo a k; have := sl_88 (a := a) (k := k); omega)
    have oa := oa.tr (o_43.off (F := fun q => q = a ∨ q = a + 88) (by first | exact Or.inl rfl | exact Or.inr rfl))
    clear h_new
    refine V_aload_n Y.1 1 dX5_undo_46 (rfl : _ = 47) rfl rfl ?_
    refine V_get Y.1 fi_X5_22 h1 rfl dX5_undo_47 (rfl : _ = 50) ?_
    refine V_aload_n Y.1 1 dX5_undo_50 (rfl : _ = 51) rfl rfl ?_
    refine V_get Y.1 fi_X5_281 h1 rfl dX5_undo_51 (rfl : _ = 54) ?_
    refine V_aload_n Y.1 0 dX5_undo_54 (rfl : _ = 55) rfl rfl ?_
    refine V_astM Y.1 h2 (Or.inl ⟨by omega, by omega⟩) (vp_in_nI (by omega) (by omega)) (hob (π 0) (hpi _ (by omega))).choose_spec dX5_undo_55 (rfl : _ = 56) (fun H55_36 h_new o_55 => ?_)
    have h2 := h_new
    have h1 := h1.sto o_55 (by omega)
    have hob : ∀ k, k < 11 → ∃ vs, hp D _ (sl a k) (.inr (7, vs)) := fun (k : Nat) (hk : k < 11) => (hob k hk).imp fun vs z => z.sto o_55 (by have := sl_lo a k; have := sl_88 (a := a) (k := k); omega)
    have oa := oa.tr (o_55.off (F := fun q => q = a ∨ q = a + 88) (by first | exact Or.inl rfl | exact Or.inr rfl))
    clear h_new
    rw [nI_clamp (by omega)] at h2
    refine V_aload_n Y.1 1 dX5_undo_56 (rfl : _ = 57) rfl rfl ?_
    refine V_get Y.1 fi_X5_281 h1 rfl dX5_undo_57 (rfl : _ = 60) ?_
    exact V_X (V_ret Y.1 dX5_undo_60 rfl (Nat.le_of_ble_eq_true rfl) (Nat.le_of_ble_eq_true rfl) ⟨hu0, rfl, hF.rol oa (show Ob D kA _ a (p_swap π 0 (3 + (u - 1))) (u - 1) hs ep fc from ⟨by rw [p_sw0, p_sw1]; exact h1, h2.congR (fun k hk => p_roww hu0 hk)⟩) (hF.2.2.2.2.2.1.swap (by decide) (by omega) (by omega) (by decide) (by omega)) (by omega) hF.2.2.2.2.2.2.2.2⟩)
  · have hu0 : u = 0 := Decidable.byContradiction fun z => c_4 (nI_gt0 (by omega) (by omega))
    refine V_thrW Z hnt th_X5_101 (show ("MetroFares", 284, "nothing to undo") ∈ wL by decide +kernel) dX5_undo_7 dX5_undo_10 dX5_undo_11 dX5_undo_14 dX5_undo_17 (Nat.le_of_ble_eq_true rfl) (Nat.le_of_ble_eq_true rfl) (Nat.le_of_ble_eq_true rfl) (Nat.le_of_ble_eq_true rfl) (fun H9 o9 => VX_out Y.1 hnm (Nat.le_of_ble_eq_true rfl) (Nat.le_of_ble_eq_true rfl) ⟨rfl, hu0, hF.new o9⟩)
