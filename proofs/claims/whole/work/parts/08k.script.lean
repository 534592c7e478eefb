theorem q_one_lt (s c : Nat → Int32) (i : Nat) : (q_one s c i).1 < 4 := by
  unfold q_one q_do
  by_cases h99 : c (3 * i) = 99
  · rw [if_pos h99]; exact q_issue_lt _ _
  rw [if_neg h99]
  by_cases h119 : c (3 * i) = 119
  · rw [if_pos h119]; exact q_wait_lt _ _ _ _
  rw [if_neg h119]
  by_cases h108 : c (3 * i) = 108
  · rw [if_pos h108]; exact q_load_lt _ _ _
  rw [if_neg h108]
  by_cases h105 : c (3 * i) = 105
  · rw [if_pos h105]; exact q_in_lt _ _ _ _
  rw [if_neg h105]
  by_cases h111 : c (3 * i) = 111
  · rw [if_pos h111]; exact q_out_lt _ _ _ _
  rw [if_neg h111]
  by_cases h102 : c (3 * i) = 102
  · rw [if_pos h102]; exact q_fix_lt _ _ _ _
  rw [if_neg h102]
  exact q_zone_lt _ _ _
set_option maxRecDepth 100000 in
set_option maxHeartbeats 4000000 in
theorem c_X6_runScript_y (l : Launch) (D : va_G) (kA : Nat → ClassId) (Hs : Heap) (σ : SG) (H0 : Heap) (hg : Ag Hs H0) (o : Nat) (F s b v p u t c : Nat → Int32) (len nc t0 k : Nat) (hM : Rs D kA H0 o F s b v p u t c) (hl : F 10 = nI len) (hlen : len ≤ 60) (hb0 : Hs.size ≤ o) (hgood : (q_cmds t len 61 (q_cmd t len (0, 0, 0, c))).1 = 0 ∧ len ≤ (q_cmds t len 61 (q_cmd t len (0, 0, 0, c))).2.1) (hI : RI s nc t0) (ht : t0 + 200000 < 2 ^ 30) (hk : F 5 = nI k) (hk8 : k ≤ 8) (hrun : (q_run (q_cmds t len 61 (q_cmd t len (0, 0, 0, c))).2.2.2 (q_cmds t len 61 (q_cmd t len (0, 0, 0, c))).2.2.1 0 s).1 = none) : CtS l D kA Hs σ yX6_runScript cX6_runScript 2 (some .int) 7 162 0 0 H0 [.ref o] (blk o 8) (pI fun v9 H => v9 = nI (q_cmds t len 61 (q_cmd t len (0, 0, 0, c))).2.2.1 ∧ ∃ F1 c1, Rs D kA H o F1 (q_run (q_cmds t len 61 (q_cmd t len (0, 0, 0, c))).2.2.2 (q_cmds t len 61 (q_cmd t len (0, 0, 0, c))).2.2.1 0 s).2 s v (r_push p s k) u t c1 ∧ F1 6 = 0 ∧ F1 13 = F 13 ∧ F1 10 = 0 ∧ F1 3 = F 3 ∧ F1 5 = nI (r_ok k) ∧ F1 8 = F 8 ∧ F1 14 = F 14) := by
  refine CtS.of mi_X6_runScript (Nat.le_of_ble_eq_true rfl) (ls0 := [(0, _)]) rfl hg (fun q z => Nat.le_trans hb0 z.1) ?_
  intro Pp Ee Ss Mm Ar Bl Me Cc Z hs hnm
  have Y := Z.1
  obtain ⟨fin, hfin⟩ : ∃ z, (q_cmds t len 61 (q_cmd t len (0, 0, 0, c))) = z := ⟨_, rfl⟩
  rw [hfin] at hgood hrun
  rw [hfin]
  have hok : okC len fin := by rw [← hfin]; exact okC.cmds _ _ (okC.cmd (Nat.zero_le _) (Nat.le_refl _) (fun i hi => absurd hi (by omega)))
  have f52 : ∀ (H : Heap), Rs D kA H o (r_rd F fin.1 fin.2.1 fin.2.2.1) s b v p u t fin.2.2.2 → Ag Hs H → V Pp l Ee (rmO 7 162 0 0) Ss Mm Ar Bl Me Cc 2 (AA H0 (blk o 8)) (QC Bl Ar Ss 0 0 H0 (blk o 8) (pI fun v9 H => v9 = nI fin.2.2.1 ∧ ∃ F1 c1, Rs D kA H o F1 (q_run fin.2.2.2 fin.2.2.1 0 s).2 s v (r_push p s k) u t c1 ∧ F1 6 = 0 ∧ F1 13 = F 13 ∧ F1 10 = 0 ∧ F1 3 = F 3 ∧ F1 5 = nI (r_ok k) ∧ F1 8 = F 8 ∧ F1 14 = F 14)) H 0 0 52 [(0, .ref o)] [] := by
    clear hfin hM
    obtain ⟨w, a, n, c1⟩ := fin
    dsimp only at *
    intro H hM hg
    obtain ⟨hw0, hla⟩ := hgood
    subst hw0
    obtain ⟨hna, hoc⟩ := hok.2.2 rfl
    have hal : a ≤ len := hok.2.1
    dsimp only at hna hoc
    obtain ⟨sE, hsE⟩ : ∃ z, (q_run c1 n 0 s).2 = z := ⟨_, rfl⟩
    have hq : q_run c1 n 0 s = (none, sE) := by rw [← hrun, ← hsE]
    rw [hsE]
    have lp2 : ∀ (r i : Nat) (s1 : Nat → Int32) (n1 t1 : Nat) (H : Heap), i + r = n → RI s1 n1 t1 → t1 ≤ t0 + 2000 * i → q_run c1 r i s1 = (none, sE) → Rs D kA H o (upd (upd (upd (r_rd F 0 a n) 13 (F 13)) 10 0) 6 0) s1 s v p u t c1 → V Pp l Ee (rmO 7 162 0 0) Ss Mm Ar Bl Me Cc 2 (AA H0 (blk o 8)) (QC Bl Ar Ss 0 0 H0 (blk o 8) (pI fun v9 H => v9 = nI n ∧ ∃ F1 c1, Rs D kA H o F1 sE s v (r_push p s k) u t c1 ∧ F1 6 = 0 ∧ F1 13 = F 13 ∧ F1 10 = 0 ∧ F1 3 = F 3 ∧ F1 5 = nI (r_ok k) ∧ F1 8 = F 8 ∧ F1 14 = F 14)) H 0 0 125 [(1, .int (nI i)), (0, .ref o)] [] := by
      clear hM hg hq hsE hrun
      intro r
      induction r with
      | zero =>
        intro i s1 n1 t1 H hi hI1 ht1 he hM
        obtain rfl : i = n := by omega
        obtain rfl : s1 = sE := congrArg Prod.snd he
        refine V_iload_n Y.1 0 dX6_runScript_125 (rfl : _ = 126) rfl rfl ?_
        refine V_aload_n Y.1 1 dX6_runScript_126 (rfl : _ = 127) rfl rfl ?_
        refine V_get Y.1 fi_X6_220 hM.1 rfl dX6_runScript_127 (rfl : _ = 130) ?_
        refine V_nm (v := nI i) rfl ?_
        refine V_icmp_ge Y.1 (tgt := 166) dX6_runScript_130 (by decide) (rfl : _ = 133) (fun _ => ?_) (fun c_n => absurd (show nI i ≤ nI i from Int32.le_refl _) c_n)
        refine V_aload_n Y.1 1 dX6_runScript_166 (rfl : _ = 167) rfl rfl ?_
        refine V_aload_n Y.1 1 dX6_runScript_167 (rfl : _ = 168) rfl rfl ?_
        refine V_get Y.1 fi_X6_220 hM.1 rfl dX6_runScript_168 (rfl : _ = 171) ?_
        refine V_nm (v := nI i) rfl ?_
        refine V_cI Y (rV Y (c_X6_endsQ l D kA _ o (upd (upd (r_rd F 0 a i) 13 (F 13)) 10 0) _ s v p u t c1 0 (by decide) _ k hk8 (by rw [show nI 0 = 0 from rfl, upd_same pk_us]; exact hM) hk) mi_X6_ends vi_X6_110 rfl hM.1 rfl rfl (Nat.le_of_ble_eq_true rfl) ⟨Nat.le_of_ble_eq_true rfl, Nat.le_of_ble_eq_true rfl⟩ (Nat.le_of_ble_eq_true rfl) (Nat.le_of_ble_eq_true rfl) dX6_runScript_171) (fun q hq => Or.inl (blk_sub (by omega) (by omega) q hq)) (rfl : _ = 174) (fun v_171 H171_9 hq_171 o_171 => ?_)
        obtain ⟨e171, hM⟩ := hq_171
        exact V_ret Y.1 dX6_runScript_174 rfl (Nat.le_of_ble_eq_true rfl) (Nat.le_of_ble_eq_true rfl) ⟨e171, _, _, hM, rfl, rfl, rfl, rfl, rfl, rfl, rfl⟩
      | succ r ih =>
        intro i s1 n1 t1 H hi hI1 ht1 he hM
        have hz : (q_one s1 c1 i).1 = 0 := Decidable.byContradiction fun q => by
          rw [q_run, if_neg q] at he
          exact absurd (congrArg Prod.fst he) (fun z => by cases z)
        rw [q_run, if_pos hz] at he
        have hz2 := hz
        rw [RI.one hI1] at hz2
        obtain ⟨n2, t2, ht3, hI2⟩ := hI1.do (by omega) hz2
        rw [← RI.one hI1] at hI2
        refine V_iload_n Y.1 0 dX6_runScript_125 (rfl : _ = 126) rfl rfl ?_
        refine V_aload_n Y.1 1 dX6_runScript_126 (rfl : _ = 127) rfl rfl ?_
        refine V_get Y.1 fi_X6_220 hM.1 rfl dX6_runScript_127 (rfl : _ = 130) ?_
        refine V_nm (v := nI n) rfl ?_
        refine V_icmp_ge Y.1 (tgt := 166) dX6_runScript_130 (by decide) (rfl : _ = 133) (fun c_n => absurd c_n (fun q => absurd ((nI_leI (by omega) (by omega)).mp q) (by omega))) (fun _ => ?_)
        refine V_aload_n Y.1 1 dX6_runScript_133 (rfl : _ = 134) rfl rfl ?_
        refine V_iload_n Y.1 0 dX6_runScript_134 (rfl : _ = 135) rfl rfl ?_
        refine V_cV Y (rV Y (c_X6_does l D kA _ o _ _ _ _ _ _ _ _ i n1 t1 hM hI1 (by omega) pk_us (by omega) (hoc i (by omega))) mi_X6_does vi_X6_249 rfl hM.1 rfl rfl (Nat.le_of_ble_eq_true rfl) ⟨Nat.le_of_ble_eq_true rfl, Nat.le_of_ble_eq_true rfl⟩ (Nat.le_of_ble_eq_true rfl) (Nat.le_of_ble_eq_true rfl) dX6_runScript_135) (fun q hq => Or.inl (blk_sub (by omega) (by omega) q hq)) (rfl : _ = 138) (fun H135_7 hq_135 o_135 => ?_)
        have hM := hq_135
        rw [← RI.one hI1, hz, show nI 0 = 0 from rfl, upd_same pk_us] at hM
        refine V_aload_n Y.1 1 dX6_runScript_138 (rfl : _ = 139) rfl rfl ?_
        refine V_get Y.1 fi_X6_39 hM.1 rfl dX6_runScript_139 (rfl : _ = 142) ?_
        refine V_nm (v := 0) rfl ?_
        refine V_if_le Y.1 (tgt := 160) dX6_runScript_142 (by decide) (rfl : _ = 145) (fun _ => ?_) (fun c_n => absurd (by decide) c_n)
        refine V_iinc Y.1 (v := nI (i + 1)) (ls' := [(1, _), (0, _)]) 0 dX6_runScript_160 (rfl : _ = 163) rfl (nI_1 _) (by decide) rfl ?_
        refine V_goto Y.1 (tgt := 125) dX6_runScript_163 (by decide) ?_
        exact ih (i + 1) _ n2 t2 _ (by omega) hI2 (by omega) he hM
    refine V_aload_n Y.1 0 dX6_runScript_52 (rfl : _ = 53) rfl rfl ?_
    refine V_aload_n Y.1 0 dX6_runScript_53 (rfl : _ = 54) rfl rfl ?_
    refine V_get Y.1 fi_X6_205 hM.1 rfl dX6_runScript_54 (rfl : _ = 57) ?_
    refine V_nm (v := nI 0) rfl ?_
    refine V_if_ne Y.1 (tgt := 71) dX6_runScript_57 (by decide) (rfl : _ = 60) (fun c_n => absurd rfl c_n) (fun _ => ?_)
    refine V_aload_n Y.1 0 dX6_runScript_60 (rfl : _ = 61) rfl rfl ?_
    refine V_get Y.1 fi_X6_198 hM.1 rfl dX6_runScript_61 (rfl : _ = 64) ?_
    refine V_nm (v := nI a) rfl ?_
    refine V_aload_n Y.1 0 dX6_runScript_64 (rfl : _ = 65) rfl rfl ?_
    refine V_get Y.1 fi_X6_195 hM.1 rfl dX6_runScript_65 (rfl : _ = 68) ?_
    refine V_nm (v := nI len) hl ?_
    refine V_icmp_ge Y.1 (tgt := 75) dX6_runScript_68 (by decide) (rfl : _ = 71) (fun _ => ?_) (fun c_n => absurd (show nI len ≤ nI a from (nI_leI (by omega) (by omega)).mpr hla) c_n)
    refine V_iconst Y.1 (v := 0) dX6_runScript_75 (rfl : _ = 76) (by decide) ?_
    refine V_put Y.1 fi_X6_205 fw_X6 rfl rfl hM.1 (Or.inl ⟨by omega, by omega⟩) rfl rfl (Nat.le_of_ble_eq_true rfl) dX6_runScript_76 (rfl : _ = 79) (fun H76_13 h_new o_76 => ?_)
    have hM := hM.f12 o_76 h_new
    have hg := hg.put o_76 (by omega)
    clear h_new
    have hM := Rs.d12 (w1 := 0) hM
    refine V_aload_n Y.1 0 dX6_runScript_79 (rfl : _ = 80) rfl rfl ?_
    refine V_aload_n Y.1 0 dX6_runScript_80 (rfl : _ = 81) rfl rfl ?_
    refine V_get Y.1 fi_X6_205 hM.1 rfl dX6_runScript_81 (rfl : _ = 84) ?_
    refine V_nm (v := nI 0) rfl ?_
    refine V_if_eq Y.1 (tgt := 94) dX6_runScript_84 (by decide) (rfl : _ = 87) (fun _ => ?_) (fun c_n => absurd rfl c_n)
    refine V_aload_n Y.1 0 dX6_runScript_94 (rfl : _ = 95) rfl rfl ?_
    refine V_get Y.1 fi_X6_29 hM.1 rfl dX6_runScript_95 (rfl : _ = 98) ?_
    refine V_nm (v := F 13) rfl ?_
    refine V_put Y.1 fi_X6_29 fw_X6 rfl rfl hM.1 (Or.inl ⟨by omega, by omega⟩) rfl rfl (Nat.le_of_ble_eq_true rfl) dX6_runScript_98 (rfl : _ = 101) (fun H98_26 h_new o_98 => ?_)
    have hM := hM.f13 o_98 h_new
    have hg := hg.put o_98 (by omega)
    clear h_new
    refine V_aload_n Y.1 0 dX6_runScript_101 (rfl : _ = 102) rfl rfl ?_
    refine V_iconst Y.1 (v := 0) dX6_runScript_102 (rfl : _ = 103) (by decide) ?_
    refine V_put Y.1 fi_X6_195 fw_X6 rfl rfl hM.1 (Or.inl ⟨by omega, by omega⟩) rfl rfl (Nat.le_of_ble_eq_true rfl) dX6_runScript_103 (rfl : _ = 106) (fun H103_32 h_new o_103 => ?_)
    have hM := hM.f10 o_103 h_new
    have hg := hg.put o_103 (by omega)
    clear h_new
    refine V_aload_n Y.1 0 dX6_runScript_106 (rfl : _ = 107) rfl rfl ?_
    refine V_get Y.1 fi_X6_205 hM.1 rfl dX6_runScript_107 (rfl : _ = 110) ?_
    refine V_nm (v := nI 0) rfl ?_
    refine V_if_eq Y.1 (tgt := 119) dX6_runScript_110 (by decide) (rfl : _ = 113) (fun _ => ?_) (fun c_n => absurd rfl c_n)
    refine V_aload_n Y.1 0 dX6_runScript_119 (rfl : _ = 120) rfl rfl ?_
    refine V_cV Y (rV Y (c_X6_keep l D kA _ _ _ _ _ _ _ _ _ _ hM) mi_X6_keep vi_X6_103 rfl hM.1 rfl rfl (Nat.le_of_ble_eq_true rfl) ⟨Nat.le_of_ble_eq_true rfl, Nat.le_of_ble_eq_true rfl⟩ (Nat.le_of_ble_eq_true rfl) (Nat.le_of_ble_eq_true rfl) dX6_runScript_120) (fun q hq => Or.inl (blk_sub (by omega) (by omega) q hq)) (rfl : _ = 123) (fun H120_41 hq_120 o_120 => ?_)
    have hM := hq_120
    refine V_iconst Y.1 (v := 0) dX6_runScript_123 (rfl : _ = 124) (by decide) ?_
    refine V_istore_n Y.1 (ls' := [(1, _), (0, _)]) dX6_runScript_124 (rfl : _ = 125) rfl (by decide) rfl ?_
    exact lp2 n 0 s nc t0 _ (by omega) hI (by omega) hq hM
  have lp : ∀ (m : Nat) (z : RK) (H : Heap), okC len z → 60 < m + z.2.1 → q_cmds t len m z = fin → Rs D kA H o (r_rd F z.1 z.2.1 z.2.2.1) s b v p u t z.2.2.2 → Ag Hs H → V Pp l Ee (rmO 7 162 0 0) Ss Mm Ar Bl Me Cc 2 (AA H0 (blk o 8)) (QC Bl Ar Ss 0 0 H0 (blk o 8) (pI fun v9 H => v9 = nI fin.2.2.1 ∧ ∃ F1 c1, Rs D kA H o F1 (q_run fin.2.2.2 fin.2.2.1 0 s).2 s v (r_push p s k) u t c1 ∧ F1 6 = 0 ∧ F1 13 = F 13 ∧ F1 10 = 0 ∧ F1 3 = F 3 ∧ F1 5 = nI (r_ok k) ∧ F1 8 = F 8 ∧ F1 14 = F 14)) H 0 0 19 [(0, .ref o)] [] := by
    clear hfin hM
    intro m
    induction m with
    | zero =>
      intro z H hz hm he hM hg
      have := hz.2.1
      exact absurd hm (by omega)
    | succ m ih =>
      intro z H hz hm he hM hg
      obtain ⟨w, a, n, c1⟩ := z
      have hw : w < 2 := hz.1
      have ha : a ≤ len := hz.2.1
      have hc := hz.2.2
      dsimp only at hM hm hc
      refine V_aload_n Y.1 0 dX6_runScript_19 (rfl : _ = 20) rfl rfl ?_
      refine V_get Y.1 fi_X6_205 hM.1 rfl dX6_runScript_20 (rfl : _ = 23) ?_
      refine V_nm (v := nI w) rfl ?_
      refine V_if_ne Y.1 (tgt := 52) dX6_runScript_23 (by decide) (rfl : _ = 26) (fun c_23 => ?_) (fun c_23 => ?_)
      · have c0 : ¬ w = 0 := fun q => c_23 (by rw [q]; rfl)
        have e9 : fin = (w, a, n, c1) := by rw [← he]; exact if_neg (fun q => c0 q.1)
        exact f52 _ (by rw [e9]; exact hM) hg
        skip
      · have c0 : w = 0 := Decidable.byContradiction fun q => absurd c_23 (nI_ne0 (by omega) (by omega))
        subst c0
        refine V_aload_n Y.1 0 dX6_runScript_26 (rfl : _ = 27) rfl rfl ?_
        refine V_cP Y (rV Y (c_X6_behind l D kA _ o F _ _ _ _ _ _ _ 0 a n len hM hl hlen ha (by decide)) mi_X6_behind vi_X6_209 rfl hM.1 rfl rfl (Nat.le_of_ble_eq_true rfl) ⟨Nat.le_of_ble_eq_true rfl, Nat.le_of_ble_eq_true rfl⟩ (Nat.le_of_ble_eq_true rfl) (Nat.le_of_ble_eq_true rfl) dX6_runScript_27) (rfl : _ = 30) ?_
        refine V_bipush Y.1 (v := 59) dX6_runScript_30 (rfl : _ = 32) (by decide) ?_
        refine V_icmp_ne Y.1 (tgt := 52) dX6_runScript_32 (by decide) (rfl : _ = 35) (fun c_32 => ?_) (fun c_32 => ?_)
        · have e9 : fin = (0, a, n, c1) := by rw [← he]; exact if_neg (fun q => c_32 q.2)
          exact f52 _ (by rw [e9]; exact hM) hg
          skip
        · have hlt : a < len := r_beh_lt (by rw [c_32]; decide)
          have hcc := hc rfl
          rw [show q_cmds t len (m + 1) (0, a, n, c1) = q_cmds t len m (q_cmd t len (0, a + 1, n, c1)) from if_pos ⟨rfl, c_32⟩] at he
          refine V_aload_n Y.1 0 dX6_runScript_35 (rfl : _ = 36) rfl rfl ?_
          refine V_dup Y.1 dX6_runScript_36 (rfl : _ = 37) rfl ?_
          refine V_get Y.1 fi_X6_198 hM.1 rfl dX6_runScript_37 (rfl : _ = 40) ?_
          refine V_nm (v := nI a) rfl ?_
          refine V_iconst Y.1 (v := 1) dX6_runScript_40 (rfl : _ = 41) (by decide) ?_
          refine V_iadd Y.1 dX6_runScript_41 (rfl : _ = 42) ?_
          refine V_nm (v := nI (a + 1)) (nI_1 _) ?_
          refine V_put Y.1 fi_X6_198 fw_X6 rfl rfl hM.1 (Or.inl ⟨by omega, by omega⟩) rfl rfl (Nat.le_of_ble_eq_true rfl) dX6_runScript_42 (rfl : _ = 45) (fun H42_27 h_new o_42 => ?_)
          have hM := hM.f11 o_42 h_new
          have hg := hg.put o_42 (by omega)
          clear h_new
          have hM := Rs.d11 (a1 := a + 1) hM
          refine V_aload_n Y.1 0 dX6_runScript_45 (rfl : _ = 46) rfl rfl ?_
          refine V_cV Y (sV Z (c_X6_readCommand l D kA Hs σ _ hg o F _ _ _ _ _ _ _ 0 (a + 1) n len hM hl hlen hlt (by decide) hb0 (by omega)) mi_X6_readCommand vi_X6_246 rfl hM.1 rfl rfl (Nat.le_of_ble_eq_true rfl) ⟨Nat.le_of_ble_eq_true rfl, Nat.le_of_ble_eq_true rfl⟩ (Nat.le_of_ble_eq_true rfl) (Nat.le_of_ble_eq_true rfl) dX6_runScript_46) (fun q hq => Or.inl (blk_sub (by omega) (by omega) q hq)) (rfl : _ = 49) (fun H46_33 hq_46 o_46 => ?_)
          have hg := hg.keep o_46 (fun q z => Nat.le_trans hb0 z.1)
          have hM := hq_46
          have gt := (q_cmd_ok (t := t) (n := n) (c := c1) hlt).2.1
          refine V_goto Y.1 (tgt := 19) dX6_runScript_49 (by decide) ?_
          exact ih _ _ (okC.cmd hlt (Nat.le_succ_of_le hcc.1) hcc.2) (by omega) he hM hg
  refine V_aload_n Y.1 0 dX6_runScript_0 (rfl : _ = 1) rfl rfl ?_
  refine V_iconst Y.1 (v := 0) dX6_runScript_1 (rfl : _ = 2) (by decide) ?_
  refine V_put Y.1 fi_X6_198 fw_X6 rfl rfl hM.1 (Or.inl ⟨by omega, by omega⟩) rfl rfl (Nat.le_of_ble_eq_true rfl) dX6_runScript_2 (rfl : _ = 5) (fun H2_2 h_new o_2 => ?_)
  have hM := hM.f11 o_2 h_new
  have hg := hg.put o_2 (by omega)
  clear h_new
  refine V_aload_n Y.1 0 dX6_runScript_5 (rfl : _ = 6) rfl rfl ?_
  refine V_iconst Y.1 (v := 0) dX6_runScript_6 (rfl : _ = 7) (by decide) ?_
  refine V_put Y.1 fi_X6_205 fw_X6 rfl rfl hM.1 (Or.inl ⟨by omega, by omega⟩) rfl rfl (Nat.le_of_ble_eq_true rfl) dX6_runScript_7 (rfl : _ = 10) (fun H7_8 h_new o_7 => ?_)
  have hM := hM.f12 o_7 h_new
  have hg := hg.put o_7 (by omega)
  clear h_new
  refine V_aload_n Y.1 0 dX6_runScript_10 (rfl : _ = 11) rfl rfl ?_
  refine V_iconst Y.1 (v := 0) dX6_runScript_11 (rfl : _ = 12) (by decide) ?_
  refine V_put Y.1 fi_X6_220 fw_X6 rfl rfl hM.1 (Or.inl ⟨by omega, by omega⟩) rfl rfl (Nat.le_of_ble_eq_true rfl) dX6_runScript_12 (rfl : _ = 15) (fun H12_14 h_new o_12 => ?_)
  have hM := hM.f16 o_12 h_new
  have hg := hg.put o_12 (by omega)
  clear h_new
  refine V_aload_n Y.1 0 dX6_runScript_15 (rfl : _ = 16) rfl rfl ?_
  have hM := Rs.to0 hM
  refine V_cV Y (sV Z (c_X6_readCommand l D kA Hs σ _ hg o F _ _ _ _ _ _ _ 0 (0) 0 len hM hl hlen (Nat.zero_le _) (by decide) hb0 (by decide)) mi_X6_readCommand vi_X6_246 rfl hM.1 rfl rfl (Nat.le_of_ble_eq_true rfl) ⟨Nat.le_of_ble_eq_true rfl, Nat.le_of_ble_eq_true rfl⟩ (Nat.le_of_ble_eq_true rfl) (Nat.le_of_ble_eq_true rfl) dX6_runScript_16) (fun q hq => Or.inl (blk_sub (by omega) (by omega) q hq)) (rfl : _ = 19) (fun H16_20 hq_16 o_16 => ?_)
  have hg := hg.keep o_16 (fun q z => Nat.le_trans hb0 z.1)
  have hM := hq_16
  exact lp 61 _ _ (okC.cmd (Nat.zero_le _) (Nat.le_refl _) (fun i hi => absurd hi (by omega))) (by omega) hfin hM hg

set_option maxRecDepth 100000 in
set_option maxHeartbeats 4000000 in
theorem c_X6_runScript_f (l : Launch) (D : va_G) (kA : Nat → ClassId) (Hs : Heap) (σ : SG) (H0 : Heap) (hg : Ag Hs H0) (o : Nat) (F s b v p u t c : Nat → Int32) (len nc t0 k : Nat) (hM : Rs D kA H0 o F s b v p u t c) (hl : F 10 = nI len) (hlen : len ≤ 60) (hb0 : Hs.size ≤ o) (hgood : (q_cmds t len 61 (q_cmd t len (0, 0, 0, c))).1 = 0 ∧ len ≤ (q_cmds t len 61 (q_cmd t len (0, 0, 0, c))).2.1) (hI : RI s nc t0) (ht : t0 + 200000 < 2 ^ 30) (hk : F 5 = nI k) (hk8 : k ≤ 8) (j : Nat) (hrun : (q_run (q_cmds t len 61 (q_cmd t len (0, 0, 0, c))).2.2.2 (q_cmds t len 61 (q_cmd t len (0, 0, 0, c))).2.2.1 0 s).1 = some j) : CtS l D kA Hs σ yX6_runScript cX6_runScript 2 (some .int) 7 162 0 0 H0 [.ref o] (blk o 8) (pI fun v9 H => v9 = 0 ∧ ∃ F1 c1, Rs D kA H o F1 s s v p u t c1 ∧ F1 6 = 2 ∧ F1 13 = F 13 ∧ F1 10 = 0 ∧ F1 3 = F 3 ∧ F1 5 = F 5 ∧ F1 8 = F 8 ∧ F1 14 = nI j) := by
  refine CtS.of mi_X6_runScript (Nat.le_of_ble_eq_true rfl) (ls0 := [(0, _)]) rfl hg (fun q z => Nat.le_trans hb0 z.1) ?_
  intro Pp Ee Ss Mm Ar Bl Me Cc Z hs hnm
  have Y := Z.1
  obtain ⟨fin, hfin⟩ : ∃ z, (q_cmds t len 61 (q_cmd t len (0, 0, 0, c))) = z := ⟨_, rfl⟩
  rw [hfin] at hgood hrun
  try rw [hfin]
  have hok : okC len fin := by rw [← hfin]; exact okC.cmds _ _ (okC.cmd (Nat.zero_le _) (Nat.le_refl _) (fun i hi => absurd hi (by omega)))
  have f52 : ∀ (H : Heap), Rs D kA H o (r_rd F fin.1 fin.2.1 fin.2.2.1) s b v p u t fin.2.2.2 → Ag Hs H → V Pp l Ee (rmO 7 162 0 0) Ss Mm Ar Bl Me Cc 2 (AA H0 (blk o 8)) (QC Bl Ar Ss 0 0 H0 (blk o 8) (pI fun v9 H => v9 = 0 ∧ ∃ F1 c1, Rs D kA H o F1 s s v p u t c1 ∧ F1 6 = 2 ∧ F1 13 = F 13 ∧ F1 10 = 0 ∧ F1 3 = F 3 ∧ F1 5 = F 5 ∧ F1 8 = F 8 ∧ F1 14 = nI j)) H 0 0 52 [(0, .ref o)] [] := by
    clear hfin hM
    obtain ⟨w, a, n, c1⟩ := fin
    dsimp only at *
    intro H hM hg
    obtain ⟨hw0, hla⟩ := hgood
    subst hw0
    obtain ⟨hna, hoc⟩ := hok.2.2 rfl
    have hal : a ≤ len := hok.2.1
    dsimp only at hna hoc
    have hq : (q_run c1 n 0 s).1 = some j := hrun
    have lp2 : ∀ (r i : Nat) (s1 : Nat → Int32) (n1 t1 : Nat) (H : Heap), i + r = n → RI s1 n1 t1 → t1 ≤ t0 + 2000 * i → (q_run c1 r i s1).1 = some j → Rs D kA H o (upd (upd (upd (r_rd F 0 a n) 13 (F 13)) 10 0) 6 0) s1 s v p u t c1 → V Pp l Ee (rmO 7 162 0 0) Ss Mm Ar Bl Me Cc 2 (AA H0 (blk o 8)) (QC Bl Ar Ss 0 0 H0 (blk o 8) (pI fun v9 H => v9 = 0 ∧ ∃ F1 c1, Rs D kA H o F1 s s v p u t c1 ∧ F1 6 = 2 ∧ F1 13 = F 13 ∧ F1 10 = 0 ∧ F1 3 = F 3 ∧ F1 5 = F 5 ∧ F1 8 = F 8 ∧ F1 14 = nI j)) H 0 0 125 [(1, .int (nI i)), (0, .ref o)] [] := by
      clear hM hg hq hrun
      intro r
      induction r with
      | zero =>
        intro i s1 n1 t1 H hi hI1 ht1 he hM
        exact absurd he (fun z => by cases z)
      | succ r ih =>
        intro i s1 n1 t1 H hi hI1 ht1 he hM
        by_cases hz : (q_one s1 c1 i).1 = 0
        · rw [q_run, if_pos hz] at he
          have hz2 := hz
          rw [RI.one hI1] at hz2
          obtain ⟨n2, t2, ht3, hI2⟩ := hI1.do (by omega) hz2
          rw [← RI.one hI1] at hI2
          refine V_iload_n Y.1 0 dX6_runScript_125 (rfl : _ = 126) rfl rfl ?_
          refine V_aload_n Y.1 1 dX6_runScript_126 (rfl : _ = 127) rfl rfl ?_
          refine V_get Y.1 fi_X6_220 hM.1 rfl dX6_runScript_127 (rfl : _ = 130) ?_
          refine V_nm (v := nI n) rfl ?_
          refine V_icmp_ge Y.1 (tgt := 166) dX6_runScript_130 (by decide) (rfl : _ = 133) (fun c_n => absurd c_n (fun q => absurd ((nI_leI (by omega) (by omega)).mp q) (by omega))) (fun _ => ?_)
          refine V_aload_n Y.1 1 dX6_runScript_133 (rfl : _ = 134) rfl rfl ?_
          refine V_iload_n Y.1 0 dX6_runScript_134 (rfl : _ = 135) rfl rfl ?_
          refine V_cV Y (rV Y (c_X6_does l D kA _ o _ _ _ _ _ _ _ _ i n1 t1 hM hI1 (by omega) pk_us (by omega) (hoc i (by omega))) mi_X6_does vi_X6_249 rfl hM.1 rfl rfl (Nat.le_of_ble_eq_true rfl) ⟨Nat.le_of_ble_eq_true rfl, Nat.le_of_ble_eq_true rfl⟩ (Nat.le_of_ble_eq_true rfl) (Nat.le_of_ble_eq_true rfl) dX6_runScript_135) (fun q hq => Or.inl (blk_sub (by omega) (by omega) q hq)) (rfl : _ = 138) (fun H135_7 hq_135 o_135 => ?_)
          have hM := hq_135
          rw [← RI.one hI1, hz, show nI 0 = 0 from rfl, upd_same pk_us] at hM
          refine V_aload_n Y.1 1 dX6_runScript_138 (rfl : _ = 139) rfl rfl ?_
          refine V_get Y.1 fi_X6_39 hM.1 rfl dX6_runScript_139 (rfl : _ = 142) ?_
          refine V_nm (v := 0) rfl ?_
          refine V_if_le Y.1 (tgt := 160) dX6_runScript_142 (by decide) (rfl : _ = 145) (fun _ => ?_) (fun c_n => absurd (by decide) c_n)
          refine V_iinc Y.1 (v := nI (i + 1)) (ls' := [(1, _), (0, _)]) 0 dX6_runScript_160 (rfl : _ = 163) rfl (nI_1 _) (by decide) rfl ?_
          refine V_goto Y.1 (tgt := 125) dX6_runScript_163 (by decide) ?_
          exact ih (i + 1) _ n2 t2 _ (by omega) hI2 (by omega) he hM
        · rw [q_run, if_neg hz] at he
          obtain rfl : i = j := Option.some.inj he
          have hlt := q_one_lt s1 c1 i
          refine V_iload_n Y.1 0 dX6_runScript_125 (rfl : _ = 126) rfl rfl ?_
          refine V_aload_n Y.1 1 dX6_runScript_126 (rfl : _ = 127) rfl rfl ?_
          refine V_get Y.1 fi_X6_220 hM.1 rfl dX6_runScript_127 (rfl : _ = 130) ?_
          refine V_nm (v := nI n) rfl ?_
          refine V_icmp_ge Y.1 (tgt := 166) dX6_runScript_130 (by decide) (rfl : _ = 133) (fun c_n => absurd c_n (fun q => absurd ((nI_leI (by omega) (by omega)).mp q) (by omega))) (fun _ => ?_)
          refine V_aload_n Y.1 1 dX6_runScript_133 (rfl : _ = 134) rfl rfl ?_
          refine V_iload_n Y.1 0 dX6_runScript_134 (rfl : _ = 135) rfl rfl ?_
          refine V_cV Y (rV Y (c_X6_does l D kA _ o _ _ _ _ _ _ _ _ i n1 t1 hM hI1 (by omega) pk_us (by omega) (hoc i (by omega))) mi_X6_does vi_X6_249 rfl hM.1 rfl rfl (Nat.le_of_ble_eq_true rfl) ⟨Nat.le_of_ble_eq_true rfl, Nat.le_of_ble_eq_true rfl⟩ (Nat.le_of_ble_eq_true rfl) (Nat.le_of_ble_eq_true rfl) dX6_runScript_135) (fun q hq => Or.inl (blk_sub (by omega) (by omega) q hq)) (rfl : _ = 138) (fun H135_7 hq_135 o_135 => ?_)
          have hM := hq_135
          rw [← RI.one hI1] at hM
          refine V_aload_n Y.1 1 dX6_runScript_138 (rfl : _ = 139) rfl rfl ?_
          refine V_get Y.1 fi_X6_39 hM.1 rfl dX6_runScript_139 (rfl : _ = 142) ?_
          refine V_nm (v := nI (q_one s1 c1 i).1) pk_us ?_
          refine V_if_le Y.1 (tgt := 160) dX6_runScript_142 (by decide) (rfl : _ = 145) (fun c_n => absurd c_n (fun q => absurd ((nI_leI (b := 0) (by omega) (by decide)).mp q) (by omega))) (fun _ => ?_)
          refine V_aload_n Y.1 1 dX6_runScript_145 (rfl : _ = 146) rfl rfl ?_
          refine V_iload_n Y.1 0 dX6_runScript_146 (rfl : _ = 147) rfl rfl ?_
          refine V_put Y.1 fi_X6_33 fw_X6 rfl rfl hM.1 (Or.inl ⟨by omega, by omega⟩) rfl rfl (Nat.le_of_ble_eq_true rfl) dX6_runScript_147 (rfl : _ = 150) (fun H147_16 h_new o_147 => ?_)
          have hM := hM.f14 o_147 h_new
          clear h_new
          refine V_aload_n Y.1 1 dX6_runScript_150 (rfl : _ = 151) rfl rfl ?_
          refine V_aload_n Y.1 1 dX6_runScript_151 (rfl : _ = 152) rfl rfl ?_
          refine V_iconst Y.1 (v := 2) dX6_runScript_152 (rfl : _ = 153) (by decide) ?_
          refine V_cI Y (rV Y (c_X6_fails l D kA _ _ _ _ _ _ _ _ _ _ 2 hM) mi_X6_fails vi_X6_100 rfl hM.1 rfl rfl (Nat.le_of_ble_eq_true rfl) ⟨Nat.le_of_ble_eq_true rfl, Nat.le_of_ble_eq_true rfl⟩ (Nat.le_of_ble_eq_true rfl) (Nat.le_of_ble_eq_true rfl) dX6_runScript_153) (fun q hq => Or.inl (blk_sub (by omega) (by omega) q hq)) (rfl : _ = 156) (fun v_153 H153_22 hq_153 o_153 => ?_)
          obtain ⟨e153, hM⟩ := hq_153
          refine V_cI Y (rV Y (c_X6_ends_f l D kA _ _ _ _ _ _ _ _ _ _ _ hM (by show (2 : Int32) > 0; decide)) mi_X6_ends vi_X6_110 rfl hM.1 rfl rfl (Nat.le_of_ble_eq_true rfl) ⟨Nat.le_of_ble_eq_true rfl, Nat.le_of_ble_eq_true rfl⟩ (Nat.le_of_ble_eq_true rfl) (Nat.le_of_ble_eq_true rfl) dX6_runScript_156) (fun q hq => Or.inl (blk_sub (by omega) (by omega) q hq)) (rfl : _ = 159) (fun v_156 H156_24 hq_156 o_156 => ?_)
          obtain ⟨e156, hM⟩ := hq_156
          exact V_ret Y.1 dX6_runScript_159 rfl (Nat.le_of_ble_eq_true rfl) (Nat.le_of_ble_eq_true rfl) ⟨e156, _, _, hM, rfl, rfl, rfl, rfl, rfl, rfl, rfl⟩
    refine V_aload_n Y.1 0 dX6_runScript_52 (rfl : _ = 53) rfl rfl ?_
    refine V_aload_n Y.1 0 dX6_runScript_53 (rfl : _ = 54) rfl rfl ?_
    refine V_get Y.1 fi_X6_205 hM.1 rfl dX6_runScript_54 (rfl : _ = 57) ?_
    refine V_nm (v := nI 0) rfl ?_
    refine V_if_ne Y.1 (tgt := 71) dX6_runScript_57 (by decide) (rfl : _ = 60) (fun c_n => absurd rfl c_n) (fun _ => ?_)
    refine V_aload_n Y.1 0 dX6_runScript_60 (rfl : _ = 61) rfl rfl ?_
    refine V_get Y.1 fi_X6_198 hM.1 rfl dX6_runScript_61 (rfl : _ = 64) ?_
    refine V_nm (v := nI a) rfl ?_
    refine V_aload_n Y.1 0 dX6_runScript_64 (rfl : _ = 65) rfl rfl ?_
    refine V_get Y.1 fi_X6_195 hM.1 rfl dX6_runScript_65 (rfl : _ = 68) ?_
    refine V_nm (v := nI len) hl ?_
    refine V_icmp_ge Y.1 (tgt := 75) dX6_runScript_68 (by decide) (rfl : _ = 71) (fun _ => ?_) (fun c_n => absurd (show nI len ≤ nI a from (nI_leI (by omega) (by omega)).mpr hla) c_n)
    refine V_iconst Y.1 (v := 0) dX6_runScript_75 (rfl : _ = 76) (by decide) ?_
    refine V_put Y.1 fi_X6_205 fw_X6 rfl rfl hM.1 (Or.inl ⟨by omega, by omega⟩) rfl rfl (Nat.le_of_ble_eq_true rfl) dX6_runScript_76 (rfl : _ = 79) (fun H76_13 h_new o_76 => ?_)
    have hM := hM.f12 o_76 h_new
    have hg := hg.put o_76 (by omega)
    clear h_new
    have hM := Rs.d12 (w1 := 0) hM
    refine V_aload_n Y.1 0 dX6_runScript_79 (rfl : _ = 80) rfl rfl ?_
    refine V_aload_n Y.1 0 dX6_runScript_80 (rfl : _ = 81) rfl rfl ?_
    refine V_get Y.1 fi_X6_205 hM.1 rfl dX6_runScript_81 (rfl : _ = 84) ?_
    refine V_nm (v := nI 0) rfl ?_
    refine V_if_eq Y.1 (tgt := 94) dX6_runScript_84 (by decide) (rfl : _ = 87) (fun _ => ?_) (fun c_n => absurd rfl c_n)
    refine V_aload_n Y.1 0 dX6_runScript_94 (rfl : _ = 95) rfl rfl ?_
    refine V_get Y.1 fi_X6_29 hM.1 rfl dX6_runScript_95 (rfl : _ = 98) ?_
    refine V_nm (v := F 13) rfl ?_
    refine V_put Y.1 fi_X6_29 fw_X6 rfl rfl hM.1 (Or.inl ⟨by omega, by omega⟩) rfl rfl (Nat.le_of_ble_eq_true rfl) dX6_runScript_98 (rfl : _ = 101) (fun H98_26 h_new o_98 => ?_)
    have hM := hM.f13 o_98 h_new
    have hg := hg.put o_98 (by omega)
    clear h_new
    refine V_aload_n Y.1 0 dX6_runScript_101 (rfl : _ = 102) rfl rfl ?_
    refine V_iconst Y.1 (v := 0) dX6_runScript_102 (rfl : _ = 103) (by decide) ?_
    refine V_put Y.1 fi_X6_195 fw_X6 rfl rfl hM.1 (Or.inl ⟨by omega, by omega⟩) rfl rfl (Nat.le_of_ble_eq_true rfl) dX6_runScript_103 (rfl : _ = 106) (fun H103_32 h_new o_103 => ?_)
    have hM := hM.f10 o_103 h_new
    have hg := hg.put o_103 (by omega)
    clear h_new
    refine V_aload_n Y.1 0 dX6_runScript_106 (rfl : _ = 107) rfl rfl ?_
    refine V_get Y.1 fi_X6_205 hM.1 rfl dX6_runScript_107 (rfl : _ = 110) ?_
    refine V_nm (v := nI 0) rfl ?_
    refine V_if_eq Y.1 (tgt := 119) dX6_runScript_110 (by decide) (rfl : _ = 113) (fun _ => ?_) (fun c_n => absurd rfl c_n)
    refine V_aload_n Y.1 0 dX6_runScript_119 (rfl : _ = 120) rfl rfl ?_
    refine V_cV Y (rV Y (c_X6_keep l D kA _ _ _ _ _ _ _ _ _ _ hM) mi_X6_keep vi_X6_103 rfl hM.1 rfl rfl (Nat.le_of_ble_eq_true rfl) ⟨Nat.le_of_ble_eq_true rfl, Nat.le_of_ble_eq_true rfl⟩ (Nat.le_of_ble_eq_true rfl) (Nat.le_of_ble_eq_true rfl) dX6_runScript_120) (fun q hq => Or.inl (blk_sub (by omega) (by omega) q hq)) (rfl : _ = 123) (fun H120_41 hq_120 o_120 => ?_)
    have hM := hq_120
    refine V_iconst Y.1 (v := 0) dX6_runScript_123 (rfl : _ = 124) (by decide) ?_
    refine V_istore_n Y.1 (ls' := [(1, _), (0, _)]) dX6_runScript_124 (rfl : _ = 125) rfl (by decide) rfl ?_
    exact lp2 n 0 s nc t0 _ (by omega) hI (by omega) hq hM
  have lp : ∀ (m : Nat) (z : RK) (H : Heap), okC len z → 60 < m + z.2.1 → q_cmds t len m z = fin → Rs D kA H o (r_rd F z.1 z.2.1 z.2.2.1) s b v p u t z.2.2.2 → Ag Hs H → V Pp l Ee (rmO 7 162 0 0) Ss Mm Ar Bl Me Cc 2 (AA H0 (blk o 8)) (QC Bl Ar Ss 0 0 H0 (blk o 8) (pI fun v9 H => v9 = 0 ∧ ∃ F1 c1, Rs D kA H o F1 s s v p u t c1 ∧ F1 6 = 2 ∧ F1 13 = F 13 ∧ F1 10 = 0 ∧ F1 3 = F 3 ∧ F1 5 = F 5 ∧ F1 8 = F 8 ∧ F1 14 = nI j)) H 0 0 19 [(0, .ref o)] [] := by
    clear hfin hM
    intro m
    induction m with
    | zero =>
      intro z H hz hm he hM hg
      have := hz.2.1
      exact absurd hm (by omega)
    | succ m ih =>
      intro z H hz hm he hM hg
      obtain ⟨w, a, n, c1⟩ := z
      have hw : w < 2 := hz.1
      have ha : a ≤ len := hz.2.1
      have hc := hz.2.2
      dsimp only at hM hm hc
      refine V_aload_n Y.1 0 dX6_runScript_19 (rfl : _ = 20) rfl rfl ?_
      refine V_get Y.1 fi_X6_205 hM.1 rfl dX6_runScript_20 (rfl : _ = 23) ?_
      refine V_nm (v := nI w) rfl ?_
      refine V_if_ne Y.1 (tgt := 52) dX6_runScript_23 (by decide) (rfl : _ = 26) (fun c_23 => ?_) (fun c_23 => ?_)
      · have c0 : ¬ w = 0 := fun q => c_23 (by rw [q]; rfl)
        have e9 : fin = (w, a, n, c1) := by rw [← he]; exact if_neg (fun q => c0 q.1)
        exact f52 _ (by rw [e9]; exact hM) hg
        skip
      · have c0 : w = 0 := Decidable.byContradiction fun q => absurd c_23 (nI_ne0 (by omega) (by omega))
        subst c0
        refine V_aload_n Y.1 0 dX6_runScript_26 (rfl : _ = 27) rfl rfl ?_
        refine V_cP Y (rV Y (c_X6_behind l D kA _ o F _ _ _ _ _ _ _ 0 a n len hM hl hlen ha (by decide)) mi_X6_behind vi_X6_209 rfl hM.1 rfl rfl (Nat.le_of_ble_eq_true rfl) ⟨Nat.le_of_ble_eq_true rfl, Nat.le_of_ble_eq_true rfl⟩ (Nat.le_of_ble_eq_true rfl) (Nat.le_of_ble_eq_true rfl) dX6_runScript_27) (rfl : _ = 30) ?_
        refine V_bipush Y.1 (v := 59) dX6_runScript_30 (rfl : _ = 32) (by decide) ?_
        refine V_icmp_ne Y.1 (tgt := 52) dX6_runScript_32 (by decide) (rfl : _ = 35) (fun c_32 => ?_) (fun c_32 => ?_)
        · have e9 : fin = (0, a, n, c1) := by rw [← he]; exact if_neg (fun q => c_32 q.2)
          exact f52 _ (by rw [e9]; exact hM) hg
          skip
        · have hlt : a < len := r_beh_lt (by rw [c_32]; decide)
          have hcc := hc rfl
          rw [show q_cmds t len (m + 1) (0, a, n, c1) = q_cmds t len m (q_cmd t len (0, a + 1, n, c1)) from if_pos ⟨rfl, c_32⟩] at he
          refine V_aload_n Y.1 0 dX6_runScript_35 (rfl : _ = 36) rfl rfl ?_
          refine V_dup Y.1 dX6_runScript_36 (rfl : _ = 37) rfl ?_
          refine V_get Y.1 fi_X6_198 hM.1 rfl dX6_runScript_37 (rfl : _ = 40) ?_
          refine V_nm (v := nI a) rfl ?_
          refine V_iconst Y.1 (v := 1) dX6_runScript_40 (rfl : _ = 41) (by decide) ?_
          refine V_iadd Y.1 dX6_runScript_41 (rfl : _ = 42) ?_
          refine V_nm (v := nI (a + 1)) (nI_1 _) ?_
          refine V_put Y.1 fi_X6_198 fw_X6 rfl rfl hM.1 (Or.inl ⟨by omega, by omega⟩) rfl rfl (Nat.le_of_ble_eq_true rfl) dX6_runScript_42 (rfl : _ = 45) (fun H42_27 h_new o_42 => ?_)
          have hM := hM.f11 o_42 h_new
          have hg := hg.put o_42 (by omega)
          clear h_new
          have hM := Rs.d11 (a1 := a + 1) hM
          refine V_aload_n Y.1 0 dX6_runScript_45 (rfl : _ = 46) rfl rfl ?_
          refine V_cV Y (sV Z (c_X6_readCommand l D kA Hs σ _ hg o F _ _ _ _ _ _ _ 0 (a + 1) n len hM hl hlen hlt (by decide) hb0 (by omega)) mi_X6_readCommand vi_X6_246 rfl hM.1 rfl rfl (Nat.le_of_ble_eq_true rfl) ⟨Nat.le_of_ble_eq_true rfl, Nat.le_of_ble_eq_true rfl⟩ (Nat.le_of_ble_eq_true rfl) (Nat.le_of_ble_eq_true rfl) dX6_runScript_46) (fun q hq => Or.inl (blk_sub (by omega) (by omega) q hq)) (rfl : _ = 49) (fun H46_33 hq_46 o_46 => ?_)
          have hg := hg.keep o_46 (fun q z => Nat.le_trans hb0 z.1)
          have hM := hq_46
          have gt := (q_cmd_ok (t := t) (n := n) (c := c1) hlt).2.1
          refine V_goto Y.1 (tgt := 19) dX6_runScript_49 (by decide) ?_
          exact ih _ _ (okC.cmd hlt (Nat.le_succ_of_le hcc.1) hcc.2) (by omega) he hM hg
  refine V_aload_n Y.1 0 dX6_runScript_0 (rfl : _ = 1) rfl rfl ?_
  refine V_iconst Y.1 (v := 0) dX6_runScript_1 (rfl : _ = 2) (by decide) ?_
  refine V_put Y.1 fi_X6_198 fw_X6 rfl rfl hM.1 (Or.inl ⟨by omega, by omega⟩) rfl rfl (Nat.le_of_ble_eq_true rfl) dX6_runScript_2 (rfl : _ = 5) (fun H2_2 h_new o_2 => ?_)
  have hM := hM.f11 o_2 h_new
  have hg := hg.put o_2 (by omega)
  clear h_new
  refine V_aload_n Y.1 0 dX6_runScript_5 (rfl : _ = 6) rfl rfl ?_
  refine V_iconst Y.1 (v := 0) dX6_runScript_6 (rfl : _ = 7) (by decide) ?_
  refine V_put Y.1 fi_X6_205 fw_X6 rfl rfl hM.1 (Or.inl ⟨by omega, by omega⟩) rfl rfl (Nat.le_of_ble_eq_true rfl) dX6_runScript_7 (rfl : _ = 10) (fun H7_8 h_new o_7 => ?_)
  have hM := hM.f12 o_7 h_new
  have hg := hg.put o_7 (by omega)
  clear h_new
  refine V_aload_n Y.1 0 dX6_runScript_10 (rfl : _ = 11) rfl rfl ?_
  refine V_iconst Y.1 (v := 0) dX6_runScript_11 (rfl : _ = 12) (by decide) ?_
  refine V_put Y.1 fi_X6_220 fw_X6 rfl rfl hM.1 (Or.inl ⟨by omega, by omega⟩) rfl rfl (Nat.le_of_ble_eq_true rfl) dX6_runScript_12 (rfl : _ = 15) (fun H12_14 h_new o_12 => ?_)
  have hM := hM.f16 o_12 h_new
  have hg := hg.put o_12 (by omega)
  clear h_new
  refine V_aload_n Y.1 0 dX6_runScript_15 (rfl : _ = 16) rfl rfl ?_
  have hM := Rs.to0 hM
  refine V_cV Y (sV Z (c_X6_readCommand l D kA Hs σ _ hg o F _ _ _ _ _ _ _ 0 (0) 0 len hM hl hlen (Nat.zero_le _) (by decide) hb0 (by decide)) mi_X6_readCommand vi_X6_246 rfl hM.1 rfl rfl (Nat.le_of_ble_eq_true rfl) ⟨Nat.le_of_ble_eq_true rfl, Nat.le_of_ble_eq_true rfl⟩ (Nat.le_of_ble_eq_true rfl) (Nat.le_of_ble_eq_true rfl) dX6_runScript_16) (fun q hq => Or.inl (blk_sub (by omega) (by omega) q hq)) (rfl : _ = 19) (fun H16_20 hq_16 o_16 => ?_)
  have hg := hg.keep o_16 (fun q z => Nat.le_trans hb0 z.1)
  have hM := hq_16
  exact lp 61 _ _ (okC.cmd (Nat.zero_le _) (Nat.le_refl _) (fun i hi => absurd hi (by omega))) (by omega) hfin hM hg

