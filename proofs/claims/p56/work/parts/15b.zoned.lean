/-! The law's stations: zones, fares, ranks. -/
theorem rk_ahead {S C : Nat → Int} {n i j : Nat} (hi : i < n) (hj : j < n) (h : rkB S C n i < rkB S C n j) : aB S C i j = true := by
  cases e : aB S C i j
  · have e1 := of_decide_eq_false e
    by_cases g : i = j
    · subst g; omega
    · have e2 : aB S C j i = true := decide_eq_true (by omega)
      have := rkB_mono (n := n) hj e2
      omega
  · rfl
theorem st_ahead (M : MS) {f : Nat} (h0 : 0 < f) (hf : f < 12) : ¬ M.2.2.1 (stB M (f - 1)) < M.2.2.1 (stB M f) ∧ (M.2.2.1 (stB M (f - 1)) = M.2.2.1 (stB M f) → stB M (f - 1) < stB M f) := by
  obtain ⟨a1, a2⟩ := stB_ok M hf
  obtain ⟨b1, b2⟩ := stB_ok M (show f - 1 < 12 by omega)
  rw [ln_rk_B] at a2 b2
  have h := of_decide_eq_true (rk_ahead b1 a1 (by rw [a2, b2]; omega))
  rw [Int32.lt_iff_toInt_lt, ← Int32.toInt_inj]
  exact ⟨by omega, by omega⟩
set_option maxRecDepth 100000 in
set_option maxHeartbeats 4000000 in
theorem c_L_zoned (l : Launch) (D : va_G) (kA : Nat → ClassId) (Hs : Heap) (σ : SG) (H0 : Heap) (hg : Ag Hs H0) (a : Nat) (M : MS) (s : Nat → Int32) (n t q u : Nat) (p : Nat → Nat → Int32) (no : Nat) (go : Nat → Int32) (ns : Nat) (X : Nat → Prop)  (hJ : Lw D kA Hs H0 a M s n t q u p no go ns X) (hnt : l.stackTraces = false)  : CtS l D kA Hs σ yL_zoned cL_zoned 4 (some .boolean) 11 186 18100 104800 H0 [.ref a] (nof) (pI fun v9 H => v9 = 1) := by
  refine CtS.of mi_L_zoned (Nat.le_of_ble_eq_true rfl) (ls0 := [(0, _)]) rfl hg (fun _ z => z.elim) ?_
  intro Pp Ee Ss Mm Ar Bl Me Cc Z hsH hnm
  have Y := Z.1
  have hq := hJ.sq
  have inner : ∀ (f : Nat), f < 12 → (∀ H, off nof H0 H → V Pp l Ee (rmO 11 186 18100 104800) Ss Mm Ar Bl Me Cc 4 (AA H0 (nof)) (QC Bl Ar Ss 18100 104800 H0 (nof) (pI fun v9 H => v9 = 1)) H (1500 * f + 1440) (8700 * f + 8400) 73 [(1, .int (nI f)), (0, .ref a)] []) → ∀ (r j : Nat) (H : Heap), j + r = 12 → off nof H0 H → V Pp l Ee (rmO 11 186 18100 104800) Ss Mm Ar Bl Me Cc 4 (AA H0 (nof)) (QC Bl Ar Ss 18100 104800 H0 (nof) (pI fun v9 H => v9 = 1)) H (1500 * f + 120 * j) (8700 * f + 700 * j) 10 [(2, .int (nI j)), (1, .int (nI f)), (0, .ref a)] [] := by
    intro f hf kk r
    induction r with
    | zero =>
      intro j H hr o0
      obtain rfl : j = 12 := by omega
      refine V_iload_n Y.1 0 dL_zoned_10 (rfl : _ = 11) rfl rfl ?_
      refine V_bipush Y.1 (v := 12) dL_zoned_11 (rfl : _ = 13) (by decide) ?_
      refine V_icmp_ge Y.1 (tgt := 73) dL_zoned_13 (by decide) (rfl : _ = 16) (fun _ => ?_) (fun c_n => absurd (by decide) c_n)
      exact V_forget (ls' := [(1, _), (0, _)]) [1, 2] rfl (kk H o0)
    | succ r ih =>
      intro j H hr o0
      have hJ1 := hJ.new o0
      refine V_iload_n Y.1 0 dL_zoned_10 (rfl : _ = 11) rfl rfl ?_
      refine V_bipush Y.1 (v := 12) dL_zoned_11 (rfl : _ = 13) (by decide) ?_
      refine V_icmp_ge Y.1 (tgt := 73) dL_zoned_13 (by decide) (rfl : _ = 16) (fun c_n => absurd c_n (fun q9 => absurd ((nI_leI (a := 12) (b := j) (by omega) (by omega)).mp q9) (by omega))) (fun _ => ?_)
      refine V_aload_n Y.1 2 dL_zoned_16 (rfl : _ = 17) rfl rfl ?_
      refine V_iload_n Y.1 1 dL_zoned_17 (rfl : _ = 18) rfl rfl ?_
      refine V_iload_n Y.1 0 dL_zoned_18 (rfl : _ = 19) rfl rfl ?_
      refine V_cI Y (sS Z (c_L_zonesOf l D kA Hs σ _ hJ1.ag a M s n t q u p no go ns X f j hJ1 hnt hf (by omega)) mi_L_zonesOf si_L_181 rfl rfl (Nat.le_of_ble_eq_true rfl) ⟨Nat.le_of_ble_eq_true rfl, Nat.le_of_ble_eq_true rfl⟩ (by show _ ≤ 18100; omega) (by show _ ≤ 104800; omega) dL_zoned_19) (fun _ z => z.elim) (rfl : _ = 22) (fun v_19 H19_6 hq_19 o_19 => ?_)
      obtain rfl := hq_19
      have o0 := o0.tr (o_19.mono (fun _ _ z => z.elim))
      have hJ1 := hJ.new o0
      refine V_istore_n Y.1 (ls' := [(3, _), (2, _), (1, _), (0, _)]) dL_zoned_22 (rfl : _ = 23) rfl (by decide) rfl ?_
      refine V_aload_n Y.1 3 dL_zoned_23 (rfl : _ = 24) rfl rfl ?_
      refine V_iload_n Y.1 2 dL_zoned_24 (rfl : _ = 25) rfl rfl ?_
      refine V_iload_n Y.1 1 dL_zoned_25 (rfl : _ = 26) rfl rfl ?_
      refine V_cPk Y (sW Z (c_Y_zones l D kA Hs σ _ hJ1.ag a M s n t q u p no go ns X f j hJ1 hnt hf (by omega)) mh_L_zones si_L_205 rfl rfl (Nat.le_of_ble_eq_true rfl) ⟨Nat.le_of_ble_eq_true rfl, Nat.le_of_ble_eq_true rfl⟩ (by show _ ≤ 18100; omega) (by show _ ≤ 104800; omega) dL_zoned_26) (fun _ z => z.elim) (rfl : _ = 29) ?_
      refine V_iload_n Y.1 0 dL_zoned_29 (rfl : _ = 30) rfl rfl ?_
      refine V_icmp_ne Y.1 (tgt := 65) dL_zoned_30 (by decide) (rfl : _ = 33) (fun c_n => absurd (zc hq.1.1.zo hf (by omega)).1 c_n) (fun _ => ?_)
      refine V_aload_n Y.1 3 dL_zoned_33 (rfl : _ = 34) rfl rfl ?_
      refine V_iload_n Y.1 2 dL_zoned_34 (rfl : _ = 35) rfl rfl ?_
      refine V_iload_n Y.1 1 dL_zoned_35 (rfl : _ = 36) rfl rfl ?_
      refine V_cPk Y (sW Z (c_Y_byComparing l D kA Hs σ _ hJ1.ag a M s n t q u p no go ns X f j hJ1 hnt hf (by omega)) mh_L_byComparing si_L_208 rfl rfl (Nat.le_of_ble_eq_true rfl) ⟨Nat.le_of_ble_eq_true rfl, Nat.le_of_ble_eq_true rfl⟩ (by show _ ≤ 18100; omega) (by show _ ≤ 104800; omega) dL_zoned_36) (fun _ z => z.elim) (rfl : _ = 39) ?_
      refine V_iload_n Y.1 0 dL_zoned_39 (rfl : _ = 40) rfl rfl ?_
      refine V_icmp_ne Y.1 (tgt := 65) dL_zoned_40 (by decide) (rfl : _ = 43) (fun c_n => absurd rfl c_n) (fun _ => ?_)
      refine V_aload_n Y.1 3 dL_zoned_43 (rfl : _ = 44) rfl rfl ?_
      refine V_iload_n Y.1 2 dL_zoned_44 (rfl : _ = 45) rfl rfl ?_
      refine V_iload_n Y.1 1 dL_zoned_45 (rfl : _ = 46) rfl rfl ?_
      refine V_cPk Y (sW Z (c_Y_fare l D kA Hs σ _ hJ1.ag a M s n t q u p no go ns X f j hJ1 hnt hf (by omega)) mh_L_fare si_L_211 rfl rfl (Nat.le_of_ble_eq_true rfl) ⟨Nat.le_of_ble_eq_true rfl, Nat.le_of_ble_eq_true rfl⟩ (by show _ ≤ 18100; omega) (by show _ ≤ 104800; omega) dL_zoned_46) (fun _ z => z.elim) (rfl : _ = 49) ?_
      refine V_aload_n Y.1 3 dL_zoned_49 (rfl : _ = 50) rfl rfl ?_
      refine V_cPk Y (sV Z (c_D_baseFare l D kA Hs σ _ hJ1.ag a M s n t q u p no go ns X hJ1 hnt) mi_X5_baseFare vi_L_178 rfl hJ1.rcv.choose_spec rfl rfl (Nat.le_of_ble_eq_true rfl) ⟨Nat.le_of_ble_eq_true rfl, Nat.le_of_ble_eq_true rfl⟩ (by show _ ≤ 18100; omega) (by show _ ≤ 104800; omega) dL_zoned_50) (fun _ z => z.elim) (rfl : _ = 53) ?_
      refine V_iload_n Y.1 0 dL_zoned_53 (rfl : _ = 54) rfl rfl ?_
      refine V_iconst Y.1 (v := 1) dL_zoned_54 (rfl : _ = 55) (by decide) ?_
      refine V_isub Y.1 dL_zoned_55 (rfl : _ = 56) ?_
      refine V_aload_n Y.1 3 dL_zoned_56 (rfl : _ = 57) rfl rfl ?_
      refine V_cPk Y (sV Z (c_D_zoneFare l D kA Hs σ _ hJ1.ag a M s n t q u p no go ns X hJ1 hnt) mi_X5_zoneFare vi_L_184 rfl hJ1.rcv.choose_spec rfl rfl (Nat.le_of_ble_eq_true rfl) ⟨Nat.le_of_ble_eq_true rfl, Nat.le_of_ble_eq_true rfl⟩ (by show _ ≤ 18100; omega) (by show _ ≤ 104800; omega) dL_zoned_57) (fun _ z => z.elim) (rfl : _ = 60) ?_
      refine V_imul Y.1 dL_zoned_60 (rfl : _ = 61) ?_
      refine V_iadd Y.1 dL_zoned_61 (rfl : _ = 62) ?_
      refine V_icmp_eq Y.1 (tgt := 67) dL_zoned_62 (by decide) (rfl : _ = 65) (fun _ => ?_) (fun c_n => absurd (by unfold ln_fare; rw [(zc hq.1.1.zo hf (show j < 12 by omega)).1, Int32.mul_comm]) c_n)
      refine V_iinc Y.1 (v := nI (j + 1)) (ls' := [(2, _), (3, _), (1, _), (0, _)]) 1 dL_zoned_67 (rfl : _ = 70) rfl (nI_add _ 1) (by decide) rfl ?_
      refine V_goto Y.1 (tgt := 10) dL_zoned_70 (by decide) ?_
      exact V_forget (ls' := [(2, _), (1, _), (0, _)]) [0, 2, 3] rfl (V_widen (by omega) (by omega) (ih (j + 1) _ (by omega) o0))
  have outer : ∀ (r f : Nat) (H : Heap), f + r = 12 → off nof H0 H → V Pp l Ee (rmO 11 186 18100 104800) Ss Mm Ar Bl Me Cc 4 (AA H0 (nof)) (QC Bl Ar Ss 18100 104800 H0 (nof) (pI fun v9 H => v9 = 1)) H (1500 * f) (8700 * f) 2 [(1, .int (nI f)), (0, .ref a)] [] := by
    intro r
    induction r with
    | zero =>
      intro f H hr o0
      obtain rfl : f = 12 := by omega
      have hJ1 := hJ.new o0
      refine V_iload_n Y.1 0 dL_zoned_2 (rfl : _ = 3) rfl rfl ?_
      refine V_bipush Y.1 (v := 12) dL_zoned_3 (rfl : _ = 5) (by decide) ?_
      refine V_icmp_ge Y.1 (tgt := 142) dL_zoned_5 (by decide) (rfl : _ = 8) (fun _ => ?_) (fun c_n => absurd (by decide) c_n)
      refine V_aload_n Y.1 1 dL_zoned_142 (rfl : _ = 143) rfl rfl ?_
      refine V_cPk Y (sV Z (c_D_defaultFare l D kA Hs σ _ hJ1.ag a M s n t q u p no go ns X hJ1 hnt) mi_X5_defaultFare vi_L_218 rfl hJ1.rcv.choose_spec rfl rfl (Nat.le_of_ble_eq_true rfl) ⟨Nat.le_of_ble_eq_true rfl, Nat.le_of_ble_eq_true rfl⟩ (by show _ ≤ 18100; omega) (by show _ ≤ 104800; omega) dL_zoned_143) (fun _ z => z.elim) (rfl : _ = 146) ?_
      refine V_aload_n Y.1 1 dL_zoned_146 (rfl : _ = 147) rfl rfl ?_
      refine V_cPk Y (sV Z (c_D_baseFare l D kA Hs σ _ hJ1.ag a M s n t q u p no go ns X hJ1 hnt) mi_X5_baseFare vi_L_178 rfl hJ1.rcv.choose_spec rfl rfl (Nat.le_of_ble_eq_true rfl) ⟨Nat.le_of_ble_eq_true rfl, Nat.le_of_ble_eq_true rfl⟩ (by show _ ≤ 18100; omega) (by show _ ≤ 104800; omega) dL_zoned_147) (fun _ z => z.elim) (rfl : _ = 150) ?_
      refine V_iconst Y.1 (v := 5) dL_zoned_150 (rfl : _ = 151) (by decide) ?_
      refine V_aload_n Y.1 1 dL_zoned_151 (rfl : _ = 152) rfl rfl ?_
      refine V_cPk Y (sV Z (c_D_zoneFare l D kA Hs σ _ hJ1.ag a M s n t q u p no go ns X hJ1 hnt) mi_X5_zoneFare vi_L_184 rfl hJ1.rcv.choose_spec rfl rfl (Nat.le_of_ble_eq_true rfl) ⟨Nat.le_of_ble_eq_true rfl, Nat.le_of_ble_eq_true rfl⟩ (by show _ ≤ 18100; omega) (by show _ ≤ 104800; omega) dL_zoned_152) (fun _ z => z.elim) (rfl : _ = 155) ?_
      refine V_imul Y.1 dL_zoned_155 (rfl : _ = 156) ?_
      refine V_iadd Y.1 dL_zoned_156 (rfl : _ = 157) ?_
      refine V_icmp_ne Y.1 (tgt := 256) dL_zoned_157 (by decide) (rfl : _ = 160) (fun c_n => absurd rfl c_n) (fun _ => ?_)
      refine V_aload_n Y.1 1 dL_zoned_160 (rfl : _ = 161) rfl rfl ?_
      refine V_cPk Y (sV Z (c_D_day l D kA Hs σ _ hJ1.ag a M s n t q u p no go ns X hJ1 hnt) mi_X5_day vi_L_221 rfl hJ1.rcv.choose_spec rfl rfl (Nat.le_of_ble_eq_true rfl) ⟨Nat.le_of_ble_eq_true rfl, Nat.le_of_ble_eq_true rfl⟩ (by show _ ≤ 18100; omega) (by show _ ≤ 104800; omega) dL_zoned_161) (fun _ z => z.elim) (rfl : _ = 164) ?_
      refine V_aload_n Y.1 1 dL_zoned_164 (rfl : _ = 165) rfl rfl ?_
      refine V_cPk Y (sV Z (c_D_time l D kA Hs σ _ hJ1.ag a M s n t q u p no go ns X hJ1 hnt) mi_X5_time vi_L_224 rfl hJ1.rcv.choose_spec rfl rfl (Nat.le_of_ble_eq_true rfl) ⟨Nat.le_of_ble_eq_true rfl, Nat.le_of_ble_eq_true rfl⟩ (by show _ ≤ 18100; omega) (by show _ ≤ 104800; omega) dL_zoned_165) (fun _ z => z.elim) (rfl : _ = 168) ?_
      refine V_sipush Y.1 (v := 1440) dL_zoned_168 (rfl : _ = 171) (by decide) ?_
      refine V_idiv Y.1 dL_zoned_171 (rfl : _ = 172) (by decide) ?_
      refine V_icmp_ne Y.1 (tgt := 256) dL_zoned_172 (by decide) (rfl : _ = 175) (fun c_n => absurd rfl c_n) (fun _ => ?_)
      refine V_aload_n Y.1 1 dL_zoned_175 (rfl : _ = 176) rfl rfl ?_
      refine V_bipush Y.1 (v := 12) dL_zoned_176 (rfl : _ = 178) (by decide) ?_
      refine V_cI Y (sW Z (c_N_byTaps l D kA Hs σ _ hJ1.ag a M s n t q u p no go ns X 12 hJ1 hnt (fun r9 h9 e9 => by rw [show (12 : Int32) = nI 12 from rfl, nI_eq (by omega) (by decide)] at e9; omega)) mh_L_byTaps si_L_213 rfl rfl (Nat.le_of_ble_eq_true rfl) ⟨Nat.le_of_ble_eq_true rfl, Nat.le_of_ble_eq_true rfl⟩ (by show _ ≤ 18100; omega) (by show _ ≤ 104800; omega) dL_zoned_178) (fun _ z => z.elim) (rfl : _ = 181) (fun v_178 H178_22 hq_178 o_178 => ?_)
      obtain rfl := hq_178
      have o0 := o0.tr (o_178.mono (fun _ _ z => z.elim))
      have hJ1 := hJ.new o0
      refine V_bipush Y.1 (v := -13) dL_zoned_181 (rfl : _ = 183) (by decide) ?_
      refine V_icmp_ne Y.1 (tgt := 256) dL_zoned_183 (by decide) (rfl : _ = 186) (fun c_n => absurd rfl c_n) (fun _ => ?_)
      refine V_aload_n Y.1 1 dL_zoned_186 (rfl : _ = 187) rfl rfl ?_
      refine V_iconst Y.1 (v := -1) dL_zoned_187 (rfl : _ = 188) (by decide) ?_
      refine V_cI Y (sW Z (c_N_byTaps l D kA Hs σ _ hJ1.ag a M s n t q u p no go ns X (-1) hJ1 hnt (fun r9 h9 e9 => nI_nm1 (by omega) e9)) mh_L_byTaps si_L_213 rfl rfl (Nat.le_of_ble_eq_true rfl) ⟨Nat.le_of_ble_eq_true rfl, Nat.le_of_ble_eq_true rfl⟩ (by show _ ≤ 18100; omega) (by show _ ≤ 104800; omega) dL_zoned_188) (fun _ z => z.elim) (rfl : _ = 191) (fun v_188 H188_30 hq_188 o_188 => ?_)
      obtain rfl := hq_188
      have o0 := o0.tr (o_188.mono (fun _ _ z => z.elim))
      have hJ1 := hJ.new o0
      refine V_bipush Y.1 (v := -13) dL_zoned_191 (rfl : _ = 193) (by decide) ?_
      refine V_icmp_ne Y.1 (tgt := 256) dL_zoned_193 (by decide) (rfl : _ = 196) (fun c_n => absurd rfl c_n) (fun _ => ?_)
      refine V_aload_n Y.1 1 dL_zoned_196 (rfl : _ = 197) rfl rfl ?_
      refine V_bipush Y.1 (v := 12) dL_zoned_197 (rfl : _ = 199) (by decide) ?_
      refine V_cI Y (sW Z (c_N_zone l D kA Hs σ _ hJ1.ag a M s n t q u p no go ns X 12 hJ1 hnt bs_12) mh_L_zone si_L_227 rfl rfl (Nat.le_of_ble_eq_true rfl) ⟨Nat.le_of_ble_eq_true rfl, Nat.le_of_ble_eq_true rfl⟩ (by show _ ≤ 18100; omega) (by show _ ≤ 104800; omega) dL_zoned_199) (fun _ z => z.elim) (rfl : _ = 202) (fun v_199 H199_38 hq_199 o_199 => ?_)
      obtain rfl := hq_199
      have o0 := o0.tr (o_199.mono (fun _ _ z => z.elim))
      have hJ1 := hJ.new o0
      refine V_bipush Y.1 (v := -11) dL_zoned_202 (rfl : _ = 204) (by decide) ?_
      refine V_icmp_ne Y.1 (tgt := 256) dL_zoned_204 (by decide) (rfl : _ = 207) (fun c_n => absurd rfl c_n) (fun _ => ?_)
      refine V_aload_n Y.1 1 dL_zoned_207 (rfl : _ = 208) rfl rfl ?_
      refine V_iconst Y.1 (v := 0) dL_zoned_208 (rfl : _ = 209) (by decide) ?_
      refine V_bipush Y.1 (v := 12) dL_zoned_209 (rfl : _ = 211) (by decide) ?_
      refine V_cI Y (sW Z (c_N_zones l D kA Hs σ _ hJ1.ag a M s n t q u p no go ns X 0 12 hJ1 hnt (Or.inr bs_12)) mh_L_zones si_L_205 rfl rfl (Nat.le_of_ble_eq_true rfl) ⟨Nat.le_of_ble_eq_true rfl, Nat.le_of_ble_eq_true rfl⟩ (by show _ ≤ 18100; omega) (by show _ ≤ 104800; omega) dL_zoned_211) (fun _ z => z.elim) (rfl : _ = 214) (fun v_211 H211_47 hq_211 o_211 => ?_)
      obtain rfl := hq_211
      have o0 := o0.tr (o_211.mono (fun _ _ z => z.elim))
      have hJ1 := hJ.new o0
      refine V_bipush Y.1 (v := -11) dL_zoned_214 (rfl : _ = 216) (by decide) ?_
      refine V_icmp_ne Y.1 (tgt := 256) dL_zoned_216 (by decide) (rfl : _ = 219) (fun c_n => absurd rfl c_n) (fun _ => ?_)
      refine V_aload_n Y.1 1 dL_zoned_219 (rfl : _ = 220) rfl rfl ?_
      refine V_iconst Y.1 (v := -1) dL_zoned_220 (rfl : _ = 221) (by decide) ?_
      refine V_iconst Y.1 (v := 0) dL_zoned_221 (rfl : _ = 222) (by decide) ?_
      refine V_cI Y (sW Z (c_N_byComparing l D kA Hs σ _ hJ1.ag a M s n t q u p no go ns X (-1) 0 hJ1 hnt (Or.inl bs_m)) mh_L_byComparing si_L_208 rfl rfl (Nat.le_of_ble_eq_true rfl) ⟨Nat.le_of_ble_eq_true rfl, Nat.le_of_ble_eq_true rfl⟩ (by show _ ≤ 18100; omega) (by show _ ≤ 104800; omega) dL_zoned_222) (fun _ z => z.elim) (rfl : _ = 225) (fun v_222 H222_56 hq_222 o_222 => ?_)
      obtain rfl := hq_222
      have o0 := o0.tr (o_222.mono (fun _ _ z => z.elim))
      have hJ1 := hJ.new o0
      refine V_bipush Y.1 (v := -11) dL_zoned_225 (rfl : _ = 227) (by decide) ?_
      refine V_icmp_ne Y.1 (tgt := 256) dL_zoned_227 (by decide) (rfl : _ = 230) (fun c_n => absurd rfl c_n) (fun _ => ?_)
      refine V_aload_n Y.1 1 dL_zoned_230 (rfl : _ = 231) rfl rfl ?_
      refine V_bipush Y.1 (v := 12) dL_zoned_231 (rfl : _ = 233) (by decide) ?_
      refine V_iconst Y.1 (v := 0) dL_zoned_233 (rfl : _ = 234) (by decide) ?_
      refine V_cI Y (sW Z (c_N_fare l D kA Hs σ _ hJ1.ag a M s n t q u p no go ns X 12 0 hJ1 hnt (Or.inl bs_12)) mh_L_fare si_L_211 rfl rfl (Nat.le_of_ble_eq_true rfl) ⟨Nat.le_of_ble_eq_true rfl, Nat.le_of_ble_eq_true rfl⟩ (by show _ ≤ 18100; omega) (by show _ ≤ 104800; omega) dL_zoned_234) (fun _ z => z.elim) (rfl : _ = 237) (fun v_234 H234_65 hq_234 o_234 => ?_)
      obtain rfl := hq_234
      have o0 := o0.tr (o_234.mono (fun _ _ z => z.elim))
      have hJ1 := hJ.new o0
      refine V_bipush Y.1 (v := -11) dL_zoned_237 (rfl : _ = 239) (by decide) ?_
      refine V_icmp_ne Y.1 (tgt := 256) dL_zoned_239 (by decide) (rfl : _ = 242) (fun c_n => absurd rfl c_n) (fun _ => ?_)
      refine V_aload_n Y.1 1 dL_zoned_242 (rfl : _ = 243) rfl rfl ?_
      refine V_iconst Y.1 (v := -1) dL_zoned_243 (rfl : _ = 244) (by decide) ?_
      refine V_cI Y (sW Z (c_N_taps l D kA Hs σ _ hJ1.ag a M s n t q u p no go ns X (-1) hJ1 hnt bs_m) mh_L_taps si_L_216 rfl rfl (Nat.le_of_ble_eq_true rfl) ⟨Nat.le_of_ble_eq_true rfl, Nat.le_of_ble_eq_true rfl⟩ (by show _ ≤ 18100; omega) (by show _ ≤ 104800; omega) dL_zoned_244) (fun _ z => z.elim) (rfl : _ = 247) (fun v_244 H244_73 hq_244 o_244 => ?_)
      obtain rfl := hq_244
      have o0 := o0.tr (o_244.mono (fun _ _ z => z.elim))
      have hJ1 := hJ.new o0
      refine V_bipush Y.1 (v := -11) dL_zoned_247 (rfl : _ = 249) (by decide) ?_
      refine V_icmp_ne Y.1 (tgt := 256) dL_zoned_249 (by decide) (rfl : _ = 252) (fun c_n => absurd rfl c_n) (fun _ => ?_)
      refine V_iconst Y.1 (v := 1) dL_zoned_252 (rfl : _ = 253) (by decide) ?_
      refine V_goto Y.1 (tgt := 257) dL_zoned_253 (by decide) ?_
      exact V_ret Y.1 dL_zoned_257 rfl (by omega) (by omega) rfl
    | succ r ih =>
      intro f H hr o0
      have hf : f < 12 := by omega
      have kk : ∀ H, off nof H0 H → V Pp l Ee (rmO 11 186 18100 104800) Ss Mm Ar Bl Me Cc 4 (AA H0 (nof)) (QC Bl Ar Ss 18100 104800 H0 (nof) (pI fun v9 H => v9 = 1)) H (1500 * f + 1440) (8700 * f + 8400) 73 [(1, .int (nI f)), (0, .ref a)] [] := by
        intro H o0
        have hJ1 := hJ.new o0
        have hs := stB_ok M hf
        refine V_aload_n Y.1 1 dL_zoned_73 (rfl : _ = 74) rfl rfl ?_
        refine V_iload_n Y.1 0 dL_zoned_74 (rfl : _ = 75) rfl rfl ?_
        refine V_cPk Y (sW Z (c_Y_byTaps l D kA Hs σ _ hJ1.ag a M s n t q u p no go ns X f hJ1 hnt hf) mh_L_byTaps si_L_213 rfl rfl (Nat.le_of_ble_eq_true rfl) ⟨Nat.le_of_ble_eq_true rfl, Nat.le_of_ble_eq_true rfl⟩ (by show _ ≤ 18100; omega) (by show _ ≤ 104800; omega) dL_zoned_75) (fun _ z => z.elim) (rfl : _ = 78) ?_
        refine V_istore_n Y.1 (ls' := [(2, _), (1, _), (0, _)]) dL_zoned_78 (rfl : _ = 79) rfl (by decide) rfl ?_
        refine V_iload_n Y.1 1 dL_zoned_79 (rfl : _ = 80) rfl rfl ?_
        refine V_if_ne Y.1 (tgt := 87) dL_zoned_80 (by decide) (rfl : _ = 83) (fun c_80 => ?_) (fun c_80 => ?_)
        · have hf0 : 0 < f := Nat.pos_of_ne_zero (fun e9 => c_80 (by rw [e9]; rfl))
          have hs1 := stB_ok M (show f - 1 < 12 by omega)
          obtain ⟨ah1, ah2⟩ := st_ahead M hf0 hf
          refine V_aload_n Y.1 2 dL_zoned_87 (rfl : _ = 88) rfl rfl ?_
          refine V_iload_n Y.1 1 dL_zoned_88 (rfl : _ = 89) rfl rfl ?_
          refine V_iconst Y.1 (v := 1) dL_zoned_89 (rfl : _ = 90) (by decide) ?_
          refine V_isub Y.1 dL_zoned_90 (rfl : _ = 91) ?_
          refine V_nm (v := nI (f - 1)) (pk_sub (b := 1) (by omega)) ?_
          refine V_cPk Y (sW Z (c_Y_byTaps l D kA Hs σ _ hJ1.ag a M s n t q u p no go ns X (f - 1) hJ1 hnt (by omega)) mh_L_byTaps si_L_213 rfl rfl (Nat.le_of_ble_eq_true rfl) ⟨Nat.le_of_ble_eq_true rfl, Nat.le_of_ble_eq_true rfl⟩ (by show _ ≤ 18100; omega) (by show _ ≤ 104800; omega) dL_zoned_91) (fun _ z => z.elim) (rfl : _ = 94) ?_
          refine V_istore_n Y.1 (ls' := [(3, _), (2, _), (1, _), (0, _)]) dL_zoned_94 (rfl : _ = 95) rfl (by decide) rfl ?_
          refine V_iload_n Y.1 1 dL_zoned_95 (rfl : _ = 96) rfl rfl ?_
          refine V_if_lt Y.1 (tgt := 134) dL_zoned_96 (by decide) (rfl : _ = 99) (fun c_n => absurd c_n (nI_pos (by omega))) (fun _ => ?_)
          refine V_iload_n Y.1 0 dL_zoned_99 (rfl : _ = 100) rfl rfl ?_
          refine V_if_lt Y.1 (tgt := 136) dL_zoned_100 (by decide) (rfl : _ = 103) (fun c_n => absurd c_n (nI_pos (by omega))) (fun _ => ?_)
          refine V_aload_n Y.1 3 dL_zoned_103 (rfl : _ = 104) rfl rfl ?_
          refine V_iload_n Y.1 0 dL_zoned_104 (rfl : _ = 105) rfl rfl ?_
          refine V_cPk Y (sW Z (c_Y_taps l D kA Hs σ _ hJ1.ag a M s n t q u p no go ns X (stB M (f - 1)) hJ1 hnt hs1.1) mh_L_taps si_L_216 rfl rfl (Nat.le_of_ble_eq_true rfl) ⟨Nat.le_of_ble_eq_true rfl, Nat.le_of_ble_eq_true rfl⟩ (by show _ ≤ 18100; omega) (by show _ ≤ 104800; omega) dL_zoned_105) (fun _ z => z.elim) (rfl : _ = 108) ?_
          refine V_aload_n Y.1 3 dL_zoned_108 (rfl : _ = 109) rfl rfl ?_
          refine V_iload_n Y.1 1 dL_zoned_109 (rfl : _ = 110) rfl rfl ?_
          refine V_cPk Y (sW Z (c_Y_taps l D kA Hs σ _ hJ1.ag a M s n t q u p no go ns X (stB M f) hJ1 hnt hs.1) mh_L_taps si_L_216 rfl rfl (Nat.le_of_ble_eq_true rfl) ⟨Nat.le_of_ble_eq_true rfl, Nat.le_of_ble_eq_true rfl⟩ (by show _ ≤ 18100; omega) (by show _ ≤ 104800; omega) dL_zoned_110) (fun _ z => z.elim) (rfl : _ = 113) ?_
          refine V_icmp_lt Y.1 (tgt := 134) dL_zoned_113 (by decide) (rfl : _ = 116) (fun c_n => absurd c_n ah1) (fun _ => ?_)
          refine V_aload_n Y.1 3 dL_zoned_116 (rfl : _ = 117) rfl rfl ?_
          refine V_iload_n Y.1 0 dL_zoned_117 (rfl : _ = 118) rfl rfl ?_
          refine V_cPk Y (sW Z (c_Y_taps l D kA Hs σ _ hJ1.ag a M s n t q u p no go ns X (stB M (f - 1)) hJ1 hnt hs1.1) mh_L_taps si_L_216 rfl rfl (Nat.le_of_ble_eq_true rfl) ⟨Nat.le_of_ble_eq_true rfl, Nat.le_of_ble_eq_true rfl⟩ (by show _ ≤ 18100; omega) (by show _ ≤ 104800; omega) dL_zoned_118) (fun _ z => z.elim) (rfl : _ = 121) ?_
          refine V_aload_n Y.1 3 dL_zoned_121 (rfl : _ = 122) rfl rfl ?_
          refine V_iload_n Y.1 1 dL_zoned_122 (rfl : _ = 123) rfl rfl ?_
          refine V_cPk Y (sW Z (c_Y_taps l D kA Hs σ _ hJ1.ag a M s n t q u p no go ns X (stB M f) hJ1 hnt hs.1) mh_L_taps si_L_216 rfl rfl (Nat.le_of_ble_eq_true rfl) ⟨Nat.le_of_ble_eq_true rfl, Nat.le_of_ble_eq_true rfl⟩ (by show _ ≤ 18100; omega) (by show _ ≤ 104800; omega) dL_zoned_123) (fun _ z => z.elim) (rfl : _ = 126) ?_
          refine V_icmp_ne Y.1 (tgt := 136) dL_zoned_126 (by decide) (rfl : _ = 129) (fun c_126 => ?_) (fun c_126 => ?_)
          · refine V_iinc Y.1 (v := nI (f + 1)) (ls' := [(1, _), (3, _), (2, _), (0, _)]) 2 dL_zoned_136 (rfl : _ = 139) rfl (nI_add _ 1) (by decide) rfl ?_
            refine V_goto Y.1 (tgt := 2) dL_zoned_139 (by decide) ?_
            exact V_forget (ls' := [(1, _), (0, _)]) [0, 3] rfl (V_widen (by omega) (by omega) (ih (f + 1) _ (by omega) o0))
          · refine V_iload_n Y.1 0 dL_zoned_129 (rfl : _ = 130) rfl rfl ?_
            refine V_iload_n Y.1 1 dL_zoned_130 (rfl : _ = 131) rfl rfl ?_
            refine V_icmp_le Y.1 (tgt := 136) dL_zoned_131 (by decide) (rfl : _ = 134) (fun _ => ?_) (fun c_n => absurd (by rw [nI_leI (by omega) (by omega)]; have := ah2 c_126; omega) c_n)
            refine V_iinc Y.1 (v := nI (f + 1)) (ls' := [(1, _), (3, _), (2, _), (0, _)]) 2 dL_zoned_136 (rfl : _ = 139) rfl (nI_add _ 1) (by decide) rfl ?_
            refine V_goto Y.1 (tgt := 2) dL_zoned_139 (by decide) ?_
            exact V_forget (ls' := [(1, _), (0, _)]) [0, 3] rfl (V_widen (by omega) (by omega) (ih (f + 1) _ (by omega) o0))
        · refine V_iconst Y.1 (v := -1) dL_zoned_83 (rfl : _ = 84) (by decide) ?_
          refine V_goto Y.1 (tgt := 94) dL_zoned_84 (by decide) ?_
          refine V_istore_n Y.1 (ls' := [(3, _), (2, _), (1, _), (0, _)]) dL_zoned_94 (rfl : _ = 95) rfl (by decide) rfl ?_
          refine V_iload_n Y.1 1 dL_zoned_95 (rfl : _ = 96) rfl rfl ?_
          refine V_if_lt Y.1 (tgt := 134) dL_zoned_96 (by decide) (rfl : _ = 99) (fun c_n => absurd c_n (nI_pos (by omega))) (fun _ => ?_)
          refine V_iload_n Y.1 0 dL_zoned_99 (rfl : _ = 100) rfl rfl ?_
          refine V_if_lt Y.1 (tgt := 136) dL_zoned_100 (by decide) (rfl : _ = 103) (fun _ => ?_) (fun c_n => absurd (by decide) c_n)
          refine V_iinc Y.1 (v := nI (f + 1)) (ls' := [(1, _), (3, _), (2, _), (0, _)]) 2 dL_zoned_136 (rfl : _ = 139) rfl (nI_add _ 1) (by decide) rfl ?_
          refine V_goto Y.1 (tgt := 2) dL_zoned_139 (by decide) ?_
          exact V_forget (ls' := [(1, _), (0, _)]) [0, 3] rfl (V_widen (by omega) (by omega) (ih (f + 1) _ (by omega) o0))
      refine V_iload_n Y.1 0 dL_zoned_2 (rfl : _ = 3) rfl rfl ?_
      refine V_bipush Y.1 (v := 12) dL_zoned_3 (rfl : _ = 5) (by decide) ?_
      refine V_icmp_ge Y.1 (tgt := 142) dL_zoned_5 (by decide) (rfl : _ = 8) (fun c_n => absurd c_n (fun q9 => absurd ((nI_leI (a := 12) (b := f) (by omega) (by omega)).mp q9) (by omega))) (fun _ => ?_)
      refine V_iconst Y.1 (v := 0) dL_zoned_8 (rfl : _ = 9) (by decide) ?_
      refine V_istore_n Y.1 (ls' := [(2, _), (1, _), (0, _)]) dL_zoned_9 (rfl : _ = 10) rfl (by decide) rfl ?_
      exact inner f hf kk 12 0 H (by omega) o0
  refine V_iconst Y.1 (v := 0) dL_zoned_0 (rfl : _ = 1) (by decide) ?_
  refine V_istore_n Y.1 (ls' := [(1, _), (0, _)]) dL_zoned_1 (rfl : _ = 2) rfl (by decide) rfl ?_
  exact outer 12 0 H0 (by omega) off.rf

