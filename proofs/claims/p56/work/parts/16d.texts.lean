/-! The law's texts and means. -/
theorem TR.to {D : va_G} {kA : Nat → ClassId} {H : Heap} {lo hi r : Nat} {L L1 : List Int32} (h : TR D kA H lo hi r L) (e : L = L1) : TR D kA H lo hi r L1 := e ▸ h
theorem x_r : (("MetroFaresLaw", 292, "r:") : String × Nat × String) ∈ wL := by decide
theorem by_r : byt "r:" = [114, 58] := by decide +kernel
theorem x_f : (("MetroFaresLaw", 294, "f:") : String × Nat × String) ∈ wL := by decide
theorem by_f : byt "f:" = [102, 58] := by decide +kernel
theorem x_a : (("MetroFaresLaw", 299, "@") : String × Nat × String) ∈ wL := by decide
theorem by_a : byt "@" = [64] := by decide +kernel
theorem x_e : (("MetroFaresLaw", 305, "") : String × Nat × String) ∈ wL := by decide
theorem by_e : byt "" = [] := by decide +kernel
theorem rp_at {L : List Int32} (g : Nat → Int32) {j : Nat} (hj : j < L.length) : r_put g 0 L j = L.getD j 0 := by
  have e := put_ge9 L g 0 j hj
  rw [Nat.zero_add] at e
  exact e
theorem c_Y_renderCard (l : Launch) (D : va_G) (kA : Nat → ClassId) (Hs : Heap) (σ : SG) (H0 : Heap) (hg : Ag Hs H0) (a : Nat) (M : MS) (s : Nat → Int32) (n t q u : Nat) (p : Nat → Nat → Int32) (no : Nat) (go : Nat → Int32) (ns : Nat) (X : Nat → Prop) (i : Nat) (hJ : Lw D kA Hs H0 a M s n t q u p no go ns X) (hnt : l.stackTraces = false) (hi : i < n) : CtW l D kA Hs σ yL_renderCard cL_renderCard 3 (some .int) [(0, 5, 6, 20)] 11 184 4 24 H0 [.ref a, .int (nI i)] (fun q => q = a + 321 ∨ q = a + 322) (pI fun k9 H9 => k9 = nI (m_card9 M i).length ∧ Lw D kA Hs H9 a M s n t q u p (m_card9 M i).length (r_put go 0 (m_card9 M i)) ns X) := by
  refine CtW.mono (c_L_renderCard l D kA Hs σ H0 hg a M s n t q u p no go ns X (nI i) hJ hnt) (fun v9 H9 o9 hp9 => ?_)
  have hq := hJ.sq
  have h8 := hq.1.1.1.2.1
  obtain ⟨r9, e9, h1⟩ := hp9
  rw [nI_clamp (show i < 2 ^ 31 by omega)] at h1
  rcases h1 with h1 | h1
  · exact ⟨r9, e9, h1.2⟩
  · exact absurd h1.1 (bc_y hq hi)

theorem c_N_renderCard (l : Launch) (D : va_G) (kA : Nat → ClassId) (Hs : Heap) (σ : SG) (H0 : Heap) (hg : Ag Hs H0) (a : Nat) (M : MS) (s : Nat → Int32) (n t q u : Nat) (p : Nat → Nat → Int32) (no : Nat) (go : Nat → Int32) (ns : Nat) (X : Nat → Prop) (x : Int32) (hJ : Lw D kA Hs H0 a M s n t q u p no go ns X) (hnt : l.stackTraces = false) (hc : b_card M x = 0) : CtW l D kA Hs σ yL_renderCard cL_renderCard 3 (some .int) [(0, 5, 6, 20)] 11 184 4 24 H0 [.ref a, .int x] (fun q => q = a + 321 ∨ q = a + 322) (pI fun k9 H9 => k9 = -11 ∧ Lw D kA Hs H9 a M s n t q u p no go ns X) := by
  refine CtW.mono (c_L_renderCard l D kA Hs σ H0 hg a M s n t q u p no go ns X x hJ hnt) (fun v9 H9 o9 hp9 => ?_)
  obtain ⟨r9, e9, h1⟩ := hp9
  rcases h1 with h1 | h1
  · exact absurd hc h1.1
  · exact ⟨r9, e9, h1.2⟩

set_option maxRecDepth 100000 in
set_option maxHeartbeats 4000000 in
theorem c_L_texts (l : Launch) (D : va_G) (kA : Nat → ClassId) (Hs : Heap) (σ : SG) (H0 : Heap) (hg : Ag Hs H0) (a : Nat) (M : MS) (s : Nat → Int32) (n t q u : Nat) (p : Nat → Nat → Int32) (no : Nat) (go : Nat → Int32) (ns : Nat) (X : Nat → Prop)  (hJ : Lw D kA Hs H0 a M s n t q u p no go ns X) (hnt : l.stackTraces = false) (hq4 : q ≤ 40000) : CtS l D kA Hs σ yL_texts cL_texts 7 (some .boolean) 12 206 1400 11500 H0 [.ref a] (fun q => q = a + 321 ∨ q = a + 322) (pI fun v9 H => v9 = 1 ∧ ∃ no go, Lw D kA Hs H a M s n t q u p no go ns X) := by
  refine CtS.of mi_L_texts (Nat.le_of_ble_eq_true rfl) (ls0 := [(0, _)]) rfl hg (fun q hq => by have := hJ.ha; omega) ?_
  intro Pp Ee Ss Mm Ar Bl Me Cc Z hsH hnm
  have Y := Z.1
  have hq := hJ.sq
  have h8 : n ≤ 8 := hq.1.1.1.2.1
  have l2r : (byt "r:").length = 2 := by decide +kernel
  have l2f : (byt "f:").length = 2 := by decide +kernel
  have l1a : (byt "@").length = 1 := by decide +kernel
  have l0e : (byt "").length = 0 := by decide +kernel
  have fin : ∀ (H : Heap) (no : Nat) (go : Nat → Int32) (lo hi r : Nat), off (fun q => q = a + 321 ∨ q = a + 322) H0 H → Lw D kA Hs H a M s n t q u p no go ns X → TR D kA H lo hi r (z_l M.2.1 12) → a + 329 ≤ lo → V Pp l Ee (rmO 12 206 1400 11500) Ss Mm Ar Bl Me Cc 7 (AA H0 (fun q => q = a + 321 ∨ q = a + 322)) (QC Bl Ar Ss 1400 11500 H0 (fun q => q = a + 321 ∨ q = a + 322) (pI fun v9 H => v9 = 1 ∧ ∃ no go, Lw D kA Hs H a M s n t q u p no go ns X)) H 1000 9350 251 [(3, .int 1), (1, .ref r), (0, .ref a)] [] := by
    intro H no go lo hi r ob hJ hR hlo
    have hJ1 := hJ
    have hb1 := ob.1
    have hb2 := hJ.top
    refine V_iload_n Y.1 0 dL_texts_251 (rfl : _ = 252) rfl rfl ?_
    refine V_if_eq Y.1 (tgt := 284) dL_texts_252 (by decide) (rfl : _ = 255) (fun c_n => absurd c_n (by decide)) (fun _ => ?_)
    refine V_aload_n Y.1 2 dL_texts_255 (rfl : _ = 256) rfl rfl ?_
    refine V_aload_n Y.1 2 dL_texts_256 (rfl : _ = 257) rfl rfl ?_
    refine V_cI Y (sV Z (c_D_renderZones l D kA Hs σ _ hJ.ag a M s n t q u p no go ns X hJ hnt) mi_X5_renderZones vi_L_346 rfl hJ1.rcv.choose_spec rfl rfl (Nat.le_of_ble_eq_true rfl) ⟨Nat.le_of_ble_eq_true rfl, Nat.le_of_ble_eq_true rfl⟩ (by show _ ≤ 1400; omega) (by show _ ≤ 11500; omega) dL_texts_257) (fun _ z => Or.inl z) (rfl : _ = 260) (fun v_257 H257_4 hq_257 o_257 => ?_)
    obtain ⟨rfl, hJ1⟩ := hq_257
    have hR := hR.keep o_257 (fun q h1 h2 z => by omega)
    refine V_aload_n Y.1 1 dL_texts_260 (rfl : _ = 261) rfl rfl ?_
    refine V_cI Y (sS Z (c_L_spells l D kA Hs σ _ hJ1.ag a M s n t q u p 12 (r_put go 0 (z_l M.2.1 12)) ns X lo hi r _ hJ1 hnt hR (z_l_len hq.1.hz9 12 (Nat.le_refl _)).symm (fun j hj => rp_at go (by rw [z_l_len hq.1.hz9 12 (Nat.le_refl _)]; exact hj))) mi_L_spells si_L_309 rfl rfl (Nat.le_of_ble_eq_true rfl) ⟨Nat.le_of_ble_eq_true rfl, Nat.le_of_ble_eq_true rfl⟩ (by show _ ≤ 1400; omega) (by show _ ≤ 11500; omega) dL_texts_261) (fun _ z => z.elim) (rfl : _ = 264) (fun v_261 H261_8 hq_261 o_261 => ?_)
    obtain rfl := hq_261
    have hJ1 := hJ1.new o_261
    refine V_if_eq Y.1 (tgt := 284) dL_texts_264 (by decide) (rfl : _ = 267) (fun c_n => absurd c_n (by decide)) (fun _ => ?_)
    refine V_aload_n Y.1 2 dL_texts_267 (rfl : _ = 268) rfl rfl ?_
    refine V_aload_n Y.1 2 dL_texts_268 (rfl : _ = 269) rfl rfl ?_
    refine V_cPk Y (sV Z (c_D_cardCount l D kA Hs σ _ hJ1.ag a M s n t q u p 12 (r_put go 0 (z_l M.2.1 12)) ns X hJ1 hnt) mi_X5_cardCount vi_L_229 rfl hJ1.rcv.choose_spec rfl rfl (Nat.le_of_ble_eq_true rfl) ⟨Nat.le_of_ble_eq_true rfl, Nat.le_of_ble_eq_true rfl⟩ (by show _ ≤ 1400; omega) (by show _ ≤ 11500; omega) dL_texts_269) (fun _ z => z.elim) (rfl : _ = 272) ?_
    refine V_nm (v := nI n) (hq.1.1.2.1.1.trans hq.1.1.1.1) ?_
    refine V_cI Y (sW Z (c_N_renderCard l D kA Hs σ _ hJ1.ag a M s n t q u p 12 (r_put go 0 (z_l M.2.1 12)) ns X (nI n) hJ1 hnt (bc_n hq)) mh_L_renderCard si_L_307 rfl rfl (Nat.le_of_ble_eq_true rfl) ⟨Nat.le_of_ble_eq_true rfl, Nat.le_of_ble_eq_true rfl⟩ (by show _ ≤ 1400; omega) (by show _ ≤ 11500; omega) dL_texts_272) (fun _ z => Or.inl z) (rfl : _ = 275) (fun v_272 H272_16 hq_272 o_272 => ?_)
    obtain ⟨rfl, hJ1⟩ := hq_272
    refine V_bipush Y.1 (v := -11) dL_texts_275 (rfl : _ = 277) (by decide) ?_
    refine V_icmp_ne Y.1 (tgt := 284) dL_texts_277 (by decide) (rfl : _ = 280) (fun c_n => absurd rfl c_n) (fun _ => ?_)
    refine V_iconst Y.1 (v := 1) dL_texts_280 (rfl : _ = 281) (by decide) ?_
    refine V_goto Y.1 (tgt := 285) dL_texts_281 (by decide) ?_
    exact V_ret Y.1 dL_texts_285 rfl (by omega) (by omega) ⟨rfl, _, _, hJ1⟩
  have mea : ∀ (H : Heap) (no : Nat) (go : Nat → Int32) (lo hi r : Nat), off (fun q => q = a + 321 ∨ q = a + 322) H0 H → Lw D kA Hs H a M s n t q u p no go ns X → TR D kA H lo hi r (z_l M.2.1 12) → a + 329 ≤ lo → V Pp l Ee (rmO 12 206 1400 11500) Ss Mm Ar Bl Me Cc 7 (AA H0 (fun q => q = a + 321 ∨ q = a + 322)) (QC Bl Ar Ss 1400 11500 H0 (fun q => q = a + 321 ∨ q = a + 322) (pI fun v9 H => v9 = 1 ∧ ∃ no go, Lw D kA Hs H a M s n t q u p no go ns X)) H 980 9250 156 [(1, .ref r), (0, .ref a)] [] := by
    intro H no go lo hi r ob hJ hR hlo
    have hJ1 := hJ
    obtain ⟨A, B, C, hA9, hB9, hC9, eA, eB, eC⟩ := hq.tot
    have eN : M.1 5 + M.1 6 = nI (B + C) := by rw [eB, eC, nI_add]
    refine V_aload_n Y.1 1 dL_texts_156 (rfl : _ = 157) rfl rfl ?_
    refine V_cPk Y (sV Z (c_D_completeTrips l D kA Hs σ _ hJ.ag a M s n t q u p no go ns X hJ hnt) mi_X5_completeTrips vi_L_313 rfl hJ.rcv.choose_spec rfl rfl (Nat.le_of_ble_eq_true rfl) ⟨Nat.le_of_ble_eq_true rfl, Nat.le_of_ble_eq_true rfl⟩ (by show _ ≤ 1400; omega) (by show _ ≤ 11500; omega) dL_texts_157) (fun _ z => z.elim) (rfl : _ = 160) ?_
    refine V_aload_n Y.1 1 dL_texts_160 (rfl : _ = 161) rfl rfl ?_
    refine V_cPk Y (sV Z (c_D_incompleteTrips l D kA Hs σ _ hJ.ag a M s n t q u p no go ns X hJ hnt) mi_X5_incompleteTrips vi_L_316 rfl hJ.rcv.choose_spec rfl rfl (Nat.le_of_ble_eq_true rfl) ⟨Nat.le_of_ble_eq_true rfl, Nat.le_of_ble_eq_true rfl⟩ (by show _ ≤ 1400; omega) (by show _ ≤ 11500; omega) dL_texts_161) (fun _ z => z.elim) (rfl : _ = 164) ?_
    refine V_iadd Y.1 dL_texts_164 (rfl : _ = 165) ?_
    refine V_istore_n Y.1 (ls' := [(2, _), (1, _), (0, _)]) dL_texts_165 (rfl : _ = 166) rfl (by decide) rfl ?_
    refine V_iload_n Y.1 0 dL_texts_166 (rfl : _ = 167) rfl rfl ?_
    refine V_if_ne Y.1 (tgt := 174) dL_texts_167 (by decide) (rfl : _ = 170) (fun c_167 => ?_) (fun c_167 => ?_)
    · refine V_iconst Y.1 (v := 0) dL_texts_174 (rfl : _ = 175) (by decide) ?_
      refine V_istore_n Y.1 (ls' := [(3, _), (2, _), (1, _), (0, _)]) dL_texts_175 (rfl : _ = 176) rfl (by decide) rfl ?_
      refine V_iload_n Y.1 1 dL_texts_176 (rfl : _ = 177) rfl rfl ?_
      refine V_if_le Y.1 (tgt := 251) dL_texts_177 (by decide) (rfl : _ = 180) (fun c_n => absurd c_n (by rw [eN] at c_167 ⊢; rw [Int32.le_iff_toInt_le, nI_toInt (by omega), i_zero]; intro z9; exact c_167 (by rw [show B + C = 0 by omega]; rfl))) (fun _ => ?_)
      refine V_aload_n Y.1 3 dL_texts_180 (rfl : _ = 181) rfl rfl ?_
      refine V_cPk Y (sV Z (c_D_chargedTotal l D kA Hs σ _ hJ.ag a M s n t q u p no go ns X hJ hnt) mi_X5_chargedTotal vi_L_269 rfl hJ.rcv.choose_spec rfl rfl (Nat.le_of_ble_eq_true rfl) ⟨Nat.le_of_ble_eq_true rfl, Nat.le_of_ble_eq_true rfl⟩ (by show _ ≤ 1400; omega) (by show _ ≤ 11500; omega) dL_texts_181) (fun _ z => z.elim) (rfl : _ = 184) ?_
      refine V_i2d Y.1 dL_texts_184 (rfl : _ = 185) ?_
      refine V_iload_n Y.1 1 dL_texts_185 (rfl : _ = 186) rfl rfl ?_
      refine V_i2d Y.1 dL_texts_186 (rfl : _ = 187) ?_
      refine V_ddiv Y.1 dL_texts_187 (rfl : _ = 188) (fl_n64 c_167) ?_
      refine V_dstore Y.1 (ls' := [(4, _), (3, _), (2, _), (1, _), (0, _)]) dL_texts_188 (rfl : _ = 190) (by decide) rfl ?_
      refine V_aload_n Y.1 4 dL_texts_190 (rfl : _ = 191) rfl rfl ?_
      refine V_cPk Y (sV Z (c_D_incompleteTrips l D kA Hs σ _ hJ.ag a M s n t q u p no go ns X hJ hnt) mi_X5_incompleteTrips vi_L_316 rfl hJ.rcv.choose_spec rfl rfl (Nat.le_of_ble_eq_true rfl) ⟨Nat.le_of_ble_eq_true rfl, Nat.le_of_ble_eq_true rfl⟩ (by show _ ≤ 1400; omega) (by show _ ≤ 11500; omega) dL_texts_191) (fun _ z => z.elim) (rfl : _ = 194) ?_
      refine V_i2f Y.1 dL_texts_194 (rfl : _ = 195) ?_
      refine V_iload_n Y.1 2 dL_texts_195 (rfl : _ = 196) rfl rfl ?_
      refine V_i2f Y.1 dL_texts_196 (rfl : _ = 197) ?_
      refine V_fdiv Y.1 dL_texts_197 (rfl : _ = 198) (fl_n32 c_167) ?_
      refine V_fstore Y.1 (ls' := [(6, _), (4, _), (3, _), (2, _), (1, _), (0, _)]) dL_texts_198 (rfl : _ = 200) (by decide) rfl ?_
      refine V_aload_n Y.1 5 dL_texts_200 (rfl : _ = 201) rfl rfl ?_
      refine V_cD Y (sV Z (c_D_meanCharge l D kA Hs σ _ hJ.ag a M s n t q u p no go ns X hJ hnt hq4 c_167) mi_X5_meanCharge vi_L_319 rfl hJ.rcv.choose_spec rfl rfl (Nat.le_of_ble_eq_true rfl) ⟨Nat.le_of_ble_eq_true rfl, Nat.le_of_ble_eq_true rfl⟩ (by show _ ≤ 1400; omega) (by show _ ≤ 11500; omega) dL_texts_201) (fun _ z => z.elim) (rfl : _ = 204) (fun v_201 H201_27 hq_201 o_201 => ?_)
      obtain ⟨rfl, rfl⟩ := hq_201
      refine V_dload Y.1 1 dL_texts_204 (rfl : _ = 206) rfl ?_
      refine V_dcmp Y.1 dL_texts_206 (rfl : _ = 207) ?_
      refine V_nm (v := 0) (by rw [fl_d64 c_167]; rfl) ?_
      refine V_if_ne Y.1 (tgt := 249) dL_texts_207 (by decide) (rfl : _ = 210) (fun c_n => absurd rfl c_n) (fun _ => ?_)
      refine V_aload_n Y.1 5 dL_texts_210 (rfl : _ = 211) rfl rfl ?_
      refine V_cL Y (sV Z (c_D_meanChargeBits l D kA Hs σ _ hJ.ag a M s n t q u p no go ns X hJ hnt hq4 c_167) mi_X5_meanChargeBits vi_L_323 rfl hJ.rcv.choose_spec rfl rfl (Nat.le_of_ble_eq_true rfl) ⟨Nat.le_of_ble_eq_true rfl, Nat.le_of_ble_eq_true rfl⟩ (by show _ ≤ 1400; omega) (by show _ ≤ 11500; omega) dL_texts_211) (fun _ z => z.elim) (rfl : _ = 214) (fun v_211 H211_34 hq_211 o_211 => ?_)
      obtain ⟨rfl, rfl⟩ := hq_211
      refine V_dload Y.1 1 dL_texts_214 (rfl : _ = 216) rfl ?_
      refine V_cL Y (rS Y (c_Jxe99ae_doubleToLongBits_ccdee l D kA _ _ (fl_d64 c_167)) mi_Jxe99ae_doubleToLongBits_ccdee si_L_327 rfl rfl (Nat.le_of_ble_eq_true rfl) ⟨Nat.le_of_ble_eq_true rfl, Nat.le_of_ble_eq_true rfl⟩ (by show _ ≤ 1400; omega) (by show _ ≤ 11500; omega) dL_texts_216) (fun _ z => z.elim) (rfl : _ = 219) (fun v_216 H216_37 hq_216 o_216 => ?_)
      obtain ⟨rfl, rfl⟩ := hq_216
      refine V_lcmp Y.1 dL_texts_219 (rfl : _ = 220) ?_
      refine V_if_ne Y.1 (tgt := 249) dL_texts_220 (by decide) (rfl : _ = 223) (fun c_n => absurd (lg_self _) c_n) (fun _ => ?_)
      refine V_aload_n Y.1 5 dL_texts_223 (rfl : _ = 224) rfl rfl ?_
      refine V_cF Y (sV Z (c_D_incompleteShare l D kA Hs σ _ hJ.ag a M s n t q u p no go ns X hJ hnt hq4 c_167) mi_X5_incompleteShare vi_L_333 rfl hJ.rcv.choose_spec rfl rfl (Nat.le_of_ble_eq_true rfl) ⟨Nat.le_of_ble_eq_true rfl, Nat.le_of_ble_eq_true rfl⟩ (by show _ ≤ 1400; omega) (by show _ ≤ 11500; omega) dL_texts_224) (fun _ z => z.elim) (rfl : _ = 227) (fun v_224 H224_42 hq_224 o_224 => ?_)
      obtain ⟨rfl, rfl⟩ := hq_224
      refine V_fload Y.1 0 dL_texts_227 (rfl : _ = 229) rfl ?_
      refine V_fcmp Y.1 dL_texts_229 (rfl : _ = 230) ?_
      refine V_nm (v := 0) (by rw [fl_f32 c_167]; rfl) ?_
      refine V_if_ne Y.1 (tgt := 249) dL_texts_230 (by decide) (rfl : _ = 233) (fun c_n => absurd rfl c_n) (fun _ => ?_)
      refine V_aload_n Y.1 5 dL_texts_233 (rfl : _ = 234) rfl rfl ?_
      refine V_cI Y (sV Z (c_D_incompleteShareBits l D kA Hs σ _ hJ.ag a M s n t q u p no go ns X hJ hnt hq4 c_167) mi_X5_incompleteShareBits vi_L_337 rfl hJ.rcv.choose_spec rfl rfl (Nat.le_of_ble_eq_true rfl) ⟨Nat.le_of_ble_eq_true rfl, Nat.le_of_ble_eq_true rfl⟩ (by show _ ≤ 1400; omega) (by show _ ≤ 11500; omega) dL_texts_234) (fun _ z => z.elim) (rfl : _ = 237) (fun v_234 H234_49 hq_234 o_234 => ?_)
      obtain ⟨rfl, rfl⟩ := hq_234
      refine V_fload Y.1 0 dL_texts_237 (rfl : _ = 239) rfl ?_
      refine V_cI Y (rS Y (c_Jxf58ca_floatToIntBits_5c35a l D kA _ _ (fl_f32 c_167)) mi_Jxf58ca_floatToIntBits_5c35a si_L_340 rfl rfl (Nat.le_of_ble_eq_true rfl) ⟨Nat.le_of_ble_eq_true rfl, Nat.le_of_ble_eq_true rfl⟩ (by show _ ≤ 1400; omega) (by show _ ≤ 11500; omega) dL_texts_239) (fun _ z => z.elim) (rfl : _ = 242) (fun v_239 H239_52 hq_239 o_239 => ?_)
      obtain ⟨rfl, rfl⟩ := hq_239
      refine V_icmp_ne Y.1 (tgt := 249) dL_texts_242 (by decide) (rfl : _ = 245) (fun c_n => absurd rfl c_n) (fun _ => ?_)
      refine V_iconst Y.1 (v := 1) dL_texts_245 (rfl : _ = 246) (by decide) ?_
      refine V_goto Y.1 (tgt := 250) dL_texts_246 (by decide) ?_
      refine V_istore_n Y.1 (ls' := [(3, _), (6, _), (4, _), (2, _), (1, _), (0, _)]) dL_texts_250 (rfl : _ = 251) rfl (by decide) rfl ?_
      exact V_forget (ls' := [(3, _), (1, _), (0, _)]) [0, 4, 5] rfl (V_widen (by omega) (by omega) (fin _ _ _ lo hi r ob hJ hR hlo))
    · refine V_iconst Y.1 (v := 1) dL_texts_170 (rfl : _ = 171) (by decide) ?_
      refine V_goto Y.1 (tgt := 175) dL_texts_171 (by decide) ?_
      refine V_istore_n Y.1 (ls' := [(3, _), (2, _), (1, _), (0, _)]) dL_texts_175 (rfl : _ = 176) rfl (by decide) rfl ?_
      refine V_iload_n Y.1 1 dL_texts_176 (rfl : _ = 177) rfl rfl ?_
      refine V_if_le Y.1 (tgt := 251) dL_texts_177 (by decide) (rfl : _ = 180) (fun _ => ?_) (fun c_n => absurd (by rw [c_167]; exact Int32.le_refl _) c_n)
      exact V_forget (ls' := [(3, _), (1, _), (0, _)]) [0, 2, 3] rfl (V_widen (by omega) (by omega) (fin _ _ _ lo hi r ob hJ hR hlo))
  have zon : ∀ (f k : Nat) (H : Heap) (no : Nat) (go : Nat → Int32) (lo hi r : Nat), k + f = 12 → off (fun q => q = a + 321 ∨ q = a + 322) H0 H → Lw D kA Hs H a M s n t q u p no go ns X → TR D kA H lo hi r (z_l M.2.1 k) → a + 329 ≤ lo → hi ≤ Array.size H → V Pp l Ee (rmO 12 206 1400 11500) Ss Mm Ar Bl Me Cc 7 (AA H0 (fun q => q = a + 321 ∨ q = a + 322)) (QC Bl Ar Ss 1400 11500 H0 (fun q => q = a + 321 ∨ q = a + 322) (pI fun v9 H => v9 = 1 ∧ ∃ no go, Lw D kA Hs H a M s n t q u p no go ns X)) H (880 + 8 * k) (7200 + 170 * k) 121 [(2, .int (nI k)), (1, .ref r), (0, .ref a)] [] := by
    intro f
    induction f with
    | zero =>
      intro k H no go lo hi r hr ob hJ hR hlo hhi
      obtain rfl : k = 12 := by omega
      refine V_iload_n Y.1 0 dL_texts_121 (rfl : _ = 122) rfl rfl ?_
      refine V_bipush Y.1 (v := 12) dL_texts_122 (rfl : _ = 124) (by decide) ?_
      refine V_icmp_ge Y.1 (tgt := 156) dL_texts_124 (by decide) (rfl : _ = 127) (fun _ => ?_) (fun c_n => absurd (by decide) c_n)
      exact V_forget (ls' := [(1, _), (0, _)]) [1, 2] rfl (V_widen (by omega) (by omega) (mea H no go lo hi r ob hJ hR hlo))
    | succ f ih =>
      intro k H no go lo2 hi2 r hr ob hJ hR hlo hhi
      have hk : k < 12 := by omega
      have o0 : off nof H H := off.rf
      have hJ1 := hJ
      have hb1 := ob.1
      have hb2 := hJ.top
      have hb3 := hJ.ag.1
      obtain ⟨z9, hz91, hz96, ez9⟩ := hq.1.1.zo k hk
      have b1 : -100000 < (M.2.1 k).toInt := by rw [ez9, nI_toInt (by omega)]; omega
      have b2 : (M.2.1 k).toInt < 100000 := by rw [ez9, nI_toInt (by omega)]; omega
      have ls : (sg (M.2.1 k)).length = 1 := by rw [ez9]; exact sg_l10 (by omega)
      have lz : (z_l M.2.1 k).length = k := z_l_len hq.1.hz9 k (by omega)
      refine V_iload_n Y.1 0 dL_texts_121 (rfl : _ = 122) rfl rfl ?_
      refine V_bipush Y.1 (v := 12) dL_texts_122 (rfl : _ = 124) (by decide) ?_
      refine V_icmp_ge Y.1 (tgt := 156) dL_texts_124 (by decide) (rfl : _ = 127) (fun c_n => absurd c_n (fun q9 => absurd ((nI_leI (a := 12) (b := k) (by omega) (by omega)).mp q9) (by omega))) (fun _ => ?_)
      refine V_new Y.1 (ci := 1) (fs := [.null, .int 0, .int 0, .int 0]) rfl in_J4 tyJ4_ok cl_L_285 inst_J4 ini_J4 (by decide) (by show _ ≤ 1400; omega) (by show _ ≤ 11500; omega) dL_texts_127 (rfl : _ = 130) (fun H127_3 q_127 eq_127 z_127 h_new o_127 => ?_)
      have hB127 := h_new
      have hl127 : Array.size H ≤ q_127 := by have := o0.1; omega
      have o0 := o0.tr o_127
      have hJ1 := hJ.new o0
      have hR := hR.keep o_127 (fun _ _ _ z => z)
      have hh2 : hi2 ≤ q_127 := by omega
      refine V_dup Y.1 dL_texts_130 (rfl : _ = 131) rfl ?_
      refine V_cV Y (sI Z (c_T_init l D kA Hs σ _ hJ1.ag q_127 q_127 _ hB127 rfl (by omega) (Nat.le_refl _)) mi_J4_init_da8c8 ii_L_287 rfl rfl (Nat.le_of_ble_eq_true rfl) ⟨Nat.le_of_ble_eq_true rfl, Nat.le_of_ble_eq_true rfl⟩ (by show _ ≤ 1400; omega) (by show _ ≤ 11500; omega) dL_texts_131) (fun q hq => Or.inr (by omega)) (rfl : _ = 134) (fun H131_11 hq_131 o_131 => ?_)
      obtain ⟨hi, hT, hz⟩ : ∃ hi, TQ D kA _ q_127 hi q_127 16 [] ∧ hi ≤ Array.size _ := ⟨_, hq_131, Nat.le_refl _⟩
      have o0 := o0.new0 o_131 (fun q hq => by omega)
      have hJ1 := hJ.new o0
      have hR := hR.keep o_131 (fun q h1 h2 z => by omega)
      refine V_aload_n Y.1 1 dL_texts_134 (rfl : _ = 135) rfl rfl ?_
      refine V_cR Y (sV Z (c_T_appM l D kA Hs σ _ hJ1.ag _ _ _ _ _ _ _ _ _ hT (by omega) hR (by simp only [List.length_append, List.length_nil, Nat.zero_add]; omega)) mi_J4_append_15ec4 vi_L_296 rfl hT.rcv.choose_spec rfl rfl (Nat.le_of_ble_eq_true rfl) ⟨Nat.le_of_ble_eq_true rfl, Nat.le_of_ble_eq_true rfl⟩ (by show _ ≤ 1400; omega) (by show _ ≤ 11500; omega) dL_texts_135) (fun q hq => Or.inr (by omega)) (rfl : _ = 138) (fun v_135 H135_17 hq_135 o_135 => ?_)
      obtain ⟨e9, hT⟩ := hq_135
      have e9 := e9.symm
      subst e9
      have o0 := o0.new0 o_135 (fun q hq => by omega)
      have hJ1 := hJ.new o0
      have hz := Nat.le_trans hz o_135.1
      refine V_aload_n Y.1 2 dL_texts_138 (rfl : _ = 139) rfl rfl ?_
      refine V_iload_n Y.1 0 dL_texts_139 (rfl : _ = 140) rfl rfl ?_
      refine V_cPk Y (sV Z (c_D_zone l D kA Hs σ _ hJ1.ag a M s n t q u p no go ns X k hJ1 hnt hk) mi_X5_zone vi_L_48 rfl hJ1.rcv.choose_spec rfl rfl (Nat.le_of_ble_eq_true rfl) ⟨Nat.le_of_ble_eq_true rfl, Nat.le_of_ble_eq_true rfl⟩ (by show _ ≤ 1400; omega) (by show _ ≤ 11500; omega) dL_texts_140) (fun _ z => z.elim) (rfl : _ = 143) ?_
      refine V_cR Y (sV Z (c_T_appI l D kA Hs σ _ hJ1.ag _ _ _ _ _ _ hT (by omega) b1 b2 (by simp only [List.length_append, List.length_nil, Nat.zero_add]; omega)) mi_J4_append_bf812 vi_L_288 rfl hT.rcv.choose_spec rfl rfl (Nat.le_of_ble_eq_true rfl) ⟨Nat.le_of_ble_eq_true rfl, Nat.le_of_ble_eq_true rfl⟩ (by show _ ≤ 1400; omega) (by show _ ≤ 11500; omega) dL_texts_143) (fun q hq => Or.inr (by omega)) (rfl : _ = 146) (fun v_143 H143_27 hq_143 o_143 => ?_)
      obtain ⟨e9, hT⟩ := hq_143
      have e9 := e9.symm
      subst e9
      have o0 := o0.new0 o_143 (fun q hq => by omega)
      have hJ1 := hJ.new o0
      have hz := Nat.le_trans hz o_143.1
      refine V_cR Y (sV Z (c_T_toStr l D kA Hs σ _ hJ1.ag _ _ _ _ _ hT (by simp only [List.length_append, List.length_nil, Nat.zero_add]; omega) (by simp only [List.length_append, List.length_nil, Nat.zero_add]; omega)) mi_J4_toString_0e30d vi_L_301 rfl hT.rcv.choose_spec rfl rfl (Nat.le_of_ble_eq_true rfl) ⟨Nat.le_of_ble_eq_true rfl, Nat.le_of_ble_eq_true rfl⟩ (by show _ ≤ 1400; omega) (by show _ ≤ 11500; omega) dL_texts_146) (fun _ z => z.elim) (rfl : _ = 149) (fun v_146 H146_34 hq_146 o_146 => ?_)
      have hR9 := hq_146
      have z146 := o0.1
      have o0 := o0.tr o_146
      have hJ1 := hJ.new o0
      refine V_astore_n Y.1 (ls' := [(1, _), (2, _), (0, _)]) dL_texts_149 (rfl : _ = 150) rfl (by decide) rfl ?_
      refine V_iinc Y.1 (v := nI (k + 1)) (ls' := [(2, _), (1, _), (0, _)]) 1 dL_texts_150 (rfl : _ = 153) rfl (nI_add _ 1) (by decide) rfl ?_
      refine V_goto Y.1 (tgt := 121) dL_texts_153 (by decide) ?_
      exact V_forget (ls' := [(2, _), (1, _), (0, _)]) [0, 1, 2] rfl (V_widen (by omega) (by omega) (ih (k + 1) _ no go _ _ _ (by omega) (ob.tr (o0.mono (fun _ _ z => z.elim))) hJ1 hR9 (by omega) (Nat.le_refl _)))
  have tail : ∀ (H : Heap) (no : Nat) (go : Nat → Int32), off (fun q => q = a + 321 ∨ q = a + 322) H0 H → Lw D kA Hs H a M s n t q u p no go ns X → V Pp l Ee (rmO 12 206 1400 11500) Ss Mm Ar Bl Me Cc 7 (AA H0 (fun q => q = a + 321 ∨ q = a + 322)) (QC Bl Ar Ss 1400 11500 H0 (fun q => q = a + 321 ∨ q = a + 322) (pI fun v9 H => v9 = 1 ∧ ∃ no go, Lw D kA Hs H a M s n t q u p no go ns X)) H 880 7200 115 [(1, .int (nI n)), (0, .ref a)] [] := by
    intro H no go ob hJ
    have o0 : off nof H H := off.rf
    have hJ1 := hJ
    have hb1 := ob.1
    have hb2 := hJ.top
    have hb3 := hJ.ag.1
    obtain ⟨k, ek⟩ : ∃ k : Nat, k = 0 := ⟨0, rfl⟩
    have hk : k < 12 := by omega
    obtain ⟨z9, hz91, hz96, ez9⟩ := hq.1.1.zo k hk
    have b1 : -100000 < (M.2.1 k).toInt := by rw [ez9, nI_toInt (by omega)]; omega
    have b2 : (M.2.1 k).toInt < 100000 := by rw [ez9, nI_toInt (by omega)]; omega
    have ls : (sg (M.2.1 k)).length = 1 := by rw [ez9]; exact sg_l10 (by omega)
    have lz : (z_l M.2.1 k).length = k := z_l_len hq.1.hz9 k (by omega)
    refine V_ldcwS Y (Z.2.1 _ x_e) dL_texts_115 (rfl : _ = 118) ?_
    refine V_astore_n Y.1 (ls' := [(1, _), (0, _)]) dL_texts_118 (rfl : _ = 119) rfl (by decide) rfl ?_
    refine V_iconst Y.1 (v := nI k) dL_texts_119 rfl (by rw [ek]; decide) ?_
    refine V_istore_n Y.1 (ls' := [(2, _), (1, _), (0, _)]) dL_texts_120 (rfl : _ = 121) rfl (by decide) rfl ?_
    refine V_iload_n Y.1 0 dL_texts_121 (rfl : _ = 122) rfl rfl ?_
    refine V_bipush Y.1 (v := 12) dL_texts_122 (rfl : _ = 124) (by decide) ?_
    refine V_icmp_ge Y.1 (tgt := 156) dL_texts_124 (by decide) (rfl : _ = 127) (fun c_n => absurd c_n (fun q9 => absurd ((nI_leI (a := 12) (b := k) (by omega) (by omega)).mp q9) (by omega))) (fun _ => ?_)
    refine V_new Y.1 (ci := 1) (fs := [.null, .int 0, .int 0, .int 0]) rfl in_J4 tyJ4_ok cl_L_285 inst_J4 ini_J4 (by decide) (by show _ ≤ 1400; omega) (by show _ ≤ 11500; omega) dL_texts_127 (rfl : _ = 130) (fun H127_7 q_127 eq_127 z_127 h_new o_127 => ?_)
    have hB127 := h_new
    have hl127 : Array.size H ≤ q_127 := by have := o0.1; omega
    have o0 := o0.tr o_127
    have hJ1 := hJ.new o0
    refine V_dup Y.1 dL_texts_130 (rfl : _ = 131) rfl ?_
    refine V_cV Y (sI Z (c_T_init l D kA Hs σ _ hJ1.ag q_127 q_127 _ hB127 rfl (by omega) (Nat.le_refl _)) mi_J4_init_da8c8 ii_L_287 rfl rfl (Nat.le_of_ble_eq_true rfl) ⟨Nat.le_of_ble_eq_true rfl, Nat.le_of_ble_eq_true rfl⟩ (by show _ ≤ 1400; omega) (by show _ ≤ 11500; omega) dL_texts_131) (fun q hq => Or.inr (by omega)) (rfl : _ = 134) (fun H131_13 hq_131 o_131 => ?_)
    obtain ⟨hi, hT, hz⟩ : ∃ hi, TQ D kA _ q_127 hi q_127 16 [] ∧ hi ≤ Array.size _ := ⟨_, hq_131, Nat.le_refl _⟩
    have o0 := o0.new0 o_131 (fun q hq => by omega)
    have hJ1 := hJ.new o0
    refine V_aload_n Y.1 1 dL_texts_134 (rfl : _ = 135) rfl rfl ?_
    refine V_cR Y (sV Z (c_T_appS l D kA Hs σ _ hJ1.ag _ _ _ _ _ _ hT (by omega) x_e (by simp only [List.length_append, List.length_nil, Nat.zero_add]; omega)) mi_J4_append_15ec4 vi_L_296 rfl hT.rcv.choose_spec rfl rfl (Nat.le_of_ble_eq_true rfl) ⟨Nat.le_of_ble_eq_true rfl, Nat.le_of_ble_eq_true rfl⟩ (by show _ ≤ 1400; omega) (by show _ ≤ 11500; omega) dL_texts_135) (fun q hq => Or.inr (by omega)) (rfl : _ = 138) (fun v_135 H135_18 hq_135 o_135 => ?_)
    obtain ⟨e9, hT⟩ := hq_135
    have e9 := e9.symm
    subst e9
    have o0 := o0.new0 o_135 (fun q hq => by omega)
    have hJ1 := hJ.new o0
    have hz := Nat.le_trans hz o_135.1
    refine V_aload_n Y.1 2 dL_texts_138 (rfl : _ = 139) rfl rfl ?_
    refine V_iload_n Y.1 0 dL_texts_139 (rfl : _ = 140) rfl rfl ?_
    refine V_cPk Y (sV Z (c_D_zone l D kA Hs σ _ hJ1.ag a M s n t q u p no go ns X k hJ1 hnt hk) mi_X5_zone vi_L_48 rfl hJ1.rcv.choose_spec rfl rfl (Nat.le_of_ble_eq_true rfl) ⟨Nat.le_of_ble_eq_true rfl, Nat.le_of_ble_eq_true rfl⟩ (by show _ ≤ 1400; omega) (by show _ ≤ 11500; omega) dL_texts_140) (fun _ z => z.elim) (rfl : _ = 143) ?_
    refine V_cR Y (sV Z (c_T_appI l D kA Hs σ _ hJ1.ag _ _ _ _ _ _ hT (by omega) b1 b2 (by simp only [List.length_append, List.length_nil, Nat.zero_add]; omega)) mi_J4_append_bf812 vi_L_288 rfl hT.rcv.choose_spec rfl rfl (Nat.le_of_ble_eq_true rfl) ⟨Nat.le_of_ble_eq_true rfl, Nat.le_of_ble_eq_true rfl⟩ (by show _ ≤ 1400; omega) (by show _ ≤ 11500; omega) dL_texts_143) (fun q hq => Or.inr (by omega)) (rfl : _ = 146) (fun v_143 H143_28 hq_143 o_143 => ?_)
    obtain ⟨e9, hT⟩ := hq_143
    have e9 := e9.symm
    subst e9
    have o0 := o0.new0 o_143 (fun q hq => by omega)
    have hJ1 := hJ.new o0
    have hz := Nat.le_trans hz o_143.1
    refine V_cR Y (sV Z (c_T_toStr l D kA Hs σ _ hJ1.ag _ _ _ _ _ hT (by simp only [List.length_append, List.length_nil, Nat.zero_add]; omega) (by simp only [List.length_append, List.length_nil, Nat.zero_add]; omega)) mi_J4_toString_0e30d vi_L_301 rfl hT.rcv.choose_spec rfl rfl (Nat.le_of_ble_eq_true rfl) ⟨Nat.le_of_ble_eq_true rfl, Nat.le_of_ble_eq_true rfl⟩ (by show _ ≤ 1400; omega) (by show _ ≤ 11500; omega) dL_texts_146) (fun _ z => z.elim) (rfl : _ = 149) (fun v_146 H146_35 hq_146 o_146 => ?_)
    have hR9 := hq_146
    have z146 := o0.1
    have o0 := o0.tr o_146
    have hJ1 := hJ.new o0
    have hR9 := hR9.to (L1 := z_l M.2.1 (k + 1)) (by rw [ek]; rfl)
    refine V_astore_n Y.1 (ls' := [(1, _), (2, _), (0, _)]) dL_texts_149 (rfl : _ = 150) rfl (by decide) rfl ?_
    refine V_iinc Y.1 (v := nI (k + 1)) (ls' := [(2, _), (1, _), (0, _)]) 1 dL_texts_150 (rfl : _ = 153) rfl (nI_add _ 1) (by decide) rfl ?_
    refine V_goto Y.1 (tgt := 121) dL_texts_153 (by decide) ?_
    exact V_forget (ls' := [(2, _), (1, _), (0, _)]) [0, 1, 2] rfl (V_widen (by omega) (by omega) (zon 11 (k + 1) _ no go _ _ _ (by omega) (ob.tr (o0.mono (fun _ _ z => z.elim))) hJ1 hR9 (by omega) (Nat.le_refl _)))
  have outer : ∀ (f c : Nat) (H : Heap) (no : Nat) (go : Nat → Int32), c + f = n → off (fun q => q = a + 321 ∨ q = a + 322) H0 H → Lw D kA Hs H a M s n t q u p no go ns X → V Pp l Ee (rmO 12 206 1400 11500) Ss Mm Ar Bl Me Cc 7 (AA H0 (fun q => q = a + 321 ∨ q = a + 322)) (QC Bl Ar Ss 1400 11500 H0 (fun q => q = a + 321 ∨ q = a + 322) (pI fun v9 H => v9 = 1 ∧ ∃ no go, Lw D kA Hs H a M s n t q u p no go ns X)) H (110 * c) (900 * c) 2 [(1, .int (nI c)), (0, .ref a)] [] := by
    intro f
    induction f with
    | zero =>
      intro c H no go hr ob hJ
      obtain rfl : n = c := by omega
      refine V_iload_n Y.1 0 dL_texts_2 (rfl : _ = 3) rfl rfl ?_
      refine V_aload_n Y.1 1 dL_texts_3 (rfl : _ = 4) rfl rfl ?_
      refine V_cPk Y (sV Z (c_D_cardCount l D kA Hs σ _ hJ.ag a M s n t q u p no go ns X hJ hnt) mi_X5_cardCount vi_L_229 rfl hJ.rcv.choose_spec rfl rfl (Nat.le_of_ble_eq_true rfl) ⟨Nat.le_of_ble_eq_true rfl, Nat.le_of_ble_eq_true rfl⟩ (by show _ ≤ 1400; omega) (by show _ ≤ 11500; omega) dL_texts_4) (fun _ z => z.elim) (rfl : _ = 7) ?_
      refine V_nm (v := nI n) (hq.1.1.2.1.1.trans hq.1.1.1.1) ?_
      refine V_icmp_ge Y.1 (tgt := 115) dL_texts_7 (by decide) (rfl : _ = 10) (fun _ => ?_) (fun c_n => absurd (Int32.le_refl _) c_n)
      exact V_forget (ls' := [(1, _), (0, _)]) [0, 1] rfl (V_widen (by omega) (by omega) (tail H no go ob hJ))
    | succ f ih =>
      intro c H no go hr ob hJ
      have hc : c < n := by omega
      have o0 : off nof H H := off.rf
      have hJ1 := hJ
      have hb1 := ob.1
      have hb2 := hJ.top
      have hb3 := hJ.ag.1
      have l1c := sg_l1 (show c < 8 by omega)
      have lbc := sg_len ((M.2.2.2.1 c).1 1)
      have bc : -100000 < (nI c).toInt ∧ (nI c).toInt < 100000 := by rw [nI_toInt (by omega)]; omega
      have bb := hq.1.hcb c (by omega) (by rw [hq.1.1.2.1.1, hq.1.1.1.1]; exact nI_lt hc (by omega))
      have bt : ¬ (M.2.2.2.1 c).1 2 = 0 → (sg ((M.2.2.2.1 c).1 3)).length ≤ 2 ∧ -100000 < ((M.2.2.2.1 c).1 3).toInt ∧ ((M.2.2.2.1 c).1 3).toInt < 100000 := by
        intro z9
        obtain ⟨j, hj, ej⟩ := hq.1.hjt3 c (by omega) (by rw [hq.1.1.2.1.1, hq.1.1.1.1]; exact nI_lt hc (by omega)) z9
        rw [ej, nI_toInt (by omega)]
        exact ⟨sg_l2 hj, by omega, by omega⟩
      refine V_iload_n Y.1 0 dL_texts_2 (rfl : _ = 3) rfl rfl ?_
      refine V_aload_n Y.1 1 dL_texts_3 (rfl : _ = 4) rfl rfl ?_
      refine V_cPk Y (sV Z (c_D_cardCount l D kA Hs σ _ hJ1.ag a M s n t q u p no go ns X hJ1 hnt) mi_X5_cardCount vi_L_229 rfl hJ1.rcv.choose_spec rfl rfl (Nat.le_of_ble_eq_true rfl) ⟨Nat.le_of_ble_eq_true rfl, Nat.le_of_ble_eq_true rfl⟩ (by show _ ≤ 1400; omega) (by show _ ≤ 11500; omega) dL_texts_4) (fun _ z => z.elim) (rfl : _ = 7) ?_
      refine V_nm (v := nI n) (hq.1.1.2.1.1.trans hq.1.1.1.1) ?_
      refine V_icmp_ge Y.1 (tgt := 115) dL_texts_7 (by decide) (rfl : _ = 10) (fun c_n => absurd c_n (fun q9 => absurd ((nI_leI (a := n) (b := c) (by omega) (by omega)).mp q9) (by omega))) (fun _ => ?_)
      refine V_new Y.1 (ci := 1) (fs := [.null, .int 0, .int 0, .int 0]) rfl in_J4 tyJ4_ok cl_L_285 inst_J4 ini_J4 (by decide) (by show _ ≤ 1400; omega) (by show _ ≤ 11500; omega) dL_texts_10 (rfl : _ = 13) (fun H10_5 q_10 eq_10 z_10 h_new o_10 => ?_)
      have hB10 := h_new
      have hl10 : Array.size H ≤ q_10 := by have := o0.1; omega
      have o0 := o0.tr o_10
      have hJ1 := hJ.new o0
      refine V_dup Y.1 dL_texts_13 (rfl : _ = 14) rfl ?_
      refine V_cV Y (sI Z (c_T_init l D kA Hs σ _ hJ1.ag q_10 q_10 _ hB10 rfl (by omega) (Nat.le_refl _)) mi_J4_init_da8c8 ii_L_287 rfl rfl (Nat.le_of_ble_eq_true rfl) ⟨Nat.le_of_ble_eq_true rfl, Nat.le_of_ble_eq_true rfl⟩ (by show _ ≤ 1400; omega) (by show _ ≤ 11500; omega) dL_texts_14) (fun q hq => Or.inr (by omega)) (rfl : _ = 17) (fun H14_11 hq_14 o_14 => ?_)
      obtain ⟨hi, hT, hz⟩ : ∃ hi, TQ D kA _ q_10 hi q_10 16 [] ∧ hi ≤ Array.size _ := ⟨_, hq_14, Nat.le_refl _⟩
      have o0 := o0.new0 o_14 (fun q hq => by omega)
      have hJ1 := hJ.new o0
      refine V_iload_n Y.1 0 dL_texts_17 (rfl : _ = 18) rfl rfl ?_
      refine V_cR Y (sV Z (c_T_appI l D kA Hs σ _ hJ1.ag _ _ _ _ _ _ hT (by omega) bc.1 bc.2 (by simp only [List.length_append, List.length_nil, Nat.zero_add]; omega)) mi_J4_append_bf812 vi_L_288 rfl hT.rcv.choose_spec rfl rfl (Nat.le_of_ble_eq_true rfl) ⟨Nat.le_of_ble_eq_true rfl, Nat.le_of_ble_eq_true rfl⟩ (by show _ ≤ 1400; omega) (by show _ ≤ 11500; omega) dL_texts_18) (fun q hq => Or.inr (by omega)) (rfl : _ = 21) (fun v_18 H18_16 hq_18 o_18 => ?_)
      obtain ⟨e9, hT⟩ := hq_18
      have e9 := e9.symm
      subst e9
      have o0 := o0.new0 o_18 (fun q hq => by omega)
      have hJ1 := hJ.new o0
      have hz := Nat.le_trans hz o_18.1
      refine V_aload_n Y.1 1 dL_texts_21 (rfl : _ = 22) rfl rfl ?_
      refine V_iload_n Y.1 0 dL_texts_22 (rfl : _ = 23) rfl rfl ?_
      refine V_cPk Y (sV Z (c_D_isReduced l D kA Hs σ _ hJ1.ag a M s n t q u p no go ns X c hJ1 hnt hc) mi_X5_isReduced vi_L_66 rfl hJ1.rcv.choose_spec rfl rfl (Nat.le_of_ble_eq_true rfl) ⟨Nat.le_of_ble_eq_true rfl, Nat.le_of_ble_eq_true rfl⟩ (by show _ ≤ 1400; omega) (by show _ ≤ 11500; omega) dL_texts_23) (fun _ z => z.elim) (rfl : _ = 26) ?_
      refine V_if_eq Y.1 (tgt := 35) dL_texts_26 (by decide) (rfl : _ = 29) (fun c_26 => ?_) (fun c_26 => ?_)
      · refine V_ldcwS Y (Z.2.1 _ x_f) dL_texts_35 (rfl : _ = 38) ?_
        refine V_cR Y (sV Z (c_T_appS l D kA Hs σ _ hJ1.ag _ _ _ _ _ _ hT (by omega) x_f (by simp only [List.length_append, List.length_nil, Nat.zero_add]; omega)) mi_J4_append_15ec4 vi_L_296 rfl hT.rcv.choose_spec rfl rfl (Nat.le_of_ble_eq_true rfl) ⟨Nat.le_of_ble_eq_true rfl, Nat.le_of_ble_eq_true rfl⟩ (by show _ ≤ 1400; omega) (by show _ ≤ 11500; omega) dL_texts_38) (fun q hq => Or.inr (by omega)) (rfl : _ = 41) (fun v_38 H38_28 hq_38 o_38 => ?_)
        obtain ⟨e9, hT⟩ := hq_38
        have e9 := e9.symm
        subst e9
        have o0 := o0.new0 o_38 (fun q hq => by omega)
        have hJ1 := hJ.new o0
        have hz := Nat.le_trans hz o_38.1
        refine V_aload_n Y.1 1 dL_texts_41 (rfl : _ = 42) rfl rfl ?_
        refine V_iload_n Y.1 0 dL_texts_42 (rfl : _ = 43) rfl rfl ?_
        refine V_cPk Y (sV Z (c_D_balance l D kA Hs σ _ hJ1.ag a M s n t q u p no go ns X c hJ1 hnt hc) mi_X5_balance vi_L_70 rfl hJ1.rcv.choose_spec rfl rfl (Nat.le_of_ble_eq_true rfl) ⟨Nat.le_of_ble_eq_true rfl, Nat.le_of_ble_eq_true rfl⟩ (by show _ ≤ 1400; omega) (by show _ ≤ 11500; omega) dL_texts_43) (fun _ z => z.elim) (rfl : _ = 46) ?_
        refine V_cR Y (sV Z (c_T_appI l D kA Hs σ _ hJ1.ag _ _ _ _ _ _ hT (by omega) bb.1 bb.2 (by simp only [List.length_append, List.length_nil, Nat.zero_add]; omega)) mi_J4_append_bf812 vi_L_288 rfl hT.rcv.choose_spec rfl rfl (Nat.le_of_ble_eq_true rfl) ⟨Nat.le_of_ble_eq_true rfl, Nat.le_of_ble_eq_true rfl⟩ (by show _ ≤ 1400; omega) (by show _ ≤ 11500; omega) dL_texts_46) (fun q hq => Or.inr (by omega)) (rfl : _ = 49) (fun v_46 H46_38 hq_46 o_46 => ?_)
        obtain ⟨e9, hT⟩ := hq_46
        have e9 := e9.symm
        subst e9
        have o0 := o0.new0 o_46 (fun q hq => by omega)
        have hJ1 := hJ.new o0
        have hz := Nat.le_trans hz o_46.1
        refine V_aload_n Y.1 1 dL_texts_49 (rfl : _ = 50) rfl rfl ?_
        refine V_iload_n Y.1 0 dL_texts_50 (rfl : _ = 51) rfl rfl ?_
        refine V_cPk Y (sV Z (c_D_isOnTrip l D kA Hs σ _ hJ1.ag a M s n t q u p no go ns X c hJ1 hnt hc) mi_X5_isOnTrip vi_L_73 rfl hJ1.rcv.choose_spec rfl rfl (Nat.le_of_ble_eq_true rfl) ⟨Nat.le_of_ble_eq_true rfl, Nat.le_of_ble_eq_true rfl⟩ (by show _ ≤ 1400; omega) (by show _ ≤ 11500; omega) dL_texts_51) (fun _ z => z.elim) (rfl : _ = 54) ?_
        refine V_if_eq Y.1 (tgt := 84) dL_texts_54 (by decide) (rfl : _ = 57) (fun c_54 => ?_) (fun c_54 => ?_)
        · refine V_ldcwS Y (Z.2.1 _ x_e) dL_texts_84 (rfl : _ = 87) ?_
          refine V_cR Y (sV Z (c_T_appS l D kA Hs σ _ hJ1.ag _ _ _ _ _ _ hT (by omega) x_e (by simp only [List.length_append, List.length_nil, Nat.zero_add]; omega)) mi_J4_append_15ec4 vi_L_296 rfl hT.rcv.choose_spec rfl rfl (Nat.le_of_ble_eq_true rfl) ⟨Nat.le_of_ble_eq_true rfl, Nat.le_of_ble_eq_true rfl⟩ (by show _ ≤ 1400; omega) (by show _ ≤ 11500; omega) dL_texts_87) (fun q hq => Or.inr (by omega)) (rfl : _ = 90) (fun v_87 H87_50 hq_87 o_87 => ?_)
          obtain ⟨e9, hT⟩ := hq_87
          have e9 := e9.symm
          subst e9
          have o0 := o0.new0 o_87 (fun q hq => by omega)
          have hJ1 := hJ.new o0
          have hz := Nat.le_trans hz o_87.1
          refine V_cR Y (sV Z (c_T_toStr l D kA Hs σ _ hJ1.ag _ _ _ _ _ hT (by simp only [List.length_append, List.length_nil, Nat.zero_add]; omega) (by simp only [List.length_append, List.length_nil, Nat.zero_add]; omega)) mi_J4_toString_0e30d vi_L_301 rfl hT.rcv.choose_spec rfl rfl (Nat.le_of_ble_eq_true rfl) ⟨Nat.le_of_ble_eq_true rfl, Nat.le_of_ble_eq_true rfl⟩ (by show _ ≤ 1400; omega) (by show _ ≤ 11500; omega) dL_texts_90) (fun _ z => z.elim) (rfl : _ = 93) (fun v_90 H90_57 hq_90 o_90 => ?_)
          have hR := hq_90
          have z90 := o0.1
          have o0 := o0.tr o_90
          have hJ1 := hJ.new o0
          have hR := hR.to (L1 := m_card9 M c) (by show [] ++ sg (nI c) ++ byt "f:" ++ sg ((M.2.2.2.1 c).1 1) ++ byt "" = _; unfold m_card9; rw [if_pos c_26, if_pos c_54, by_f, by_e]; simp only [List.nil_append, List.append_nil, List.append_assoc, List.cons_append])
          refine V_astore_n Y.1 (ls' := [(2, _), (1, _), (0, _)]) dL_texts_93 (rfl : _ = 94) rfl (by decide) rfl ?_
          refine V_aload_n Y.1 2 dL_texts_94 (rfl : _ = 95) rfl rfl ?_
          refine V_aload_n Y.1 2 dL_texts_95 (rfl : _ = 96) rfl rfl ?_
          refine V_iload_n Y.1 1 dL_texts_96 (rfl : _ = 97) rfl rfl ?_
          refine V_cI Y (sW Z (c_Y_renderCard l D kA Hs σ _ hJ1.ag a M s n t q u p no go ns X c hJ1 hnt hc) mh_L_renderCard si_L_307 rfl rfl (Nat.le_of_ble_eq_true rfl) ⟨Nat.le_of_ble_eq_true rfl, Nat.le_of_ble_eq_true rfl⟩ (by show _ ≤ 1400; omega) (by show _ ≤ 11500; omega) dL_texts_97) (fun _ z => Or.inl z) (rfl : _ = 100) (fun v_97 H97_67 hq_97 o_97 => ?_)
          obtain ⟨rfl, hJ2⟩ := hq_97
          have hR := hR.keep o_97 (fun q h1 h2 z => by omega)
          refine V_aload_n Y.1 0 dL_texts_100 (rfl : _ = 101) rfl rfl ?_
          refine V_cI Y (sS Z (c_L_spells l D kA Hs σ _ hJ2.ag a M s n t q u p (m_card9 M c).length (r_put go 0 (m_card9 M c)) ns X _ _ _ _ hJ2 hnt hR (Eq.refl _) (fun j hj => rp_at go hj)) mi_L_spells si_L_309 rfl rfl (Nat.le_of_ble_eq_true rfl) ⟨Nat.le_of_ble_eq_true rfl, Nat.le_of_ble_eq_true rfl⟩ (by show _ ≤ 1400; omega) (by show _ ≤ 11500; omega) dL_texts_101) (fun _ z => z.elim) (rfl : _ = 104) (fun v_101 H101_71 hq_101 o_101 => ?_)
          obtain rfl := hq_101
          refine V_if_ne Y.1 (tgt := 109) dL_texts_104 (by decide) (rfl : _ = 107) (fun _ => ?_) (fun c_n => absurd c_n (by decide))
          refine V_iinc Y.1 (v := nI (c + 1)) (ls' := [(1, _), (2, _), (0, _)]) 1 dL_texts_109 (rfl : _ = 112) rfl (nI_add _ 1) (by decide) rfl ?_
          refine V_goto Y.1 (tgt := 2) dL_texts_112 (by decide) ?_
          exact V_forget (ls' := [(1, _), (0, _)]) [0, 2] rfl (V_widen (by omega) (by omega) (ih (c + 1) _ _ _ (by omega) (((ob.tr (o0.mono (fun _ _ z => z.elim))).tr o_97).tr (o_101.mono (fun _ _ z => z.elim))) (hJ2.new o_101)))
        · refine V_new Y.1 (ci := 1) (fs := [.null, .int 0, .int 0, .int 0]) rfl in_J4 tyJ4_ok cl_L_285 inst_J4 ini_J4 (by decide) (by show _ ≤ 1400; omega) (by show _ ≤ 11500; omega) dL_texts_57 (rfl : _ = 60) (fun H57_77 q_57 eq_57 z_57 h_new o_57 => ?_)
          have hB57 := h_new
          have hl57 : Array.size H ≤ q_57 := by have := o0.1; omega
          have o0 := o0.tr o_57
          have hJ1 := hJ.new o0
          have hT := hT.keep o_57 (fun _ _ _ z => z)
          have hi57 : hi ≤ q_57 := by omega
          have hz := Nat.le_trans hz o_57.1
          refine V_dup Y.1 dL_texts_60 (rfl : _ = 61) rfl ?_
          refine V_cV Y (sI Z (c_T_init l D kA Hs σ _ hJ1.ag q_57 q_57 _ hB57 rfl (by omega) (Nat.le_refl _)) mi_J4_init_da8c8 ii_L_287 rfl rfl (Nat.le_of_ble_eq_true rfl) ⟨Nat.le_of_ble_eq_true rfl, Nat.le_of_ble_eq_true rfl⟩ (by show _ ≤ 1400; omega) (by show _ ≤ 11500; omega) dL_texts_61) (fun q hq => Or.inr (by omega)) (rfl : _ = 64) (fun H61_86 hq_61 o_61 => ?_)
          obtain ⟨hi2, hT2, hz2⟩ : ∃ hi, TQ D kA _ q_57 hi q_57 16 [] ∧ hi ≤ Array.size _ := ⟨_, hq_61, Nat.le_refl _⟩
          have o0 := o0.new0 o_61 (fun q hq => by omega)
          have hJ1 := hJ.new o0
          have hT := hT.keep o_61 (fun q h1 h2 z => by omega)
          have hz := Nat.le_trans hz o_61.1
          refine V_ldcwS Y (Z.2.1 _ x_a) dL_texts_64 (rfl : _ = 67) ?_
          refine V_cR Y (sV Z (c_T_appS l D kA Hs σ _ hJ1.ag _ _ _ _ _ _ hT2 (by omega) x_a (by simp only [List.length_append, List.length_nil, Nat.zero_add]; omega)) mi_J4_append_15ec4 vi_L_296 rfl hT2.rcv.choose_spec rfl rfl (Nat.le_of_ble_eq_true rfl) ⟨Nat.le_of_ble_eq_true rfl, Nat.le_of_ble_eq_true rfl⟩ (by show _ ≤ 1400; omega) (by show _ ≤ 11500; omega) dL_texts_67) (fun q hq => Or.inr (by omega)) (rfl : _ = 70) (fun v_67 H67_93 hq_67 o_67 => ?_)
          obtain ⟨e9, hT2⟩ := hq_67
          have e9 := e9.symm
          subst e9
          have o0 := o0.new0 o_67 (fun q hq => by omega)
          have hJ1 := hJ.new o0
          have hz2 := Nat.le_trans hz2 o_67.1
          have hT := hT.keep o_67 (fun q h1 h2 z => by omega)
          have hz := Nat.le_trans hz o_67.1
          refine V_aload_n Y.1 1 dL_texts_70 (rfl : _ = 71) rfl rfl ?_
          refine V_iload_n Y.1 0 dL_texts_71 (rfl : _ = 72) rfl rfl ?_
          have ltc := (bt c_54).1
          refine V_cPk Y (sV Z (c_D_tripStart l D kA Hs σ _ hJ1.ag a M s n t q u p no go ns X c hJ1 hnt hc c_54) mi_X5_tripStart vi_L_76 rfl hJ1.rcv.choose_spec rfl rfl (Nat.le_of_ble_eq_true rfl) ⟨Nat.le_of_ble_eq_true rfl, Nat.le_of_ble_eq_true rfl⟩ (by show _ ≤ 1400; omega) (by show _ ≤ 11500; omega) dL_texts_72) (fun _ z => z.elim) (rfl : _ = 75) ?_
          refine V_cR Y (sV Z (c_T_appI l D kA Hs σ _ hJ1.ag _ _ _ _ _ _ hT2 (by omega) (bt c_54).2.1 (bt c_54).2.2 (by simp only [List.length_append, List.length_nil, Nat.zero_add]; omega)) mi_J4_append_bf812 vi_L_288 rfl hT2.rcv.choose_spec rfl rfl (Nat.le_of_ble_eq_true rfl) ⟨Nat.le_of_ble_eq_true rfl, Nat.le_of_ble_eq_true rfl⟩ (by show _ ≤ 1400; omega) (by show _ ≤ 11500; omega) dL_texts_75) (fun q hq => Or.inr (by omega)) (rfl : _ = 78) (fun v_75 H75_106 hq_75 o_75 => ?_)
          obtain ⟨e9, hT2⟩ := hq_75
          have e9 := e9.symm
          subst e9
          have o0 := o0.new0 o_75 (fun q hq => by omega)
          have hJ1 := hJ.new o0
          have hz2 := Nat.le_trans hz2 o_75.1
          have hT := hT.keep o_75 (fun q h1 h2 z => by omega)
          have hz := Nat.le_trans hz o_75.1
          refine V_cR Y (sV Z (c_T_toStr l D kA Hs σ _ hJ1.ag _ _ _ _ _ hT2 (by simp only [List.length_append, List.length_nil, Nat.zero_add]; omega) (by simp only [List.length_append, List.length_nil, Nat.zero_add]; omega)) mi_J4_toString_0e30d vi_L_301 rfl hT2.rcv.choose_spec rfl rfl (Nat.le_of_ble_eq_true rfl) ⟨Nat.le_of_ble_eq_true rfl, Nat.le_of_ble_eq_true rfl⟩ (by show _ ≤ 1400; omega) (by show _ ≤ 11500; omega) dL_texts_78) (fun _ z => z.elim) (rfl : _ = 81) (fun v_78 H78_115 hq_78 o_78 => ?_)
          have hR2 := hq_78
          have z78 := o0.1
          have o0 := o0.tr o_78
          have hJ1 := hJ.new o0
          have hT := hT.keep o_78 (fun _ _ _ z => z)
          have hz := Nat.le_trans hz o_78.1
          refine V_goto Y.1 (tgt := 87) dL_texts_81 (by decide) ?_
          refine V_cR Y (sV Z (c_T_appM l D kA Hs σ _ hJ1.ag _ _ _ _ _ _ _ _ _ hT (by omega) hR2 (by simp only [List.length_append, List.length_nil, Nat.zero_add]; omega)) mi_J4_append_15ec4 vi_L_296 rfl hT.rcv.choose_spec rfl rfl (Nat.le_of_ble_eq_true rfl) ⟨Nat.le_of_ble_eq_true rfl, Nat.le_of_ble_eq_true rfl⟩ (by show _ ≤ 1400; omega) (by show _ ≤ 11500; omega) dL_texts_87) (fun q hq => Or.inr (by omega)) (rfl : _ = 90) (fun v_87 H87_123 hq_87 o_87 => ?_)
          obtain ⟨e9, hT⟩ := hq_87
          have e9 := e9.symm
          subst e9
          have o0 := o0.new0 o_87 (fun q hq => by omega)
          have hJ1 := hJ.new o0
          have hz := Nat.le_trans hz o_87.1
          refine V_cR Y (sV Z (c_T_toStr l D kA Hs σ _ hJ1.ag _ _ _ _ _ hT (by simp only [List.length_append, List.length_nil, Nat.zero_add]; omega) (by simp only [List.length_append, List.length_nil, Nat.zero_add]; omega)) mi_J4_toString_0e30d vi_L_301 rfl hT.rcv.choose_spec rfl rfl (Nat.le_of_ble_eq_true rfl) ⟨Nat.le_of_ble_eq_true rfl, Nat.le_of_ble_eq_true rfl⟩ (by show _ ≤ 1400; omega) (by show _ ≤ 11500; omega) dL_texts_90) (fun _ z => z.elim) (rfl : _ = 93) (fun v_90 H90_130 hq_90 o_90 => ?_)
          have hR := hq_90
          have z90 := o0.1
          have o0 := o0.tr o_90
          have hJ1 := hJ.new o0
          have hR := hR.to (L1 := m_card9 M c) (by show [] ++ sg (nI c) ++ byt "f:" ++ sg ((M.2.2.2.1 c).1 1) ++ ([] ++ byt "@" ++ sg ((M.2.2.2.1 c).1 3)) = _; unfold m_card9; rw [if_pos c_26, if_neg c_54, by_f, by_a]; simp only [List.nil_append, List.append_nil, List.append_assoc, List.cons_append])
          refine V_astore_n Y.1 (ls' := [(2, _), (1, _), (0, _)]) dL_texts_93 (rfl : _ = 94) rfl (by decide) rfl ?_
          refine V_aload_n Y.1 2 dL_texts_94 (rfl : _ = 95) rfl rfl ?_
          refine V_aload_n Y.1 2 dL_texts_95 (rfl : _ = 96) rfl rfl ?_
          refine V_iload_n Y.1 1 dL_texts_96 (rfl : _ = 97) rfl rfl ?_
          refine V_cI Y (sW Z (c_Y_renderCard l D kA Hs σ _ hJ1.ag a M s n t q u p no go ns X c hJ1 hnt hc) mh_L_renderCard si_L_307 rfl rfl (Nat.le_of_ble_eq_true rfl) ⟨Nat.le_of_ble_eq_true rfl, Nat.le_of_ble_eq_true rfl⟩ (by show _ ≤ 1400; omega) (by show _ ≤ 11500; omega) dL_texts_97) (fun _ z => Or.inl z) (rfl : _ = 100) (fun v_97 H97_140 hq_97 o_97 => ?_)
          obtain ⟨rfl, hJ2⟩ := hq_97
          have hR := hR.keep o_97 (fun q h1 h2 z => by omega)
          refine V_aload_n Y.1 0 dL_texts_100 (rfl : _ = 101) rfl rfl ?_
          refine V_cI Y (sS Z (c_L_spells l D kA Hs σ _ hJ2.ag a M s n t q u p (m_card9 M c).length (r_put go 0 (m_card9 M c)) ns X _ _ _ _ hJ2 hnt hR (Eq.refl _) (fun j hj => rp_at go hj)) mi_L_spells si_L_309 rfl rfl (Nat.le_of_ble_eq_true rfl) ⟨Nat.le_of_ble_eq_true rfl, Nat.le_of_ble_eq_true rfl⟩ (by show _ ≤ 1400; omega) (by show _ ≤ 11500; omega) dL_texts_101) (fun _ z => z.elim) (rfl : _ = 104) (fun v_101 H101_144 hq_101 o_101 => ?_)
          obtain rfl := hq_101
          refine V_if_ne Y.1 (tgt := 109) dL_texts_104 (by decide) (rfl : _ = 107) (fun _ => ?_) (fun c_n => absurd c_n (by decide))
          refine V_iinc Y.1 (v := nI (c + 1)) (ls' := [(1, _), (2, _), (0, _)]) 1 dL_texts_109 (rfl : _ = 112) rfl (nI_add _ 1) (by decide) rfl ?_
          refine V_goto Y.1 (tgt := 2) dL_texts_112 (by decide) ?_
          exact V_forget (ls' := [(1, _), (0, _)]) [0, 2] rfl (V_widen (by omega) (by omega) (ih (c + 1) _ _ _ (by omega) (((ob.tr (o0.mono (fun _ _ z => z.elim))).tr o_97).tr (o_101.mono (fun _ _ z => z.elim))) (hJ2.new o_101)))
      · refine V_ldcwS Y (Z.2.1 _ x_r) dL_texts_29 (rfl : _ = 32) ?_
        refine V_goto Y.1 (tgt := 38) dL_texts_32 (by decide) ?_
        refine V_cR Y (sV Z (c_T_appS l D kA Hs σ _ hJ1.ag _ _ _ _ _ _ hT (by omega) x_r (by simp only [List.length_append, List.length_nil, Nat.zero_add]; omega)) mi_J4_append_15ec4 vi_L_296 rfl hT.rcv.choose_spec rfl rfl (Nat.le_of_ble_eq_true rfl) ⟨Nat.le_of_ble_eq_true rfl, Nat.le_of_ble_eq_true rfl⟩ (by show _ ≤ 1400; omega) (by show _ ≤ 11500; omega) dL_texts_38) (fun q hq => Or.inr (by omega)) (rfl : _ = 41) (fun v_38 H38_152 hq_38 o_38 => ?_)
        obtain ⟨e9, hT⟩ := hq_38
        have e9 := e9.symm
        subst e9
        have o0 := o0.new0 o_38 (fun q hq => by omega)
        have hJ1 := hJ.new o0
        have hz := Nat.le_trans hz o_38.1
        refine V_aload_n Y.1 1 dL_texts_41 (rfl : _ = 42) rfl rfl ?_
        refine V_iload_n Y.1 0 dL_texts_42 (rfl : _ = 43) rfl rfl ?_
        refine V_cPk Y (sV Z (c_D_balance l D kA Hs σ _ hJ1.ag a M s n t q u p no go ns X c hJ1 hnt hc) mi_X5_balance vi_L_70 rfl hJ1.rcv.choose_spec rfl rfl (Nat.le_of_ble_eq_true rfl) ⟨Nat.le_of_ble_eq_true rfl, Nat.le_of_ble_eq_true rfl⟩ (by show _ ≤ 1400; omega) (by show _ ≤ 11500; omega) dL_texts_43) (fun _ z => z.elim) (rfl : _ = 46) ?_
        refine V_cR Y (sV Z (c_T_appI l D kA Hs σ _ hJ1.ag _ _ _ _ _ _ hT (by omega) bb.1 bb.2 (by simp only [List.length_append, List.length_nil, Nat.zero_add]; omega)) mi_J4_append_bf812 vi_L_288 rfl hT.rcv.choose_spec rfl rfl (Nat.le_of_ble_eq_true rfl) ⟨Nat.le_of_ble_eq_true rfl, Nat.le_of_ble_eq_true rfl⟩ (by show _ ≤ 1400; omega) (by show _ ≤ 11500; omega) dL_texts_46) (fun q hq => Or.inr (by omega)) (rfl : _ = 49) (fun v_46 H46_162 hq_46 o_46 => ?_)
        obtain ⟨e9, hT⟩ := hq_46
        have e9 := e9.symm
        subst e9
        have o0 := o0.new0 o_46 (fun q hq => by omega)
        have hJ1 := hJ.new o0
        have hz := Nat.le_trans hz o_46.1
        refine V_aload_n Y.1 1 dL_texts_49 (rfl : _ = 50) rfl rfl ?_
        refine V_iload_n Y.1 0 dL_texts_50 (rfl : _ = 51) rfl rfl ?_
        refine V_cPk Y (sV Z (c_D_isOnTrip l D kA Hs σ _ hJ1.ag a M s n t q u p no go ns X c hJ1 hnt hc) mi_X5_isOnTrip vi_L_73 rfl hJ1.rcv.choose_spec rfl rfl (Nat.le_of_ble_eq_true rfl) ⟨Nat.le_of_ble_eq_true rfl, Nat.le_of_ble_eq_true rfl⟩ (by show _ ≤ 1400; omega) (by show _ ≤ 11500; omega) dL_texts_51) (fun _ z => z.elim) (rfl : _ = 54) ?_
        refine V_if_eq Y.1 (tgt := 84) dL_texts_54 (by decide) (rfl : _ = 57) (fun c_54 => ?_) (fun c_54 => ?_)
        · refine V_ldcwS Y (Z.2.1 _ x_e) dL_texts_84 (rfl : _ = 87) ?_
          refine V_cR Y (sV Z (c_T_appS l D kA Hs σ _ hJ1.ag _ _ _ _ _ _ hT (by omega) x_e (by simp only [List.length_append, List.length_nil, Nat.zero_add]; omega)) mi_J4_append_15ec4 vi_L_296 rfl hT.rcv.choose_spec rfl rfl (Nat.le_of_ble_eq_true rfl) ⟨Nat.le_of_ble_eq_true rfl, Nat.le_of_ble_eq_true rfl⟩ (by show _ ≤ 1400; omega) (by show _ ≤ 11500; omega) dL_texts_87) (fun q hq => Or.inr (by omega)) (rfl : _ = 90) (fun v_87 H87_174 hq_87 o_87 => ?_)
          obtain ⟨e9, hT⟩ := hq_87
          have e9 := e9.symm
          subst e9
          have o0 := o0.new0 o_87 (fun q hq => by omega)
          have hJ1 := hJ.new o0
          have hz := Nat.le_trans hz o_87.1
          refine V_cR Y (sV Z (c_T_toStr l D kA Hs σ _ hJ1.ag _ _ _ _ _ hT (by simp only [List.length_append, List.length_nil, Nat.zero_add]; omega) (by simp only [List.length_append, List.length_nil, Nat.zero_add]; omega)) mi_J4_toString_0e30d vi_L_301 rfl hT.rcv.choose_spec rfl rfl (Nat.le_of_ble_eq_true rfl) ⟨Nat.le_of_ble_eq_true rfl, Nat.le_of_ble_eq_true rfl⟩ (by show _ ≤ 1400; omega) (by show _ ≤ 11500; omega) dL_texts_90) (fun _ z => z.elim) (rfl : _ = 93) (fun v_90 H90_181 hq_90 o_90 => ?_)
          have hR := hq_90
          have z90 := o0.1
          have o0 := o0.tr o_90
          have hJ1 := hJ.new o0
          have hR := hR.to (L1 := m_card9 M c) (by show [] ++ sg (nI c) ++ byt "r:" ++ sg ((M.2.2.2.1 c).1 1) ++ byt "" = _; unfold m_card9; rw [if_neg c_26, if_pos c_54, by_r, by_e]; simp only [List.nil_append, List.append_nil, List.append_assoc, List.cons_append])
          refine V_astore_n Y.1 (ls' := [(2, _), (1, _), (0, _)]) dL_texts_93 (rfl : _ = 94) rfl (by decide) rfl ?_
          refine V_aload_n Y.1 2 dL_texts_94 (rfl : _ = 95) rfl rfl ?_
          refine V_aload_n Y.1 2 dL_texts_95 (rfl : _ = 96) rfl rfl ?_
          refine V_iload_n Y.1 1 dL_texts_96 (rfl : _ = 97) rfl rfl ?_
          refine V_cI Y (sW Z (c_Y_renderCard l D kA Hs σ _ hJ1.ag a M s n t q u p no go ns X c hJ1 hnt hc) mh_L_renderCard si_L_307 rfl rfl (Nat.le_of_ble_eq_true rfl) ⟨Nat.le_of_ble_eq_true rfl, Nat.le_of_ble_eq_true rfl⟩ (by show _ ≤ 1400; omega) (by show _ ≤ 11500; omega) dL_texts_97) (fun _ z => Or.inl z) (rfl : _ = 100) (fun v_97 H97_191 hq_97 o_97 => ?_)
          obtain ⟨rfl, hJ2⟩ := hq_97
          have hR := hR.keep o_97 (fun q h1 h2 z => by omega)
          refine V_aload_n Y.1 0 dL_texts_100 (rfl : _ = 101) rfl rfl ?_
          refine V_cI Y (sS Z (c_L_spells l D kA Hs σ _ hJ2.ag a M s n t q u p (m_card9 M c).length (r_put go 0 (m_card9 M c)) ns X _ _ _ _ hJ2 hnt hR (Eq.refl _) (fun j hj => rp_at go hj)) mi_L_spells si_L_309 rfl rfl (Nat.le_of_ble_eq_true rfl) ⟨Nat.le_of_ble_eq_true rfl, Nat.le_of_ble_eq_true rfl⟩ (by show _ ≤ 1400; omega) (by show _ ≤ 11500; omega) dL_texts_101) (fun _ z => z.elim) (rfl : _ = 104) (fun v_101 H101_195 hq_101 o_101 => ?_)
          obtain rfl := hq_101
          refine V_if_ne Y.1 (tgt := 109) dL_texts_104 (by decide) (rfl : _ = 107) (fun _ => ?_) (fun c_n => absurd c_n (by decide))
          refine V_iinc Y.1 (v := nI (c + 1)) (ls' := [(1, _), (2, _), (0, _)]) 1 dL_texts_109 (rfl : _ = 112) rfl (nI_add _ 1) (by decide) rfl ?_
          refine V_goto Y.1 (tgt := 2) dL_texts_112 (by decide) ?_
          exact V_forget (ls' := [(1, _), (0, _)]) [0, 2] rfl (V_widen (by omega) (by omega) (ih (c + 1) _ _ _ (by omega) (((ob.tr (o0.mono (fun _ _ z => z.elim))).tr o_97).tr (o_101.mono (fun _ _ z => z.elim))) (hJ2.new o_101)))
        · refine V_new Y.1 (ci := 1) (fs := [.null, .int 0, .int 0, .int 0]) rfl in_J4 tyJ4_ok cl_L_285 inst_J4 ini_J4 (by decide) (by show _ ≤ 1400; omega) (by show _ ≤ 11500; omega) dL_texts_57 (rfl : _ = 60) (fun H57_201 q_57 eq_57 z_57 h_new o_57 => ?_)
          have hB57 := h_new
          have hl57 : Array.size H ≤ q_57 := by have := o0.1; omega
          have o0 := o0.tr o_57
          have hJ1 := hJ.new o0
          have hT := hT.keep o_57 (fun _ _ _ z => z)
          have hi57 : hi ≤ q_57 := by omega
          have hz := Nat.le_trans hz o_57.1
          refine V_dup Y.1 dL_texts_60 (rfl : _ = 61) rfl ?_
          refine V_cV Y (sI Z (c_T_init l D kA Hs σ _ hJ1.ag q_57 q_57 _ hB57 rfl (by omega) (Nat.le_refl _)) mi_J4_init_da8c8 ii_L_287 rfl rfl (Nat.le_of_ble_eq_true rfl) ⟨Nat.le_of_ble_eq_true rfl, Nat.le_of_ble_eq_true rfl⟩ (by show _ ≤ 1400; omega) (by show _ ≤ 11500; omega) dL_texts_61) (fun q hq => Or.inr (by omega)) (rfl : _ = 64) (fun H61_210 hq_61 o_61 => ?_)
          obtain ⟨hi2, hT2, hz2⟩ : ∃ hi, TQ D kA _ q_57 hi q_57 16 [] ∧ hi ≤ Array.size _ := ⟨_, hq_61, Nat.le_refl _⟩
          have o0 := o0.new0 o_61 (fun q hq => by omega)
          have hJ1 := hJ.new o0
          have hT := hT.keep o_61 (fun q h1 h2 z => by omega)
          have hz := Nat.le_trans hz o_61.1
          refine V_ldcwS Y (Z.2.1 _ x_a) dL_texts_64 (rfl : _ = 67) ?_
          refine V_cR Y (sV Z (c_T_appS l D kA Hs σ _ hJ1.ag _ _ _ _ _ _ hT2 (by omega) x_a (by simp only [List.length_append, List.length_nil, Nat.zero_add]; omega)) mi_J4_append_15ec4 vi_L_296 rfl hT2.rcv.choose_spec rfl rfl (Nat.le_of_ble_eq_true rfl) ⟨Nat.le_of_ble_eq_true rfl, Nat.le_of_ble_eq_true rfl⟩ (by show _ ≤ 1400; omega) (by show _ ≤ 11500; omega) dL_texts_67) (fun q hq => Or.inr (by omega)) (rfl : _ = 70) (fun v_67 H67_217 hq_67 o_67 => ?_)
          obtain ⟨e9, hT2⟩ := hq_67
          have e9 := e9.symm
          subst e9
          have o0 := o0.new0 o_67 (fun q hq => by omega)
          have hJ1 := hJ.new o0
          have hz2 := Nat.le_trans hz2 o_67.1
          have hT := hT.keep o_67 (fun q h1 h2 z => by omega)
          have hz := Nat.le_trans hz o_67.1
          refine V_aload_n Y.1 1 dL_texts_70 (rfl : _ = 71) rfl rfl ?_
          refine V_iload_n Y.1 0 dL_texts_71 (rfl : _ = 72) rfl rfl ?_
          have ltc := (bt c_54).1
          refine V_cPk Y (sV Z (c_D_tripStart l D kA Hs σ _ hJ1.ag a M s n t q u p no go ns X c hJ1 hnt hc c_54) mi_X5_tripStart vi_L_76 rfl hJ1.rcv.choose_spec rfl rfl (Nat.le_of_ble_eq_true rfl) ⟨Nat.le_of_ble_eq_true rfl, Nat.le_of_ble_eq_true rfl⟩ (by show _ ≤ 1400; omega) (by show _ ≤ 11500; omega) dL_texts_72) (fun _ z => z.elim) (rfl : _ = 75) ?_
          refine V_cR Y (sV Z (c_T_appI l D kA Hs σ _ hJ1.ag _ _ _ _ _ _ hT2 (by omega) (bt c_54).2.1 (bt c_54).2.2 (by simp only [List.length_append, List.length_nil, Nat.zero_add]; omega)) mi_J4_append_bf812 vi_L_288 rfl hT2.rcv.choose_spec rfl rfl (Nat.le_of_ble_eq_true rfl) ⟨Nat.le_of_ble_eq_true rfl, Nat.le_of_ble_eq_true rfl⟩ (by show _ ≤ 1400; omega) (by show _ ≤ 11500; omega) dL_texts_75) (fun q hq => Or.inr (by omega)) (rfl : _ = 78) (fun v_75 H75_230 hq_75 o_75 => ?_)
          obtain ⟨e9, hT2⟩ := hq_75
          have e9 := e9.symm
          subst e9
          have o0 := o0.new0 o_75 (fun q hq => by omega)
          have hJ1 := hJ.new o0
          have hz2 := Nat.le_trans hz2 o_75.1
          have hT := hT.keep o_75 (fun q h1 h2 z => by omega)
          have hz := Nat.le_trans hz o_75.1
          refine V_cR Y (sV Z (c_T_toStr l D kA Hs σ _ hJ1.ag _ _ _ _ _ hT2 (by simp only [List.length_append, List.length_nil, Nat.zero_add]; omega) (by simp only [List.length_append, List.length_nil, Nat.zero_add]; omega)) mi_J4_toString_0e30d vi_L_301 rfl hT2.rcv.choose_spec rfl rfl (Nat.le_of_ble_eq_true rfl) ⟨Nat.le_of_ble_eq_true rfl, Nat.le_of_ble_eq_true rfl⟩ (by show _ ≤ 1400; omega) (by show _ ≤ 11500; omega) dL_texts_78) (fun _ z => z.elim) (rfl : _ = 81) (fun v_78 H78_239 hq_78 o_78 => ?_)
          have hR2 := hq_78
          have z78 := o0.1
          have o0 := o0.tr o_78
          have hJ1 := hJ.new o0
          have hT := hT.keep o_78 (fun _ _ _ z => z)
          have hz := Nat.le_trans hz o_78.1
          refine V_goto Y.1 (tgt := 87) dL_texts_81 (by decide) ?_
          refine V_cR Y (sV Z (c_T_appM l D kA Hs σ _ hJ1.ag _ _ _ _ _ _ _ _ _ hT (by omega) hR2 (by simp only [List.length_append, List.length_nil, Nat.zero_add]; omega)) mi_J4_append_15ec4 vi_L_296 rfl hT.rcv.choose_spec rfl rfl (Nat.le_of_ble_eq_true rfl) ⟨Nat.le_of_ble_eq_true rfl, Nat.le_of_ble_eq_true rfl⟩ (by show _ ≤ 1400; omega) (by show _ ≤ 11500; omega) dL_texts_87) (fun q hq => Or.inr (by omega)) (rfl : _ = 90) (fun v_87 H87_247 hq_87 o_87 => ?_)
          obtain ⟨e9, hT⟩ := hq_87
          have e9 := e9.symm
          subst e9
          have o0 := o0.new0 o_87 (fun q hq => by omega)
          have hJ1 := hJ.new o0
          have hz := Nat.le_trans hz o_87.1
          refine V_cR Y (sV Z (c_T_toStr l D kA Hs σ _ hJ1.ag _ _ _ _ _ hT (by simp only [List.length_append, List.length_nil, Nat.zero_add]; omega) (by simp only [List.length_append, List.length_nil, Nat.zero_add]; omega)) mi_J4_toString_0e30d vi_L_301 rfl hT.rcv.choose_spec rfl rfl (Nat.le_of_ble_eq_true rfl) ⟨Nat.le_of_ble_eq_true rfl, Nat.le_of_ble_eq_true rfl⟩ (by show _ ≤ 1400; omega) (by show _ ≤ 11500; omega) dL_texts_90) (fun _ z => z.elim) (rfl : _ = 93) (fun v_90 H90_254 hq_90 o_90 => ?_)
          have hR := hq_90
          have z90 := o0.1
          have o0 := o0.tr o_90
          have hJ1 := hJ.new o0
          have hR := hR.to (L1 := m_card9 M c) (by show [] ++ sg (nI c) ++ byt "r:" ++ sg ((M.2.2.2.1 c).1 1) ++ ([] ++ byt "@" ++ sg ((M.2.2.2.1 c).1 3)) = _; unfold m_card9; rw [if_neg c_26, if_neg c_54, by_r, by_a]; simp only [List.nil_append, List.append_nil, List.append_assoc, List.cons_append])
          refine V_astore_n Y.1 (ls' := [(2, _), (1, _), (0, _)]) dL_texts_93 (rfl : _ = 94) rfl (by decide) rfl ?_
          refine V_aload_n Y.1 2 dL_texts_94 (rfl : _ = 95) rfl rfl ?_
          refine V_aload_n Y.1 2 dL_texts_95 (rfl : _ = 96) rfl rfl ?_
          refine V_iload_n Y.1 1 dL_texts_96 (rfl : _ = 97) rfl rfl ?_
          refine V_cI Y (sW Z (c_Y_renderCard l D kA Hs σ _ hJ1.ag a M s n t q u p no go ns X c hJ1 hnt hc) mh_L_renderCard si_L_307 rfl rfl (Nat.le_of_ble_eq_true rfl) ⟨Nat.le_of_ble_eq_true rfl, Nat.le_of_ble_eq_true rfl⟩ (by show _ ≤ 1400; omega) (by show _ ≤ 11500; omega) dL_texts_97) (fun _ z => Or.inl z) (rfl : _ = 100) (fun v_97 H97_264 hq_97 o_97 => ?_)
          obtain ⟨rfl, hJ2⟩ := hq_97
          have hR := hR.keep o_97 (fun q h1 h2 z => by omega)
          refine V_aload_n Y.1 0 dL_texts_100 (rfl : _ = 101) rfl rfl ?_
          refine V_cI Y (sS Z (c_L_spells l D kA Hs σ _ hJ2.ag a M s n t q u p (m_card9 M c).length (r_put go 0 (m_card9 M c)) ns X _ _ _ _ hJ2 hnt hR (Eq.refl _) (fun j hj => rp_at go hj)) mi_L_spells si_L_309 rfl rfl (Nat.le_of_ble_eq_true rfl) ⟨Nat.le_of_ble_eq_true rfl, Nat.le_of_ble_eq_true rfl⟩ (by show _ ≤ 1400; omega) (by show _ ≤ 11500; omega) dL_texts_101) (fun _ z => z.elim) (rfl : _ = 104) (fun v_101 H101_268 hq_101 o_101 => ?_)
          obtain rfl := hq_101
          refine V_if_ne Y.1 (tgt := 109) dL_texts_104 (by decide) (rfl : _ = 107) (fun _ => ?_) (fun c_n => absurd c_n (by decide))
          refine V_iinc Y.1 (v := nI (c + 1)) (ls' := [(1, _), (2, _), (0, _)]) 1 dL_texts_109 (rfl : _ = 112) rfl (nI_add _ 1) (by decide) rfl ?_
          refine V_goto Y.1 (tgt := 2) dL_texts_112 (by decide) ?_
          exact V_forget (ls' := [(1, _), (0, _)]) [0, 2] rfl (V_widen (by omega) (by omega) (ih (c + 1) _ _ _ (by omega) (((ob.tr (o0.mono (fun _ _ z => z.elim))).tr o_97).tr (o_101.mono (fun _ _ z => z.elim))) (hJ2.new o_101)))
  refine V_iconst Y.1 (v := 0) dL_texts_0 (rfl : _ = 1) (by decide) ?_
  refine V_istore_n Y.1 (ls' := [(1, _), (0, _)]) dL_texts_1 (rfl : _ = 2) rfl (by decide) rfl ?_
  exact V_forget (ls' := [(1, _), (0, _)]) [0, 1] rfl (V_widen (by omega) (by omega) (outer n 0 H0 no go (by omega) off.rf hJ))

