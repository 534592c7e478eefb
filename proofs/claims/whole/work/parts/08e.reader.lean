set_option maxRecDepth 100000 in
set_option maxHeartbeats 4000000 in
theorem c_X6_readCommand (l : Launch) (D : va_G) (kA : Nat → ClassId) (Hs : Heap) (σ : SG) (H0 : Heap) (hg : Ag Hs H0) (o : Nat) (F s b v p u t c : Nat → Int32) (w a n len : Nat)  (hM : Rs D kA H0 o (r_rd F w a n) s b v p u t c) (hl : F 10 = nI len) (hlen : len ≤ 60) (ha : a ≤ len) (hw : w < 2) (hb0 : Hs.size ≤ o) (hn : n < 60) : CtS l D kA Hs σ yX6_readCommand cX6_readCommand 3 none 5 107 0 0 H0 [.ref o] (blk o 8) (pV fun H => Rs D kA H o (r_rd F (q_cmd t len (w, a, n, c)).1 (q_cmd t len (w, a, n, c)).2.1 (q_cmd t len (w, a, n, c)).2.2.1) s b v p u t (q_cmd t len (w, a, n, c)).2.2.2) := by
  refine CtS.of mi_X6_readCommand (Nat.le_of_ble_eq_true rfl) (ls0 := [(0, _)]) rfl hg (fun q z => Nat.le_trans hb0 z.1) ?_
  intro Pp Ee Ss Mm Ar Bl Me Cc Z hs hnm
  have Y := Z.1
  refine V_aload_n Y.1 0 dX6_readCommand_0 (rfl : _ = 1) rfl rfl ?_
  refine V_get Y.1 fi_X6_205 hM.1 rfl dX6_readCommand_1 (rfl : _ = 4) ?_
  refine V_nm (v := nI w) rfl ?_
  refine V_if_eq Y.1 (tgt := 8) dX6_readCommand_4 (by decide) (rfl : _ = 7) (fun c_4 => ?_) (fun c_4 => ?_)
  · have c0 : w = 0 := Decidable.byContradiction fun q => absurd c_4 (nI_ne0 (by omega) (by omega))
    subst c0
    obtain ⟨kd, hkd⟩ : ∃ z, r_beh t len a = z := ⟨_, rfl⟩
    refine V_aload_n Y.1 0 dX6_readCommand_8 (rfl : _ = 9) rfl rfl ?_
    refine V_cP Y (rV Y (c_X6_behind l D kA _ o F _ _ _ _ _ _ _ 0 a (n) len hM hl hlen ha hw) mi_X6_behind vi_X6_209 rfl hM.1 rfl rfl (Nat.le_of_ble_eq_true rfl) ⟨Nat.le_of_ble_eq_true rfl, Nat.le_of_ble_eq_true rfl⟩ (Nat.le_of_ble_eq_true rfl) (Nat.le_of_ble_eq_true rfl) dX6_readCommand_9) (rfl : _ = 12) ?_
    refine V_nm (v := kd) hkd ?_
    refine V_istore_n Y.1 (ls' := [(1, _), (0, _)]) dX6_readCommand_12 (rfl : _ = 13) rfl (by decide) rfl ?_
    refine V_iconst Y.1 (v := 3) dX6_readCommand_13 (rfl : _ = 14) (by decide) ?_
    refine V_aload_n Y.1 1 dX6_readCommand_14 (rfl : _ = 15) rfl rfl ?_
    refine V_get Y.1 fi_X6_220 hM.1 rfl dX6_readCommand_15 (rfl : _ = 18) ?_
    refine V_nm (v := nI n) rfl ?_
    refine V_imul Y.1 dX6_readCommand_18 (rfl : _ = 19) ?_
    refine V_nm (v := nI (3 * n)) (pk_mul 3 n) ?_
    refine V_istore_n Y.1 (ls' := [(2, _), (1, _), (0, _)]) dX6_readCommand_19 (rfl : _ = 20) rfl (by decide) rfl ?_
    refine V_aload_n Y.1 2 dX6_readCommand_20 (rfl : _ = 21) rfl rfl ?_
    refine V_dup Y.1 dX6_readCommand_21 (rfl : _ = 22) rfl ?_
    refine V_get Y.1 fi_X6_220 hM.1 rfl dX6_readCommand_22 (rfl : _ = 25) ?_
    refine V_nm (v := nI n) rfl ?_
    refine V_iconst Y.1 (v := 1) dX6_readCommand_25 (rfl : _ = 26) (by decide) ?_
    refine V_iadd Y.1 dX6_readCommand_26 (rfl : _ = 27) ?_
    refine V_nm (v := nI (n + 1)) (nI_1 _) ?_
    refine V_put Y.1 fi_X6_220 fw_X6 rfl rfl hM.1 (Or.inl ⟨by omega, by omega⟩) rfl rfl (Nat.le_of_ble_eq_true rfl) dX6_readCommand_27 (rfl : _ = 30) (fun H27_25 h_new o_27 => ?_)
    have hM := hM.f16 o_27 h_new
    have hg := hg.put o_27 (by omega)
    clear h_new
    have hM := Rs.d16 (n1 := n + 1) hM
    refine V_aload_n Y.1 2 dX6_readCommand_30 (rfl : _ = 31) rfl rfl ?_
    refine V_get Y.1 fi_X6_36 hM.1 rfl dX6_readCommand_31 (rfl : _ = 34) ?_
    refine V_iload_n Y.1 0 dX6_readCommand_34 (rfl : _ = 35) rfl rfl ?_
    refine V_iload_n Y.1 1 dX6_readCommand_35 (rfl : _ = 36) rfl rfl ?_
    refine V_iast Y.1 hM.2.2.2.2.2.2.2 (Or.inl ⟨by omega, by omega⟩) (vp_in_nI (by omega) (by omega)) dX6_readCommand_36 (rfl : _ = 37) (fun H36_34 h_new o_36 => ?_)
    rw [nI_clamp (by omega)] at h_new
    have hM := hM.a7 o_36 h_new
    have hg := hg.put o_36 (by omega)
    clear h_new
    refine V_iload_n Y.1 1 dX6_readCommand_37 (rfl : _ = 38) rfl rfl ?_
    refine V_bipush Y.1 (v := 99) dX6_readCommand_38 (rfl : _ = 40) (by decide) ?_
    refine V_icmp_ne Y.1 (tgt := 129) dX6_readCommand_40 (by decide) (rfl : _ = 43) (fun c_40 => ?_) (fun c_40 => ?_)
    · refine V_iload_n Y.1 1 dX6_readCommand_129 (rfl : _ = 130) rfl rfl ?_
      refine V_bipush Y.1 (v := 119) dX6_readCommand_130 (rfl : _ = 132) (by decide) ?_
      refine V_icmp_ne Y.1 (tgt := 157) dX6_readCommand_132 (by decide) (rfl : _ = 135) (fun c_132 => ?_) (fun c_132 => ?_)
      · refine V_aload_n Y.1 2 dX6_readCommand_157 (rfl : _ = 158) rfl rfl ?_
        refine V_iload_n Y.1 1 dX6_readCommand_158 (rfl : _ = 159) rfl rfl ?_
        refine V_bipush Y.1 (v := 108) dX6_readCommand_159 (rfl : _ = 161) (by decide) ?_
        refine V_icmp_ne Y.1 (tgt := 169) dX6_readCommand_161 (by decide) (rfl : _ = 164) (fun c_161 => ?_) (fun c_161 => ?_)
        · refine V_iload_n Y.1 1 dX6_readCommand_169 (rfl : _ = 170) rfl rfl ?_
          refine V_bipush Y.1 (v := 105) dX6_readCommand_170 (rfl : _ = 172) (by decide) ?_
          refine V_icmp_ne Y.1 (tgt := 180) dX6_readCommand_172 (by decide) (rfl : _ = 175) (fun c_172 => ?_) (fun c_172 => ?_)
          · refine V_iload_n Y.1 1 dX6_readCommand_180 (rfl : _ = 181) rfl rfl ?_
            refine V_bipush Y.1 (v := 111) dX6_readCommand_181 (rfl : _ = 183) (by decide) ?_
            refine V_icmp_ne Y.1 (tgt := 191) dX6_readCommand_183 (by decide) (rfl : _ = 186) (fun c_183 => ?_) (fun c_183 => ?_)
            · refine V_iload_n Y.1 1 dX6_readCommand_191 (rfl : _ = 192) rfl rfl ?_
              refine V_bipush Y.1 (v := 102) dX6_readCommand_192 (rfl : _ = 194) (by decide) ?_
              refine V_icmp_ne Y.1 (tgt := 202) dX6_readCommand_194 (by decide) (rfl : _ = 197) (fun c_194 => ?_) (fun c_194 => ?_)
              · refine V_ldcS Y (Z.2.1 ("MetroFaresModel", 242, "zone ") (show ("MetroFaresModel", 242, "zone ") ∈ wL by decide +kernel)) dX6_readCommand_202 (rfl : _ = 204) ?_
                have hwd : r_word kd = "zone " := by unfold r_word; rw [if_neg c_40, if_neg c_132, if_neg c_161, if_neg c_172, if_neg c_183, if_neg c_194]
                refine V_cV Y (sV Z (c_X6_skip l D kA Hs σ _ hg o F _ _ _ _ _ _ _ 0 a (n + 1) len ("MetroFaresModel", 242, "zone ") (show ("MetroFaresModel", 242, "zone ") ∈ wL by decide +kernel) hM hl hlen ha (by decide) hb0) mi_X6_skip vi_X6_225 rfl hM.1 rfl rfl (Nat.le_of_ble_eq_true rfl) ⟨Nat.le_of_ble_eq_true rfl, Nat.le_of_ble_eq_true rfl⟩ (Nat.le_of_ble_eq_true rfl) (Nat.le_of_ble_eq_true rfl) dX6_readCommand_204) (fun q hq => Or.inl (blk_sub (by omega) (by omega) q hq)) (rfl : _ = 207) (fun H204_60 hq_204 o_204 => ?_)
                have hg := hg.keep o_204 (fun q z => Nat.le_trans hb0 z.1)
                have hM : Rs D kA _ o (r_rd F (q_skip t len (byt "zone ") (0, a)).1 (q_skip t len (byt "zone ") (0, a)).2 (n + 1)) s b v p u t _ := hq_204
                have yl := q_skip_le (t := t) (len := len) (byt "zone ") (0, a) (by decide +kernel) (show 0 < 2 from (by decide)) ha
                obtain ⟨⟨w1, a1⟩, hy⟩ : ∃ z, q_skip t len (byt "zone ") (0, a) = z := ⟨_, rfl⟩
                rw [hy] at hM yl
                dsimp only at hM yl
                refine V_aload_n Y.1 2 dX6_readCommand_207 (rfl : _ = 208) rfl rfl ?_
                refine V_get Y.1 fi_X6_36 hM.1 rfl dX6_readCommand_208 (rfl : _ = 211) ?_
                refine V_iload_n Y.1 0 dX6_readCommand_211 (rfl : _ = 212) rfl rfl ?_
                refine V_iconst Y.1 (v := 1) dX6_readCommand_212 (rfl : _ = 213) (by decide) ?_
                refine V_iadd Y.1 dX6_readCommand_213 (rfl : _ = 214) ?_
                refine V_nm (v := nI (3 * n + 1)) (nI_add _ _) ?_
                refine V_aload_n Y.1 2 dX6_readCommand_214 (rfl : _ = 215) rfl rfl ?_
                refine V_iload_n Y.1 1 dX6_readCommand_215 (rfl : _ = 216) rfl rfl ?_
                refine V_bipush Y.1 (v := 122) dX6_readCommand_216 (rfl : _ = 218) (by decide) ?_
                refine V_icmp_ne Y.1 (tgt := 225) dX6_readCommand_218 (by decide) (rfl : _ = 221) (fun c_218 => ?_) (fun c_218 => ?_)
                · have c218 := c_218
                  refine V_iconst Y.1 (v := 1) dX6_readCommand_225 (rfl : _ = 226) (by decide) ?_
                  refine V_cI Y (rV Y (c_X6_readNumber l D kA _ o F _ _ _ _ _ _ _ w1 a1 (n + 1) len 1 (by decide) hM hl hlen yl.2.2 yl.1) mi_X6_readNumber vi_X6_231 rfl hM.1 rfl rfl (Nat.le_of_ble_eq_true rfl) ⟨Nat.le_of_ble_eq_true rfl, Nat.le_of_ble_eq_true rfl⟩ (Nat.le_of_ble_eq_true rfl) (Nat.le_of_ble_eq_true rfl) dX6_readCommand_226) (fun q hq => Or.inl (blk_sub (by omega) (by omega) q hq)) (rfl : _ = 229) (fun v_226 H226_79 hq_226 o_226 => ?_)
                  have hg := hg.keep o_226 (fun q z => Nat.le_trans hb0 z.1)
                  obtain ⟨v226, hM⟩ := hq_226
                  have ml := q_num_le (t := t) (len := len) (most := 1) (w := w1) (a := a1) yl.2.2
                  obtain ⟨⟨mw, ma, mx⟩, hm⟩ : ∃ z, q_num t len 1 w1 a1 = z := ⟨_, rfl⟩
                  rw [hm] at hM ml v226
                  dsimp only at hM ml v226
                  refine V_nm (v := mx) v226 ?_
                  refine V_iast Y.1 hM.2.2.2.2.2.2.2 (Or.inl ⟨by omega, by omega⟩) (vp_in_nI (by omega) (by omega)) dX6_readCommand_229 (rfl : _ = 230) (fun H229_87 h_new o_229 => ?_)
                  rw [nI_clamp (by omega)] at h_new
                  have hM := hM.a7 o_229 h_new
                  have hg := hg.put o_229 (by omega)
                  clear h_new
                  refine V_aload_n Y.1 2 dX6_readCommand_230 (rfl : _ = 231) rfl rfl ?_
                  refine V_ldcS Y (Z.2.1 ("MetroFaresModel", 244, " ") (show ("MetroFaresModel", 244, " ") ∈ wL by decide +kernel)) dX6_readCommand_231 (rfl : _ = 233) ?_
                  refine V_cV Y (sV Z (c_X6_skip l D kA Hs σ _ hg o F _ _ _ _ _ _ _ mw ma (n + 1) len ("MetroFaresModel", 244, " ") (show ("MetroFaresModel", 244, " ") ∈ wL by decide +kernel) hM hl hlen ml.2.2 ml.1 hb0) mi_X6_skip vi_X6_225 rfl hM.1 rfl rfl (Nat.le_of_ble_eq_true rfl) ⟨Nat.le_of_ble_eq_true rfl, Nat.le_of_ble_eq_true rfl⟩ (Nat.le_of_ble_eq_true rfl) (Nat.le_of_ble_eq_true rfl) dX6_readCommand_233) (fun q hq => Or.inl (blk_sub (by omega) (by omega) q hq)) (rfl : _ = 236) (fun H233_94 hq_233 o_233 => ?_)
                  have hg := hg.keep o_233 (fun q z => Nat.le_trans hb0 z.1)
                  have hM : Rs D kA _ o (r_rd F (q_skip t len (byt " ") (mw, ma)).1 (q_skip t len (byt " ") (mw, ma)).2 (n + 1)) s b v p u t _ := hq_233
                  have y2l := q_skip_le (t := t) (len := len) (byt " ") (mw, ma) (by decide +kernel) (show mw < 2 from ml.1) ml.2.2
                  obtain ⟨⟨w2, a2⟩, hy2⟩ : ∃ z, q_skip t len (byt " ") (mw, ma) = z := ⟨_, rfl⟩
                  rw [hy2] at hM y2l
                  dsimp only at hM y2l
                  refine V_aload_n Y.1 2 dX6_readCommand_236 (rfl : _ = 237) rfl rfl ?_
                  refine V_get Y.1 fi_X6_36 hM.1 rfl dX6_readCommand_237 (rfl : _ = 240) ?_
                  refine V_iload_n Y.1 0 dX6_readCommand_240 (rfl : _ = 241) rfl rfl ?_
                  refine V_iconst Y.1 (v := 2) dX6_readCommand_241 (rfl : _ = 242) (by decide) ?_
                  refine V_iadd Y.1 dX6_readCommand_242 (rfl : _ = 243) ?_
                  refine V_nm (v := nI (3 * n + 2)) (nI_add _ _) ?_
                  refine V_aload_n Y.1 2 dX6_readCommand_243 (rfl : _ = 244) rfl rfl ?_
                  refine V_iload_n Y.1 1 dX6_readCommand_244 (rfl : _ = 245) rfl rfl ?_
                  refine V_bipush Y.1 (v := 122) dX6_readCommand_245 (rfl : _ = 247) (by decide) ?_
                  refine V_icmp_ne Y.1 (tgt := 254) dX6_readCommand_247 (by decide) (rfl : _ = 250) (fun _ => ?_) (fun c_n => absurd c_n c218)
                  refine V_iconst Y.1 (v := 4) dX6_readCommand_254 (rfl : _ = 255) (by decide) ?_
                  refine V_cI Y (rV Y (c_X6_readNumber l D kA _ o F _ _ _ _ _ _ _ w2 a2 (n + 1) len 4 (by decide) hM hl hlen y2l.2.2 y2l.1) mi_X6_readNumber vi_X6_231 rfl hM.1 rfl rfl (Nat.le_of_ble_eq_true rfl) ⟨Nat.le_of_ble_eq_true rfl, Nat.le_of_ble_eq_true rfl⟩ (Nat.le_of_ble_eq_true rfl) (Nat.le_of_ble_eq_true rfl) dX6_readCommand_255) (fun q hq => Or.inl (blk_sub (by omega) (by omega) q hq)) (rfl : _ = 258) (fun v_255 H255_112 hq_255 o_255 => ?_)
                  have hg := hg.keep o_255 (fun q z => Nat.le_trans hb0 z.1)
                  obtain ⟨v255, hM⟩ := hq_255
                  have rl := q_num_le (t := t) (len := len) (most := 4) (w := w2) (a := a2) y2l.2.2
                  obtain ⟨⟨rw, ra, rx⟩, hr⟩ : ∃ z, q_num t len 4 w2 a2 = z := ⟨_, rfl⟩
                  rw [hr] at hM rl v255
                  dsimp only at hM rl v255
                  refine V_nm (v := rx) v255 ?_
                  refine V_iast Y.1 hM.2.2.2.2.2.2.2 (Or.inl ⟨by omega, by omega⟩) (vp_in_nI (by omega) (by omega)) dX6_readCommand_258 (rfl : _ = 259) (fun H258_120 h_new o_258 => ?_)
                  rw [nI_clamp (by omega)] at h_new
                  have hM := hM.a7 o_258 h_new
                  have hg := hg.put o_258 (by omega)
                  clear h_new
                  exact V_retV Y.1 dX6_readCommand_259 (Nat.le_of_ble_eq_true rfl) (Nat.le_of_ble_eq_true rfl) (Rs.cmd hM (by unfold q_cmd; rw [if_neg (not_not_intro rfl)]; first | (simp only [hkd, hwd, hy, eq_true c_40, eq_false c76, eq_true c_62, if_true, if_false, not_true, not_false_iff, reduceIte] <;> rfl) | (simp only [hkd, hwd, hy, eq_true c_40, eq_false c76, eq_false c_62, if_true, if_false, not_true, not_false_iff, reduceIte] <;> rfl) | (simp only [hkd, hwd, hy, eq_true c_40, eq_true c76, eq_true c_62, if_true, if_false, not_true, not_false_iff, reduceIte] <;> rfl) | (simp only [hkd, hwd, hy, eq_true c_40, eq_true c76, eq_false c_62, eq_true c_94, if_true, if_false, not_true, not_false_iff, reduceIte] <;> rfl) | (simp only [hkd, hwd, hy, eq_true c_40, eq_true c76, eq_false c_62, eq_false c_94, if_true, if_false, not_true, not_false_iff, reduceIte] <;> rfl) | (simp only [hkd, hwd, hy, eq_false c_40, eq_true c_132, hm, if_true, if_false, not_true, not_false_iff, reduceIte] <;> rfl) | (simp only [hkd, hwd, hy, eq_false c_40, eq_false c_132, eq_false c218, hm, hy2, hr, if_true, if_false, not_true, not_false_iff, reduceIte] <;> rfl) | (simp only [hkd, hwd, hy, eq_false c_40, eq_false c_132, eq_true c218, hm, hy2, hr, if_true, if_false, not_true, not_false_iff, reduceIte] <;> rfl)))
                · have c218 := c_218
                  refine V_iconst Y.1 (v := 4) dX6_readCommand_221 (rfl : _ = 222) (by decide) ?_
                  refine V_goto Y.1 (tgt := 226) dX6_readCommand_222 (by decide) ?_
                  refine V_cI Y (rV Y (c_X6_readNumber l D kA _ o F _ _ _ _ _ _ _ w1 a1 (n + 1) len 4 (by decide) hM hl hlen yl.2.2 yl.1) mi_X6_readNumber vi_X6_231 rfl hM.1 rfl rfl (Nat.le_of_ble_eq_true rfl) ⟨Nat.le_of_ble_eq_true rfl, Nat.le_of_ble_eq_true rfl⟩ (Nat.le_of_ble_eq_true rfl) (Nat.le_of_ble_eq_true rfl) dX6_readCommand_226) (fun q hq => Or.inl (blk_sub (by omega) (by omega) q hq)) (rfl : _ = 229) (fun v_226 H226_129 hq_226 o_226 => ?_)
                  have hg := hg.keep o_226 (fun q z => Nat.le_trans hb0 z.1)
                  obtain ⟨v226, hM⟩ := hq_226
                  have ml := q_num_le (t := t) (len := len) (most := 4) (w := w1) (a := a1) yl.2.2
                  obtain ⟨⟨mw, ma, mx⟩, hm⟩ : ∃ z, q_num t len 4 w1 a1 = z := ⟨_, rfl⟩
                  rw [hm] at hM ml v226
                  dsimp only at hM ml v226
                  refine V_nm (v := mx) v226 ?_
                  refine V_iast Y.1 hM.2.2.2.2.2.2.2 (Or.inl ⟨by omega, by omega⟩) (vp_in_nI (by omega) (by omega)) dX6_readCommand_229 (rfl : _ = 230) (fun H229_137 h_new o_229 => ?_)
                  rw [nI_clamp (by omega)] at h_new
                  have hM := hM.a7 o_229 h_new
                  have hg := hg.put o_229 (by omega)
                  clear h_new
                  refine V_aload_n Y.1 2 dX6_readCommand_230 (rfl : _ = 231) rfl rfl ?_
                  refine V_ldcS Y (Z.2.1 ("MetroFaresModel", 244, " ") (show ("MetroFaresModel", 244, " ") ∈ wL by decide +kernel)) dX6_readCommand_231 (rfl : _ = 233) ?_
                  refine V_cV Y (sV Z (c_X6_skip l D kA Hs σ _ hg o F _ _ _ _ _ _ _ mw ma (n + 1) len ("MetroFaresModel", 244, " ") (show ("MetroFaresModel", 244, " ") ∈ wL by decide +kernel) hM hl hlen ml.2.2 ml.1 hb0) mi_X6_skip vi_X6_225 rfl hM.1 rfl rfl (Nat.le_of_ble_eq_true rfl) ⟨Nat.le_of_ble_eq_true rfl, Nat.le_of_ble_eq_true rfl⟩ (Nat.le_of_ble_eq_true rfl) (Nat.le_of_ble_eq_true rfl) dX6_readCommand_233) (fun q hq => Or.inl (blk_sub (by omega) (by omega) q hq)) (rfl : _ = 236) (fun H233_144 hq_233 o_233 => ?_)
                  have hg := hg.keep o_233 (fun q z => Nat.le_trans hb0 z.1)
                  have hM : Rs D kA _ o (r_rd F (q_skip t len (byt " ") (mw, ma)).1 (q_skip t len (byt " ") (mw, ma)).2 (n + 1)) s b v p u t _ := hq_233
                  have y2l := q_skip_le (t := t) (len := len) (byt " ") (mw, ma) (by decide +kernel) (show mw < 2 from ml.1) ml.2.2
                  obtain ⟨⟨w2, a2⟩, hy2⟩ : ∃ z, q_skip t len (byt " ") (mw, ma) = z := ⟨_, rfl⟩
                  rw [hy2] at hM y2l
                  dsimp only at hM y2l
                  refine V_aload_n Y.1 2 dX6_readCommand_236 (rfl : _ = 237) rfl rfl ?_
                  refine V_get Y.1 fi_X6_36 hM.1 rfl dX6_readCommand_237 (rfl : _ = 240) ?_
                  refine V_iload_n Y.1 0 dX6_readCommand_240 (rfl : _ = 241) rfl rfl ?_
                  refine V_iconst Y.1 (v := 2) dX6_readCommand_241 (rfl : _ = 242) (by decide) ?_
                  refine V_iadd Y.1 dX6_readCommand_242 (rfl : _ = 243) ?_
                  refine V_nm (v := nI (3 * n + 2)) (nI_add _ _) ?_
                  refine V_aload_n Y.1 2 dX6_readCommand_243 (rfl : _ = 244) rfl rfl ?_
                  refine V_iload_n Y.1 1 dX6_readCommand_244 (rfl : _ = 245) rfl rfl ?_
                  refine V_bipush Y.1 (v := 122) dX6_readCommand_245 (rfl : _ = 247) (by decide) ?_
                  refine V_icmp_ne Y.1 (tgt := 254) dX6_readCommand_247 (by decide) (rfl : _ = 250) (fun c_n => absurd c218 c_n) (fun _ => ?_)
                  refine V_iconst Y.1 (v := 1) dX6_readCommand_250 (rfl : _ = 251) (by decide) ?_
                  refine V_goto Y.1 (tgt := 255) dX6_readCommand_251 (by decide) ?_
                  refine V_cI Y (rV Y (c_X6_readNumber l D kA _ o F _ _ _ _ _ _ _ w2 a2 (n + 1) len 1 (by decide) hM hl hlen y2l.2.2 y2l.1) mi_X6_readNumber vi_X6_231 rfl hM.1 rfl rfl (Nat.le_of_ble_eq_true rfl) ⟨Nat.le_of_ble_eq_true rfl, Nat.le_of_ble_eq_true rfl⟩ (Nat.le_of_ble_eq_true rfl) (Nat.le_of_ble_eq_true rfl) dX6_readCommand_255) (fun q hq => Or.inl (blk_sub (by omega) (by omega) q hq)) (rfl : _ = 258) (fun v_255 H255_163 hq_255 o_255 => ?_)
                  have hg := hg.keep o_255 (fun q z => Nat.le_trans hb0 z.1)
                  obtain ⟨v255, hM⟩ := hq_255
                  have rl := q_num_le (t := t) (len := len) (most := 1) (w := w2) (a := a2) y2l.2.2
                  obtain ⟨⟨rw, ra, rx⟩, hr⟩ : ∃ z, q_num t len 1 w2 a2 = z := ⟨_, rfl⟩
                  rw [hr] at hM rl v255
                  dsimp only at hM rl v255
                  refine V_nm (v := rx) v255 ?_
                  refine V_iast Y.1 hM.2.2.2.2.2.2.2 (Or.inl ⟨by omega, by omega⟩) (vp_in_nI (by omega) (by omega)) dX6_readCommand_258 (rfl : _ = 259) (fun H258_171 h_new o_258 => ?_)
                  rw [nI_clamp (by omega)] at h_new
                  have hM := hM.a7 o_258 h_new
                  have hg := hg.put o_258 (by omega)
                  clear h_new
                  exact V_retV Y.1 dX6_readCommand_259 (Nat.le_of_ble_eq_true rfl) (Nat.le_of_ble_eq_true rfl) (Rs.cmd hM (by unfold q_cmd; rw [if_neg (not_not_intro rfl)]; first | (simp only [hkd, hwd, hy, eq_true c_40, eq_false c76, eq_true c_62, if_true, if_false, not_true, not_false_iff, reduceIte] <;> rfl) | (simp only [hkd, hwd, hy, eq_true c_40, eq_false c76, eq_false c_62, if_true, if_false, not_true, not_false_iff, reduceIte] <;> rfl) | (simp only [hkd, hwd, hy, eq_true c_40, eq_true c76, eq_true c_62, if_true, if_false, not_true, not_false_iff, reduceIte] <;> rfl) | (simp only [hkd, hwd, hy, eq_true c_40, eq_true c76, eq_false c_62, eq_true c_94, if_true, if_false, not_true, not_false_iff, reduceIte] <;> rfl) | (simp only [hkd, hwd, hy, eq_true c_40, eq_true c76, eq_false c_62, eq_false c_94, if_true, if_false, not_true, not_false_iff, reduceIte] <;> rfl) | (simp only [hkd, hwd, hy, eq_false c_40, eq_true c_132, hm, if_true, if_false, not_true, not_false_iff, reduceIte] <;> rfl) | (simp only [hkd, hwd, hy, eq_false c_40, eq_false c_132, eq_false c218, hm, hy2, hr, if_true, if_false, not_true, not_false_iff, reduceIte] <;> rfl) | (simp only [hkd, hwd, hy, eq_false c_40, eq_false c_132, eq_true c218, hm, hy2, hr, if_true, if_false, not_true, not_false_iff, reduceIte] <;> rfl)))
              · refine V_ldcS Y (Z.2.1 ("MetroFaresModel", 240, "fix ") (show ("MetroFaresModel", 240, "fix ") ∈ wL by decide +kernel)) dX6_readCommand_197 (rfl : _ = 199) ?_
                refine V_goto Y.1 (tgt := 204) dX6_readCommand_199 (by decide) ?_
                have hwd : r_word kd = "fix " := by unfold r_word; rw [if_neg c_40, if_neg c_132, if_neg c_161, if_neg c_172, if_neg c_183, if_pos c_194]
                refine V_cV Y (sV Z (c_X6_skip l D kA Hs σ _ hg o F _ _ _ _ _ _ _ 0 a (n + 1) len ("MetroFaresModel", 240, "fix ") (show ("MetroFaresModel", 240, "fix ") ∈ wL by decide +kernel) hM hl hlen ha (by decide) hb0) mi_X6_skip vi_X6_225 rfl hM.1 rfl rfl (Nat.le_of_ble_eq_true rfl) ⟨Nat.le_of_ble_eq_true rfl, Nat.le_of_ble_eq_true rfl⟩ (Nat.le_of_ble_eq_true rfl) (Nat.le_of_ble_eq_true rfl) dX6_readCommand_204) (fun q hq => Or.inl (blk_sub (by omega) (by omega) q hq)) (rfl : _ = 207) (fun H204_180 hq_204 o_204 => ?_)
                have hg := hg.keep o_204 (fun q z => Nat.le_trans hb0 z.1)
                have hM : Rs D kA _ o (r_rd F (q_skip t len (byt "fix ") (0, a)).1 (q_skip t len (byt "fix ") (0, a)).2 (n + 1)) s b v p u t _ := hq_204
                have yl := q_skip_le (t := t) (len := len) (byt "fix ") (0, a) (by decide +kernel) (show 0 < 2 from (by decide)) ha
                obtain ⟨⟨w1, a1⟩, hy⟩ : ∃ z, q_skip t len (byt "fix ") (0, a) = z := ⟨_, rfl⟩
                rw [hy] at hM yl
                dsimp only at hM yl
                refine V_aload_n Y.1 2 dX6_readCommand_207 (rfl : _ = 208) rfl rfl ?_
                refine V_get Y.1 fi_X6_36 hM.1 rfl dX6_readCommand_208 (rfl : _ = 211) ?_
                refine V_iload_n Y.1 0 dX6_readCommand_211 (rfl : _ = 212) rfl rfl ?_
                refine V_iconst Y.1 (v := 1) dX6_readCommand_212 (rfl : _ = 213) (by decide) ?_
                refine V_iadd Y.1 dX6_readCommand_213 (rfl : _ = 214) ?_
                refine V_nm (v := nI (3 * n + 1)) (nI_add _ _) ?_
                refine V_aload_n Y.1 2 dX6_readCommand_214 (rfl : _ = 215) rfl rfl ?_
                refine V_iload_n Y.1 1 dX6_readCommand_215 (rfl : _ = 216) rfl rfl ?_
                refine V_bipush Y.1 (v := 122) dX6_readCommand_216 (rfl : _ = 218) (by decide) ?_
                have c218 : ¬ kd = 122 := by rw [c_194]; decide
                refine V_icmp_ne Y.1 (tgt := 225) dX6_readCommand_218 (by decide) (rfl : _ = 221) (fun _ => ?_) (fun c_n => absurd c_n c218)
                refine V_iconst Y.1 (v := 1) dX6_readCommand_225 (rfl : _ = 226) (by decide) ?_
                refine V_cI Y (rV Y (c_X6_readNumber l D kA _ o F _ _ _ _ _ _ _ w1 a1 (n + 1) len 1 (by decide) hM hl hlen yl.2.2 yl.1) mi_X6_readNumber vi_X6_231 rfl hM.1 rfl rfl (Nat.le_of_ble_eq_true rfl) ⟨Nat.le_of_ble_eq_true rfl, Nat.le_of_ble_eq_true rfl⟩ (Nat.le_of_ble_eq_true rfl) (Nat.le_of_ble_eq_true rfl) dX6_readCommand_226) (fun q hq => Or.inl (blk_sub (by omega) (by omega) q hq)) (rfl : _ = 229) (fun v_226 H226_199 hq_226 o_226 => ?_)
                have hg := hg.keep o_226 (fun q z => Nat.le_trans hb0 z.1)
                obtain ⟨v226, hM⟩ := hq_226
                have ml := q_num_le (t := t) (len := len) (most := 1) (w := w1) (a := a1) yl.2.2
                obtain ⟨⟨mw, ma, mx⟩, hm⟩ : ∃ z, q_num t len 1 w1 a1 = z := ⟨_, rfl⟩
                rw [hm] at hM ml v226
                dsimp only at hM ml v226
                refine V_nm (v := mx) v226 ?_
                refine V_iast Y.1 hM.2.2.2.2.2.2.2 (Or.inl ⟨by omega, by omega⟩) (vp_in_nI (by omega) (by omega)) dX6_readCommand_229 (rfl : _ = 230) (fun H229_207 h_new o_229 => ?_)
                rw [nI_clamp (by omega)] at h_new
                have hM := hM.a7 o_229 h_new
                have hg := hg.put o_229 (by omega)
                clear h_new
                refine V_aload_n Y.1 2 dX6_readCommand_230 (rfl : _ = 231) rfl rfl ?_
                refine V_ldcS Y (Z.2.1 ("MetroFaresModel", 244, " ") (show ("MetroFaresModel", 244, " ") ∈ wL by decide +kernel)) dX6_readCommand_231 (rfl : _ = 233) ?_
                refine V_cV Y (sV Z (c_X6_skip l D kA Hs σ _ hg o F _ _ _ _ _ _ _ mw ma (n + 1) len ("MetroFaresModel", 244, " ") (show ("MetroFaresModel", 244, " ") ∈ wL by decide +kernel) hM hl hlen ml.2.2 ml.1 hb0) mi_X6_skip vi_X6_225 rfl hM.1 rfl rfl (Nat.le_of_ble_eq_true rfl) ⟨Nat.le_of_ble_eq_true rfl, Nat.le_of_ble_eq_true rfl⟩ (Nat.le_of_ble_eq_true rfl) (Nat.le_of_ble_eq_true rfl) dX6_readCommand_233) (fun q hq => Or.inl (blk_sub (by omega) (by omega) q hq)) (rfl : _ = 236) (fun H233_214 hq_233 o_233 => ?_)
                have hg := hg.keep o_233 (fun q z => Nat.le_trans hb0 z.1)
                have hM : Rs D kA _ o (r_rd F (q_skip t len (byt " ") (mw, ma)).1 (q_skip t len (byt " ") (mw, ma)).2 (n + 1)) s b v p u t _ := hq_233
                have y2l := q_skip_le (t := t) (len := len) (byt " ") (mw, ma) (by decide +kernel) (show mw < 2 from ml.1) ml.2.2
                obtain ⟨⟨w2, a2⟩, hy2⟩ : ∃ z, q_skip t len (byt " ") (mw, ma) = z := ⟨_, rfl⟩
                rw [hy2] at hM y2l
                dsimp only at hM y2l
                refine V_aload_n Y.1 2 dX6_readCommand_236 (rfl : _ = 237) rfl rfl ?_
                refine V_get Y.1 fi_X6_36 hM.1 rfl dX6_readCommand_237 (rfl : _ = 240) ?_
                refine V_iload_n Y.1 0 dX6_readCommand_240 (rfl : _ = 241) rfl rfl ?_
                refine V_iconst Y.1 (v := 2) dX6_readCommand_241 (rfl : _ = 242) (by decide) ?_
                refine V_iadd Y.1 dX6_readCommand_242 (rfl : _ = 243) ?_
                refine V_nm (v := nI (3 * n + 2)) (nI_add _ _) ?_
                refine V_aload_n Y.1 2 dX6_readCommand_243 (rfl : _ = 244) rfl rfl ?_
                refine V_iload_n Y.1 1 dX6_readCommand_244 (rfl : _ = 245) rfl rfl ?_
                refine V_bipush Y.1 (v := 122) dX6_readCommand_245 (rfl : _ = 247) (by decide) ?_
                refine V_icmp_ne Y.1 (tgt := 254) dX6_readCommand_247 (by decide) (rfl : _ = 250) (fun _ => ?_) (fun c_n => absurd c_n c218)
                refine V_iconst Y.1 (v := 4) dX6_readCommand_254 (rfl : _ = 255) (by decide) ?_
                refine V_cI Y (rV Y (c_X6_readNumber l D kA _ o F _ _ _ _ _ _ _ w2 a2 (n + 1) len 4 (by decide) hM hl hlen y2l.2.2 y2l.1) mi_X6_readNumber vi_X6_231 rfl hM.1 rfl rfl (Nat.le_of_ble_eq_true rfl) ⟨Nat.le_of_ble_eq_true rfl, Nat.le_of_ble_eq_true rfl⟩ (Nat.le_of_ble_eq_true rfl) (Nat.le_of_ble_eq_true rfl) dX6_readCommand_255) (fun q hq => Or.inl (blk_sub (by omega) (by omega) q hq)) (rfl : _ = 258) (fun v_255 H255_232 hq_255 o_255 => ?_)
                have hg := hg.keep o_255 (fun q z => Nat.le_trans hb0 z.1)
                obtain ⟨v255, hM⟩ := hq_255
                have rl := q_num_le (t := t) (len := len) (most := 4) (w := w2) (a := a2) y2l.2.2
                obtain ⟨⟨rw, ra, rx⟩, hr⟩ : ∃ z, q_num t len 4 w2 a2 = z := ⟨_, rfl⟩
                rw [hr] at hM rl v255
                dsimp only at hM rl v255
                refine V_nm (v := rx) v255 ?_
                refine V_iast Y.1 hM.2.2.2.2.2.2.2 (Or.inl ⟨by omega, by omega⟩) (vp_in_nI (by omega) (by omega)) dX6_readCommand_258 (rfl : _ = 259) (fun H258_240 h_new o_258 => ?_)
                rw [nI_clamp (by omega)] at h_new
                have hM := hM.a7 o_258 h_new
                have hg := hg.put o_258 (by omega)
                clear h_new
                exact V_retV Y.1 dX6_readCommand_259 (Nat.le_of_ble_eq_true rfl) (Nat.le_of_ble_eq_true rfl) (Rs.cmd hM (by unfold q_cmd; rw [if_neg (not_not_intro rfl)]; first | (simp only [hkd, hwd, hy, eq_true c_40, eq_false c76, eq_true c_62, if_true, if_false, not_true, not_false_iff, reduceIte] <;> rfl) | (simp only [hkd, hwd, hy, eq_true c_40, eq_false c76, eq_false c_62, if_true, if_false, not_true, not_false_iff, reduceIte] <;> rfl) | (simp only [hkd, hwd, hy, eq_true c_40, eq_true c76, eq_true c_62, if_true, if_false, not_true, not_false_iff, reduceIte] <;> rfl) | (simp only [hkd, hwd, hy, eq_true c_40, eq_true c76, eq_false c_62, eq_true c_94, if_true, if_false, not_true, not_false_iff, reduceIte] <;> rfl) | (simp only [hkd, hwd, hy, eq_true c_40, eq_true c76, eq_false c_62, eq_false c_94, if_true, if_false, not_true, not_false_iff, reduceIte] <;> rfl) | (simp only [hkd, hwd, hy, eq_false c_40, eq_true c_132, hm, if_true, if_false, not_true, not_false_iff, reduceIte] <;> rfl) | (simp only [hkd, hwd, hy, eq_false c_40, eq_false c_132, eq_false c218, hm, hy2, hr, if_true, if_false, not_true, not_false_iff, reduceIte] <;> rfl) | (simp only [hkd, hwd, hy, eq_false c_40, eq_false c_132, eq_true c218, hm, hy2, hr, if_true, if_false, not_true, not_false_iff, reduceIte] <;> rfl)))
            · refine V_ldcS Y (Z.2.1 ("MetroFaresModel", 238, "out ") (show ("MetroFaresModel", 238, "out ") ∈ wL by decide +kernel)) dX6_readCommand_186 (rfl : _ = 188) ?_
              refine V_goto Y.1 (tgt := 204) dX6_readCommand_188 (by decide) ?_
              have hwd : r_word kd = "out " := by unfold r_word; rw [if_neg c_40, if_neg c_132, if_neg c_161, if_neg c_172, if_pos c_183]
              refine V_cV Y (sV Z (c_X6_skip l D kA Hs σ _ hg o F _ _ _ _ _ _ _ 0 a (n + 1) len ("MetroFaresModel", 238, "out ") (show ("MetroFaresModel", 238, "out ") ∈ wL by decide +kernel) hM hl hlen ha (by decide) hb0) mi_X6_skip vi_X6_225 rfl hM.1 rfl rfl (Nat.le_of_ble_eq_true rfl) ⟨Nat.le_of_ble_eq_true rfl, Nat.le_of_ble_eq_true rfl⟩ (Nat.le_of_ble_eq_true rfl) (Nat.le_of_ble_eq_true rfl) dX6_readCommand_204) (fun q hq => Or.inl (blk_sub (by omega) (by omega) q hq)) (rfl : _ = 207) (fun H204_249 hq_204 o_204 => ?_)
              have hg := hg.keep o_204 (fun q z => Nat.le_trans hb0 z.1)
              have hM : Rs D kA _ o (r_rd F (q_skip t len (byt "out ") (0, a)).1 (q_skip t len (byt "out ") (0, a)).2 (n + 1)) s b v p u t _ := hq_204
              have yl := q_skip_le (t := t) (len := len) (byt "out ") (0, a) (by decide +kernel) (show 0 < 2 from (by decide)) ha
              obtain ⟨⟨w1, a1⟩, hy⟩ : ∃ z, q_skip t len (byt "out ") (0, a) = z := ⟨_, rfl⟩
              rw [hy] at hM yl
              dsimp only at hM yl
              refine V_aload_n Y.1 2 dX6_readCommand_207 (rfl : _ = 208) rfl rfl ?_
              refine V_get Y.1 fi_X6_36 hM.1 rfl dX6_readCommand_208 (rfl : _ = 211) ?_
              refine V_iload_n Y.1 0 dX6_readCommand_211 (rfl : _ = 212) rfl rfl ?_
              refine V_iconst Y.1 (v := 1) dX6_readCommand_212 (rfl : _ = 213) (by decide) ?_
              refine V_iadd Y.1 dX6_readCommand_213 (rfl : _ = 214) ?_
              refine V_nm (v := nI (3 * n + 1)) (nI_add _ _) ?_
              refine V_aload_n Y.1 2 dX6_readCommand_214 (rfl : _ = 215) rfl rfl ?_
              refine V_iload_n Y.1 1 dX6_readCommand_215 (rfl : _ = 216) rfl rfl ?_
              refine V_bipush Y.1 (v := 122) dX6_readCommand_216 (rfl : _ = 218) (by decide) ?_
              have c218 : ¬ kd = 122 := by rw [c_183]; decide
              refine V_icmp_ne Y.1 (tgt := 225) dX6_readCommand_218 (by decide) (rfl : _ = 221) (fun _ => ?_) (fun c_n => absurd c_n c218)
              refine V_iconst Y.1 (v := 1) dX6_readCommand_225 (rfl : _ = 226) (by decide) ?_
              refine V_cI Y (rV Y (c_X6_readNumber l D kA _ o F _ _ _ _ _ _ _ w1 a1 (n + 1) len 1 (by decide) hM hl hlen yl.2.2 yl.1) mi_X6_readNumber vi_X6_231 rfl hM.1 rfl rfl (Nat.le_of_ble_eq_true rfl) ⟨Nat.le_of_ble_eq_true rfl, Nat.le_of_ble_eq_true rfl⟩ (Nat.le_of_ble_eq_true rfl) (Nat.le_of_ble_eq_true rfl) dX6_readCommand_226) (fun q hq => Or.inl (blk_sub (by omega) (by omega) q hq)) (rfl : _ = 229) (fun v_226 H226_268 hq_226 o_226 => ?_)
              have hg := hg.keep o_226 (fun q z => Nat.le_trans hb0 z.1)
              obtain ⟨v226, hM⟩ := hq_226
              have ml := q_num_le (t := t) (len := len) (most := 1) (w := w1) (a := a1) yl.2.2
              obtain ⟨⟨mw, ma, mx⟩, hm⟩ : ∃ z, q_num t len 1 w1 a1 = z := ⟨_, rfl⟩
              rw [hm] at hM ml v226
              dsimp only at hM ml v226
              refine V_nm (v := mx) v226 ?_
              refine V_iast Y.1 hM.2.2.2.2.2.2.2 (Or.inl ⟨by omega, by omega⟩) (vp_in_nI (by omega) (by omega)) dX6_readCommand_229 (rfl : _ = 230) (fun H229_276 h_new o_229 => ?_)
              rw [nI_clamp (by omega)] at h_new
              have hM := hM.a7 o_229 h_new
              have hg := hg.put o_229 (by omega)
              clear h_new
              refine V_aload_n Y.1 2 dX6_readCommand_230 (rfl : _ = 231) rfl rfl ?_
              refine V_ldcS Y (Z.2.1 ("MetroFaresModel", 244, " ") (show ("MetroFaresModel", 244, " ") ∈ wL by decide +kernel)) dX6_readCommand_231 (rfl : _ = 233) ?_
              refine V_cV Y (sV Z (c_X6_skip l D kA Hs σ _ hg o F _ _ _ _ _ _ _ mw ma (n + 1) len ("MetroFaresModel", 244, " ") (show ("MetroFaresModel", 244, " ") ∈ wL by decide +kernel) hM hl hlen ml.2.2 ml.1 hb0) mi_X6_skip vi_X6_225 rfl hM.1 rfl rfl (Nat.le_of_ble_eq_true rfl) ⟨Nat.le_of_ble_eq_true rfl, Nat.le_of_ble_eq_true rfl⟩ (Nat.le_of_ble_eq_true rfl) (Nat.le_of_ble_eq_true rfl) dX6_readCommand_233) (fun q hq => Or.inl (blk_sub (by omega) (by omega) q hq)) (rfl : _ = 236) (fun H233_283 hq_233 o_233 => ?_)
              have hg := hg.keep o_233 (fun q z => Nat.le_trans hb0 z.1)
              have hM : Rs D kA _ o (r_rd F (q_skip t len (byt " ") (mw, ma)).1 (q_skip t len (byt " ") (mw, ma)).2 (n + 1)) s b v p u t _ := hq_233
              have y2l := q_skip_le (t := t) (len := len) (byt " ") (mw, ma) (by decide +kernel) (show mw < 2 from ml.1) ml.2.2
              obtain ⟨⟨w2, a2⟩, hy2⟩ : ∃ z, q_skip t len (byt " ") (mw, ma) = z := ⟨_, rfl⟩
              rw [hy2] at hM y2l
              dsimp only at hM y2l
              refine V_aload_n Y.1 2 dX6_readCommand_236 (rfl : _ = 237) rfl rfl ?_
              refine V_get Y.1 fi_X6_36 hM.1 rfl dX6_readCommand_237 (rfl : _ = 240) ?_
              refine V_iload_n Y.1 0 dX6_readCommand_240 (rfl : _ = 241) rfl rfl ?_
              refine V_iconst Y.1 (v := 2) dX6_readCommand_241 (rfl : _ = 242) (by decide) ?_
              refine V_iadd Y.1 dX6_readCommand_242 (rfl : _ = 243) ?_
              refine V_nm (v := nI (3 * n + 2)) (nI_add _ _) ?_
              refine V_aload_n Y.1 2 dX6_readCommand_243 (rfl : _ = 244) rfl rfl ?_
              refine V_iload_n Y.1 1 dX6_readCommand_244 (rfl : _ = 245) rfl rfl ?_
              refine V_bipush Y.1 (v := 122) dX6_readCommand_245 (rfl : _ = 247) (by decide) ?_
              refine V_icmp_ne Y.1 (tgt := 254) dX6_readCommand_247 (by decide) (rfl : _ = 250) (fun _ => ?_) (fun c_n => absurd c_n c218)
              refine V_iconst Y.1 (v := 4) dX6_readCommand_254 (rfl : _ = 255) (by decide) ?_
              refine V_cI Y (rV Y (c_X6_readNumber l D kA _ o F _ _ _ _ _ _ _ w2 a2 (n + 1) len 4 (by decide) hM hl hlen y2l.2.2 y2l.1) mi_X6_readNumber vi_X6_231 rfl hM.1 rfl rfl (Nat.le_of_ble_eq_true rfl) ⟨Nat.le_of_ble_eq_true rfl, Nat.le_of_ble_eq_true rfl⟩ (Nat.le_of_ble_eq_true rfl) (Nat.le_of_ble_eq_true rfl) dX6_readCommand_255) (fun q hq => Or.inl (blk_sub (by omega) (by omega) q hq)) (rfl : _ = 258) (fun v_255 H255_301 hq_255 o_255 => ?_)
              have hg := hg.keep o_255 (fun q z => Nat.le_trans hb0 z.1)
              obtain ⟨v255, hM⟩ := hq_255
              have rl := q_num_le (t := t) (len := len) (most := 4) (w := w2) (a := a2) y2l.2.2
              obtain ⟨⟨rw, ra, rx⟩, hr⟩ : ∃ z, q_num t len 4 w2 a2 = z := ⟨_, rfl⟩
              rw [hr] at hM rl v255
              dsimp only at hM rl v255
              refine V_nm (v := rx) v255 ?_
              refine V_iast Y.1 hM.2.2.2.2.2.2.2 (Or.inl ⟨by omega, by omega⟩) (vp_in_nI (by omega) (by omega)) dX6_readCommand_258 (rfl : _ = 259) (fun H258_309 h_new o_258 => ?_)
              rw [nI_clamp (by omega)] at h_new
              have hM := hM.a7 o_258 h_new
              have hg := hg.put o_258 (by omega)
              clear h_new
              exact V_retV Y.1 dX6_readCommand_259 (Nat.le_of_ble_eq_true rfl) (Nat.le_of_ble_eq_true rfl) (Rs.cmd hM (by unfold q_cmd; rw [if_neg (not_not_intro rfl)]; first | (simp only [hkd, hwd, hy, eq_true c_40, eq_false c76, eq_true c_62, if_true, if_false, not_true, not_false_iff, reduceIte] <;> rfl) | (simp only [hkd, hwd, hy, eq_true c_40, eq_false c76, eq_false c_62, if_true, if_false, not_true, not_false_iff, reduceIte] <;> rfl) | (simp only [hkd, hwd, hy, eq_true c_40, eq_true c76, eq_true c_62, if_true, if_false, not_true, not_false_iff, reduceIte] <;> rfl) | (simp only [hkd, hwd, hy, eq_true c_40, eq_true c76, eq_false c_62, eq_true c_94, if_true, if_false, not_true, not_false_iff, reduceIte] <;> rfl) | (simp only [hkd, hwd, hy, eq_true c_40, eq_true c76, eq_false c_62, eq_false c_94, if_true, if_false, not_true, not_false_iff, reduceIte] <;> rfl) | (simp only [hkd, hwd, hy, eq_false c_40, eq_true c_132, hm, if_true, if_false, not_true, not_false_iff, reduceIte] <;> rfl) | (simp only [hkd, hwd, hy, eq_false c_40, eq_false c_132, eq_false c218, hm, hy2, hr, if_true, if_false, not_true, not_false_iff, reduceIte] <;> rfl) | (simp only [hkd, hwd, hy, eq_false c_40, eq_false c_132, eq_true c218, hm, hy2, hr, if_true, if_false, not_true, not_false_iff, reduceIte] <;> rfl)))
          · refine V_ldcS Y (Z.2.1 ("MetroFaresModel", 236, "in ") (show ("MetroFaresModel", 236, "in ") ∈ wL by decide +kernel)) dX6_readCommand_175 (rfl : _ = 177) ?_
            refine V_goto Y.1 (tgt := 204) dX6_readCommand_177 (by decide) ?_
            have hwd : r_word kd = "in " := by unfold r_word; rw [if_neg c_40, if_neg c_132, if_neg c_161, if_pos c_172]
            refine V_cV Y (sV Z (c_X6_skip l D kA Hs σ _ hg o F _ _ _ _ _ _ _ 0 a (n + 1) len ("MetroFaresModel", 236, "in ") (show ("MetroFaresModel", 236, "in ") ∈ wL by decide +kernel) hM hl hlen ha (by decide) hb0) mi_X6_skip vi_X6_225 rfl hM.1 rfl rfl (Nat.le_of_ble_eq_true rfl) ⟨Nat.le_of_ble_eq_true rfl, Nat.le_of_ble_eq_true rfl⟩ (Nat.le_of_ble_eq_true rfl) (Nat.le_of_ble_eq_true rfl) dX6_readCommand_204) (fun q hq => Or.inl (blk_sub (by omega) (by omega) q hq)) (rfl : _ = 207) (fun H204_318 hq_204 o_204 => ?_)
            have hg := hg.keep o_204 (fun q z => Nat.le_trans hb0 z.1)
            have hM : Rs D kA _ o (r_rd F (q_skip t len (byt "in ") (0, a)).1 (q_skip t len (byt "in ") (0, a)).2 (n + 1)) s b v p u t _ := hq_204
            have yl := q_skip_le (t := t) (len := len) (byt "in ") (0, a) (by decide +kernel) (show 0 < 2 from (by decide)) ha
            obtain ⟨⟨w1, a1⟩, hy⟩ : ∃ z, q_skip t len (byt "in ") (0, a) = z := ⟨_, rfl⟩
            rw [hy] at hM yl
            dsimp only at hM yl
            refine V_aload_n Y.1 2 dX6_readCommand_207 (rfl : _ = 208) rfl rfl ?_
            refine V_get Y.1 fi_X6_36 hM.1 rfl dX6_readCommand_208 (rfl : _ = 211) ?_
            refine V_iload_n Y.1 0 dX6_readCommand_211 (rfl : _ = 212) rfl rfl ?_
            refine V_iconst Y.1 (v := 1) dX6_readCommand_212 (rfl : _ = 213) (by decide) ?_
            refine V_iadd Y.1 dX6_readCommand_213 (rfl : _ = 214) ?_
            refine V_nm (v := nI (3 * n + 1)) (nI_add _ _) ?_
            refine V_aload_n Y.1 2 dX6_readCommand_214 (rfl : _ = 215) rfl rfl ?_
            refine V_iload_n Y.1 1 dX6_readCommand_215 (rfl : _ = 216) rfl rfl ?_
            refine V_bipush Y.1 (v := 122) dX6_readCommand_216 (rfl : _ = 218) (by decide) ?_
            have c218 : ¬ kd = 122 := by rw [c_172]; decide
            refine V_icmp_ne Y.1 (tgt := 225) dX6_readCommand_218 (by decide) (rfl : _ = 221) (fun _ => ?_) (fun c_n => absurd c_n c218)
            refine V_iconst Y.1 (v := 1) dX6_readCommand_225 (rfl : _ = 226) (by decide) ?_
            refine V_cI Y (rV Y (c_X6_readNumber l D kA _ o F _ _ _ _ _ _ _ w1 a1 (n + 1) len 1 (by decide) hM hl hlen yl.2.2 yl.1) mi_X6_readNumber vi_X6_231 rfl hM.1 rfl rfl (Nat.le_of_ble_eq_true rfl) ⟨Nat.le_of_ble_eq_true rfl, Nat.le_of_ble_eq_true rfl⟩ (Nat.le_of_ble_eq_true rfl) (Nat.le_of_ble_eq_true rfl) dX6_readCommand_226) (fun q hq => Or.inl (blk_sub (by omega) (by omega) q hq)) (rfl : _ = 229) (fun v_226 H226_337 hq_226 o_226 => ?_)
            have hg := hg.keep o_226 (fun q z => Nat.le_trans hb0 z.1)
            obtain ⟨v226, hM⟩ := hq_226
            have ml := q_num_le (t := t) (len := len) (most := 1) (w := w1) (a := a1) yl.2.2
            obtain ⟨⟨mw, ma, mx⟩, hm⟩ : ∃ z, q_num t len 1 w1 a1 = z := ⟨_, rfl⟩
            rw [hm] at hM ml v226
            dsimp only at hM ml v226
            refine V_nm (v := mx) v226 ?_
            refine V_iast Y.1 hM.2.2.2.2.2.2.2 (Or.inl ⟨by omega, by omega⟩) (vp_in_nI (by omega) (by omega)) dX6_readCommand_229 (rfl : _ = 230) (fun H229_345 h_new o_229 => ?_)
            rw [nI_clamp (by omega)] at h_new
            have hM := hM.a7 o_229 h_new
            have hg := hg.put o_229 (by omega)
            clear h_new
            refine V_aload_n Y.1 2 dX6_readCommand_230 (rfl : _ = 231) rfl rfl ?_
            refine V_ldcS Y (Z.2.1 ("MetroFaresModel", 244, " ") (show ("MetroFaresModel", 244, " ") ∈ wL by decide +kernel)) dX6_readCommand_231 (rfl : _ = 233) ?_
            refine V_cV Y (sV Z (c_X6_skip l D kA Hs σ _ hg o F _ _ _ _ _ _ _ mw ma (n + 1) len ("MetroFaresModel", 244, " ") (show ("MetroFaresModel", 244, " ") ∈ wL by decide +kernel) hM hl hlen ml.2.2 ml.1 hb0) mi_X6_skip vi_X6_225 rfl hM.1 rfl rfl (Nat.le_of_ble_eq_true rfl) ⟨Nat.le_of_ble_eq_true rfl, Nat.le_of_ble_eq_true rfl⟩ (Nat.le_of_ble_eq_true rfl) (Nat.le_of_ble_eq_true rfl) dX6_readCommand_233) (fun q hq => Or.inl (blk_sub (by omega) (by omega) q hq)) (rfl : _ = 236) (fun H233_352 hq_233 o_233 => ?_)
            have hg := hg.keep o_233 (fun q z => Nat.le_trans hb0 z.1)
            have hM : Rs D kA _ o (r_rd F (q_skip t len (byt " ") (mw, ma)).1 (q_skip t len (byt " ") (mw, ma)).2 (n + 1)) s b v p u t _ := hq_233
            have y2l := q_skip_le (t := t) (len := len) (byt " ") (mw, ma) (by decide +kernel) (show mw < 2 from ml.1) ml.2.2
            obtain ⟨⟨w2, a2⟩, hy2⟩ : ∃ z, q_skip t len (byt " ") (mw, ma) = z := ⟨_, rfl⟩
            rw [hy2] at hM y2l
            dsimp only at hM y2l
            refine V_aload_n Y.1 2 dX6_readCommand_236 (rfl : _ = 237) rfl rfl ?_
            refine V_get Y.1 fi_X6_36 hM.1 rfl dX6_readCommand_237 (rfl : _ = 240) ?_
            refine V_iload_n Y.1 0 dX6_readCommand_240 (rfl : _ = 241) rfl rfl ?_
            refine V_iconst Y.1 (v := 2) dX6_readCommand_241 (rfl : _ = 242) (by decide) ?_
            refine V_iadd Y.1 dX6_readCommand_242 (rfl : _ = 243) ?_
            refine V_nm (v := nI (3 * n + 2)) (nI_add _ _) ?_
            refine V_aload_n Y.1 2 dX6_readCommand_243 (rfl : _ = 244) rfl rfl ?_
            refine V_iload_n Y.1 1 dX6_readCommand_244 (rfl : _ = 245) rfl rfl ?_
            refine V_bipush Y.1 (v := 122) dX6_readCommand_245 (rfl : _ = 247) (by decide) ?_
            refine V_icmp_ne Y.1 (tgt := 254) dX6_readCommand_247 (by decide) (rfl : _ = 250) (fun _ => ?_) (fun c_n => absurd c_n c218)
            refine V_iconst Y.1 (v := 4) dX6_readCommand_254 (rfl : _ = 255) (by decide) ?_
            refine V_cI Y (rV Y (c_X6_readNumber l D kA _ o F _ _ _ _ _ _ _ w2 a2 (n + 1) len 4 (by decide) hM hl hlen y2l.2.2 y2l.1) mi_X6_readNumber vi_X6_231 rfl hM.1 rfl rfl (Nat.le_of_ble_eq_true rfl) ⟨Nat.le_of_ble_eq_true rfl, Nat.le_of_ble_eq_true rfl⟩ (Nat.le_of_ble_eq_true rfl) (Nat.le_of_ble_eq_true rfl) dX6_readCommand_255) (fun q hq => Or.inl (blk_sub (by omega) (by omega) q hq)) (rfl : _ = 258) (fun v_255 H255_370 hq_255 o_255 => ?_)
            have hg := hg.keep o_255 (fun q z => Nat.le_trans hb0 z.1)
            obtain ⟨v255, hM⟩ := hq_255
            have rl := q_num_le (t := t) (len := len) (most := 4) (w := w2) (a := a2) y2l.2.2
            obtain ⟨⟨rw, ra, rx⟩, hr⟩ : ∃ z, q_num t len 4 w2 a2 = z := ⟨_, rfl⟩
            rw [hr] at hM rl v255
            dsimp only at hM rl v255
            refine V_nm (v := rx) v255 ?_
            refine V_iast Y.1 hM.2.2.2.2.2.2.2 (Or.inl ⟨by omega, by omega⟩) (vp_in_nI (by omega) (by omega)) dX6_readCommand_258 (rfl : _ = 259) (fun H258_378 h_new o_258 => ?_)
            rw [nI_clamp (by omega)] at h_new
            have hM := hM.a7 o_258 h_new
            have hg := hg.put o_258 (by omega)
            clear h_new
            exact V_retV Y.1 dX6_readCommand_259 (Nat.le_of_ble_eq_true rfl) (Nat.le_of_ble_eq_true rfl) (Rs.cmd hM (by unfold q_cmd; rw [if_neg (not_not_intro rfl)]; first | (simp only [hkd, hwd, hy, eq_true c_40, eq_false c76, eq_true c_62, if_true, if_false, not_true, not_false_iff, reduceIte] <;> rfl) | (simp only [hkd, hwd, hy, eq_true c_40, eq_false c76, eq_false c_62, if_true, if_false, not_true, not_false_iff, reduceIte] <;> rfl) | (simp only [hkd, hwd, hy, eq_true c_40, eq_true c76, eq_true c_62, if_true, if_false, not_true, not_false_iff, reduceIte] <;> rfl) | (simp only [hkd, hwd, hy, eq_true c_40, eq_true c76, eq_false c_62, eq_true c_94, if_true, if_false, not_true, not_false_iff, reduceIte] <;> rfl) | (simp only [hkd, hwd, hy, eq_true c_40, eq_true c76, eq_false c_62, eq_false c_94, if_true, if_false, not_true, not_false_iff, reduceIte] <;> rfl) | (simp only [hkd, hwd, hy, eq_false c_40, eq_true c_132, hm, if_true, if_false, not_true, not_false_iff, reduceIte] <;> rfl) | (simp only [hkd, hwd, hy, eq_false c_40, eq_false c_132, eq_false c218, hm, hy2, hr, if_true, if_false, not_true, not_false_iff, reduceIte] <;> rfl) | (simp only [hkd, hwd, hy, eq_false c_40, eq_false c_132, eq_true c218, hm, hy2, hr, if_true, if_false, not_true, not_false_iff, reduceIte] <;> rfl)))
        · refine V_ldcS Y (Z.2.1 ("MetroFaresModel", 234, "load ") (show ("MetroFaresModel", 234, "load ") ∈ wL by decide +kernel)) dX6_readCommand_164 (rfl : _ = 166) ?_
          refine V_goto Y.1 (tgt := 204) dX6_readCommand_166 (by decide) ?_
          have hwd : r_word kd = "load " := by unfold r_word; rw [if_neg c_40, if_neg c_132, if_pos c_161]
          refine V_cV Y (sV Z (c_X6_skip l D kA Hs σ _ hg o F _ _ _ _ _ _ _ 0 a (n + 1) len ("MetroFaresModel", 234, "load ") (show ("MetroFaresModel", 234, "load ") ∈ wL by decide +kernel) hM hl hlen ha (by decide) hb0) mi_X6_skip vi_X6_225 rfl hM.1 rfl rfl (Nat.le_of_ble_eq_true rfl) ⟨Nat.le_of_ble_eq_true rfl, Nat.le_of_ble_eq_true rfl⟩ (Nat.le_of_ble_eq_true rfl) (Nat.le_of_ble_eq_true rfl) dX6_readCommand_204) (fun q hq => Or.inl (blk_sub (by omega) (by omega) q hq)) (rfl : _ = 207) (fun H204_387 hq_204 o_204 => ?_)
          have hg := hg.keep o_204 (fun q z => Nat.le_trans hb0 z.1)
          have hM : Rs D kA _ o (r_rd F (q_skip t len (byt "load ") (0, a)).1 (q_skip t len (byt "load ") (0, a)).2 (n + 1)) s b v p u t _ := hq_204
          have yl := q_skip_le (t := t) (len := len) (byt "load ") (0, a) (by decide +kernel) (show 0 < 2 from (by decide)) ha
          obtain ⟨⟨w1, a1⟩, hy⟩ : ∃ z, q_skip t len (byt "load ") (0, a) = z := ⟨_, rfl⟩
          rw [hy] at hM yl
          dsimp only at hM yl
          refine V_aload_n Y.1 2 dX6_readCommand_207 (rfl : _ = 208) rfl rfl ?_
          refine V_get Y.1 fi_X6_36 hM.1 rfl dX6_readCommand_208 (rfl : _ = 211) ?_
          refine V_iload_n Y.1 0 dX6_readCommand_211 (rfl : _ = 212) rfl rfl ?_
          refine V_iconst Y.1 (v := 1) dX6_readCommand_212 (rfl : _ = 213) (by decide) ?_
          refine V_iadd Y.1 dX6_readCommand_213 (rfl : _ = 214) ?_
          refine V_nm (v := nI (3 * n + 1)) (nI_add _ _) ?_
          refine V_aload_n Y.1 2 dX6_readCommand_214 (rfl : _ = 215) rfl rfl ?_
          refine V_iload_n Y.1 1 dX6_readCommand_215 (rfl : _ = 216) rfl rfl ?_
          refine V_bipush Y.1 (v := 122) dX6_readCommand_216 (rfl : _ = 218) (by decide) ?_
          have c218 : ¬ kd = 122 := by rw [c_161]; decide
          refine V_icmp_ne Y.1 (tgt := 225) dX6_readCommand_218 (by decide) (rfl : _ = 221) (fun _ => ?_) (fun c_n => absurd c_n c218)
          refine V_iconst Y.1 (v := 1) dX6_readCommand_225 (rfl : _ = 226) (by decide) ?_
          refine V_cI Y (rV Y (c_X6_readNumber l D kA _ o F _ _ _ _ _ _ _ w1 a1 (n + 1) len 1 (by decide) hM hl hlen yl.2.2 yl.1) mi_X6_readNumber vi_X6_231 rfl hM.1 rfl rfl (Nat.le_of_ble_eq_true rfl) ⟨Nat.le_of_ble_eq_true rfl, Nat.le_of_ble_eq_true rfl⟩ (Nat.le_of_ble_eq_true rfl) (Nat.le_of_ble_eq_true rfl) dX6_readCommand_226) (fun q hq => Or.inl (blk_sub (by omega) (by omega) q hq)) (rfl : _ = 229) (fun v_226 H226_406 hq_226 o_226 => ?_)
          have hg := hg.keep o_226 (fun q z => Nat.le_trans hb0 z.1)
          obtain ⟨v226, hM⟩ := hq_226
          have ml := q_num_le (t := t) (len := len) (most := 1) (w := w1) (a := a1) yl.2.2
          obtain ⟨⟨mw, ma, mx⟩, hm⟩ : ∃ z, q_num t len 1 w1 a1 = z := ⟨_, rfl⟩
          rw [hm] at hM ml v226
          dsimp only at hM ml v226
          refine V_nm (v := mx) v226 ?_
          refine V_iast Y.1 hM.2.2.2.2.2.2.2 (Or.inl ⟨by omega, by omega⟩) (vp_in_nI (by omega) (by omega)) dX6_readCommand_229 (rfl : _ = 230) (fun H229_414 h_new o_229 => ?_)
          rw [nI_clamp (by omega)] at h_new
          have hM := hM.a7 o_229 h_new
          have hg := hg.put o_229 (by omega)
          clear h_new
          refine V_aload_n Y.1 2 dX6_readCommand_230 (rfl : _ = 231) rfl rfl ?_
          refine V_ldcS Y (Z.2.1 ("MetroFaresModel", 244, " ") (show ("MetroFaresModel", 244, " ") ∈ wL by decide +kernel)) dX6_readCommand_231 (rfl : _ = 233) ?_
          refine V_cV Y (sV Z (c_X6_skip l D kA Hs σ _ hg o F _ _ _ _ _ _ _ mw ma (n + 1) len ("MetroFaresModel", 244, " ") (show ("MetroFaresModel", 244, " ") ∈ wL by decide +kernel) hM hl hlen ml.2.2 ml.1 hb0) mi_X6_skip vi_X6_225 rfl hM.1 rfl rfl (Nat.le_of_ble_eq_true rfl) ⟨Nat.le_of_ble_eq_true rfl, Nat.le_of_ble_eq_true rfl⟩ (Nat.le_of_ble_eq_true rfl) (Nat.le_of_ble_eq_true rfl) dX6_readCommand_233) (fun q hq => Or.inl (blk_sub (by omega) (by omega) q hq)) (rfl : _ = 236) (fun H233_421 hq_233 o_233 => ?_)
          have hg := hg.keep o_233 (fun q z => Nat.le_trans hb0 z.1)
          have hM : Rs D kA _ o (r_rd F (q_skip t len (byt " ") (mw, ma)).1 (q_skip t len (byt " ") (mw, ma)).2 (n + 1)) s b v p u t _ := hq_233
          have y2l := q_skip_le (t := t) (len := len) (byt " ") (mw, ma) (by decide +kernel) (show mw < 2 from ml.1) ml.2.2
          obtain ⟨⟨w2, a2⟩, hy2⟩ : ∃ z, q_skip t len (byt " ") (mw, ma) = z := ⟨_, rfl⟩
          rw [hy2] at hM y2l
          dsimp only at hM y2l
          refine V_aload_n Y.1 2 dX6_readCommand_236 (rfl : _ = 237) rfl rfl ?_
          refine V_get Y.1 fi_X6_36 hM.1 rfl dX6_readCommand_237 (rfl : _ = 240) ?_
          refine V_iload_n Y.1 0 dX6_readCommand_240 (rfl : _ = 241) rfl rfl ?_
          refine V_iconst Y.1 (v := 2) dX6_readCommand_241 (rfl : _ = 242) (by decide) ?_
          refine V_iadd Y.1 dX6_readCommand_242 (rfl : _ = 243) ?_
          refine V_nm (v := nI (3 * n + 2)) (nI_add _ _) ?_
          refine V_aload_n Y.1 2 dX6_readCommand_243 (rfl : _ = 244) rfl rfl ?_
          refine V_iload_n Y.1 1 dX6_readCommand_244 (rfl : _ = 245) rfl rfl ?_
          refine V_bipush Y.1 (v := 122) dX6_readCommand_245 (rfl : _ = 247) (by decide) ?_
          refine V_icmp_ne Y.1 (tgt := 254) dX6_readCommand_247 (by decide) (rfl : _ = 250) (fun _ => ?_) (fun c_n => absurd c_n c218)
          refine V_iconst Y.1 (v := 4) dX6_readCommand_254 (rfl : _ = 255) (by decide) ?_
          refine V_cI Y (rV Y (c_X6_readNumber l D kA _ o F _ _ _ _ _ _ _ w2 a2 (n + 1) len 4 (by decide) hM hl hlen y2l.2.2 y2l.1) mi_X6_readNumber vi_X6_231 rfl hM.1 rfl rfl (Nat.le_of_ble_eq_true rfl) ⟨Nat.le_of_ble_eq_true rfl, Nat.le_of_ble_eq_true rfl⟩ (Nat.le_of_ble_eq_true rfl) (Nat.le_of_ble_eq_true rfl) dX6_readCommand_255) (fun q hq => Or.inl (blk_sub (by omega) (by omega) q hq)) (rfl : _ = 258) (fun v_255 H255_439 hq_255 o_255 => ?_)
          have hg := hg.keep o_255 (fun q z => Nat.le_trans hb0 z.1)
          obtain ⟨v255, hM⟩ := hq_255
          have rl := q_num_le (t := t) (len := len) (most := 4) (w := w2) (a := a2) y2l.2.2
          obtain ⟨⟨rw, ra, rx⟩, hr⟩ : ∃ z, q_num t len 4 w2 a2 = z := ⟨_, rfl⟩
          rw [hr] at hM rl v255
          dsimp only at hM rl v255
          refine V_nm (v := rx) v255 ?_
          refine V_iast Y.1 hM.2.2.2.2.2.2.2 (Or.inl ⟨by omega, by omega⟩) (vp_in_nI (by omega) (by omega)) dX6_readCommand_258 (rfl : _ = 259) (fun H258_447 h_new o_258 => ?_)
          rw [nI_clamp (by omega)] at h_new
          have hM := hM.a7 o_258 h_new
          have hg := hg.put o_258 (by omega)
          clear h_new
          exact V_retV Y.1 dX6_readCommand_259 (Nat.le_of_ble_eq_true rfl) (Nat.le_of_ble_eq_true rfl) (Rs.cmd hM (by unfold q_cmd; rw [if_neg (not_not_intro rfl)]; first | (simp only [hkd, hwd, hy, eq_true c_40, eq_false c76, eq_true c_62, if_true, if_false, not_true, not_false_iff, reduceIte] <;> rfl) | (simp only [hkd, hwd, hy, eq_true c_40, eq_false c76, eq_false c_62, if_true, if_false, not_true, not_false_iff, reduceIte] <;> rfl) | (simp only [hkd, hwd, hy, eq_true c_40, eq_true c76, eq_true c_62, if_true, if_false, not_true, not_false_iff, reduceIte] <;> rfl) | (simp only [hkd, hwd, hy, eq_true c_40, eq_true c76, eq_false c_62, eq_true c_94, if_true, if_false, not_true, not_false_iff, reduceIte] <;> rfl) | (simp only [hkd, hwd, hy, eq_true c_40, eq_true c76, eq_false c_62, eq_false c_94, if_true, if_false, not_true, not_false_iff, reduceIte] <;> rfl) | (simp only [hkd, hwd, hy, eq_false c_40, eq_true c_132, hm, if_true, if_false, not_true, not_false_iff, reduceIte] <;> rfl) | (simp only [hkd, hwd, hy, eq_false c_40, eq_false c_132, eq_false c218, hm, hy2, hr, if_true, if_false, not_true, not_false_iff, reduceIte] <;> rfl) | (simp only [hkd, hwd, hy, eq_false c_40, eq_false c_132, eq_true c218, hm, hy2, hr, if_true, if_false, not_true, not_false_iff, reduceIte] <;> rfl)))
      · have hwd : r_word kd = "wait " := by unfold r_word; rw [if_neg c_40, if_pos c_132]
        refine V_aload_n Y.1 2 dX6_readCommand_135 (rfl : _ = 136) rfl rfl ?_
        refine V_ldcS Y (Z.2.1 ("MetroFaresModel", 229, "wait ") (show ("MetroFaresModel", 229, "wait ") ∈ wL by decide +kernel)) dX6_readCommand_136 (rfl : _ = 138) ?_
        refine V_cV Y (sV Z (c_X6_skip l D kA Hs σ _ hg o F _ _ _ _ _ _ _ 0 a (n + 1) len ("MetroFaresModel", 229, "wait ") (show ("MetroFaresModel", 229, "wait ") ∈ wL by decide +kernel) hM hl hlen ha (by decide) hb0) mi_X6_skip vi_X6_225 rfl hM.1 rfl rfl (Nat.le_of_ble_eq_true rfl) ⟨Nat.le_of_ble_eq_true rfl, Nat.le_of_ble_eq_true rfl⟩ (Nat.le_of_ble_eq_true rfl) (Nat.le_of_ble_eq_true rfl) dX6_readCommand_138) (fun q hq => Or.inl (blk_sub (by omega) (by omega) q hq)) (rfl : _ = 141) (fun H138_456 hq_138 o_138 => ?_)
        have hg := hg.keep o_138 (fun q z => Nat.le_trans hb0 z.1)
        have hM : Rs D kA _ o (r_rd F (q_skip t len (byt "wait ") (0, a)).1 (q_skip t len (byt "wait ") (0, a)).2 (n + 1)) s b v p u t _ := hq_138
        have yl := q_skip_le (t := t) (len := len) (byt "wait ") (0, a) (by decide +kernel) (show 0 < 2 from (by decide)) ha
        obtain ⟨⟨w1, a1⟩, hy⟩ : ∃ z, q_skip t len (byt "wait ") (0, a) = z := ⟨_, rfl⟩
        rw [hy] at hM yl
        dsimp only at hM yl
        refine V_aload_n Y.1 2 dX6_readCommand_141 (rfl : _ = 142) rfl rfl ?_
        refine V_get Y.1 fi_X6_36 hM.1 rfl dX6_readCommand_142 (rfl : _ = 145) ?_
        refine V_iload_n Y.1 0 dX6_readCommand_145 (rfl : _ = 146) rfl rfl ?_
        refine V_iconst Y.1 (v := 1) dX6_readCommand_146 (rfl : _ = 147) (by decide) ?_
        refine V_iadd Y.1 dX6_readCommand_147 (rfl : _ = 148) ?_
        refine V_nm (v := nI (3 * n + 1)) (nI_add _ _) ?_
        refine V_aload_n Y.1 2 dX6_readCommand_148 (rfl : _ = 149) rfl rfl ?_
        refine V_iconst Y.1 (v := 4) dX6_readCommand_149 (rfl : _ = 150) (by decide) ?_
        refine V_cI Y (rV Y (c_X6_readNumber l D kA _ o F _ _ _ _ _ _ _ w1 a1 (n + 1) len 4 (by decide) hM hl hlen yl.2.2 yl.1) mi_X6_readNumber vi_X6_231 rfl hM.1 rfl rfl (Nat.le_of_ble_eq_true rfl) ⟨Nat.le_of_ble_eq_true rfl, Nat.le_of_ble_eq_true rfl⟩ (Nat.le_of_ble_eq_true rfl) (Nat.le_of_ble_eq_true rfl) dX6_readCommand_150) (fun q hq => Or.inl (blk_sub (by omega) (by omega) q hq)) (rfl : _ = 153) (fun v_150 H150_471 hq_150 o_150 => ?_)
        have hg := hg.keep o_150 (fun q z => Nat.le_trans hb0 z.1)
        obtain ⟨v150, hM⟩ := hq_150
        have ml := q_num_le (t := t) (len := len) (most := 4) (w := w1) (a := a1) yl.2.2
        obtain ⟨⟨mw, ma, mx⟩, hm⟩ : ∃ z, q_num t len 4 w1 a1 = z := ⟨_, rfl⟩
        rw [hm] at hM ml v150
        dsimp only at hM ml v150
        refine V_nm (v := mx) v150 ?_
        refine V_iast Y.1 hM.2.2.2.2.2.2.2 (Or.inl ⟨by omega, by omega⟩) (vp_in_nI (by omega) (by omega)) dX6_readCommand_153 (rfl : _ = 154) (fun H153_479 h_new o_153 => ?_)
        rw [nI_clamp (by omega)] at h_new
        have hM := hM.a7 o_153 h_new
        have hg := hg.put o_153 (by omega)
        clear h_new
        refine V_goto Y.1 (tgt := 259) dX6_readCommand_154 (by decide) ?_
        exact V_retV Y.1 dX6_readCommand_259 (Nat.le_of_ble_eq_true rfl) (Nat.le_of_ble_eq_true rfl) (Rs.cmd hM (by unfold q_cmd; rw [if_neg (not_not_intro rfl)]; first | (simp only [hkd, hwd, hy, eq_true c_40, eq_false c76, eq_true c_62, if_true, if_false, not_true, not_false_iff, reduceIte] <;> rfl) | (simp only [hkd, hwd, hy, eq_true c_40, eq_false c76, eq_false c_62, if_true, if_false, not_true, not_false_iff, reduceIte] <;> rfl) | (simp only [hkd, hwd, hy, eq_true c_40, eq_true c76, eq_true c_62, if_true, if_false, not_true, not_false_iff, reduceIte] <;> rfl) | (simp only [hkd, hwd, hy, eq_true c_40, eq_true c76, eq_false c_62, eq_true c_94, if_true, if_false, not_true, not_false_iff, reduceIte] <;> rfl) | (simp only [hkd, hwd, hy, eq_true c_40, eq_true c76, eq_false c_62, eq_false c_94, if_true, if_false, not_true, not_false_iff, reduceIte] <;> rfl) | (simp only [hkd, hwd, hy, eq_false c_40, eq_true c_132, hm, if_true, if_false, not_true, not_false_iff, reduceIte] <;> rfl) | (simp only [hkd, hwd, hy, eq_false c_40, eq_false c_132, eq_false c218, hm, hy2, hr, if_true, if_false, not_true, not_false_iff, reduceIte] <;> rfl) | (simp only [hkd, hwd, hy, eq_false c_40, eq_false c_132, eq_true c218, hm, hy2, hr, if_true, if_false, not_true, not_false_iff, reduceIte] <;> rfl)))
    · have hwd : r_word kd = "card " := by unfold r_word; rw [if_pos c_40]
      refine V_aload_n Y.1 2 dX6_readCommand_43 (rfl : _ = 44) rfl rfl ?_
      refine V_ldcS Y (Z.2.1 ("MetroFaresModel", 223, "card ") (show ("MetroFaresModel", 223, "card ") ∈ wL by decide +kernel)) dX6_readCommand_44 (rfl : _ = 46) ?_
      refine V_cV Y (sV Z (c_X6_skip l D kA Hs σ _ hg o F _ _ _ _ _ _ _ 0 a (n + 1) len ("MetroFaresModel", 223, "card ") (show ("MetroFaresModel", 223, "card ") ∈ wL by decide +kernel) hM hl hlen ha (by decide) hb0) mi_X6_skip vi_X6_225 rfl hM.1 rfl rfl (Nat.le_of_ble_eq_true rfl) ⟨Nat.le_of_ble_eq_true rfl, Nat.le_of_ble_eq_true rfl⟩ (Nat.le_of_ble_eq_true rfl) (Nat.le_of_ble_eq_true rfl) dX6_readCommand_46) (fun q hq => Or.inl (blk_sub (by omega) (by omega) q hq)) (rfl : _ = 49) (fun H46_489 hq_46 o_46 => ?_)
      have hg := hg.keep o_46 (fun q z => Nat.le_trans hb0 z.1)
      have hM : Rs D kA _ o (r_rd F (q_skip t len (byt "card ") (0, a)).1 (q_skip t len (byt "card ") (0, a)).2 (n + 1)) s b v p u t _ := hq_46
      have yl := q_skip_le (t := t) (len := len) (byt "card ") (0, a) (by decide +kernel) (show 0 < 2 from (by decide)) ha
      obtain ⟨⟨w1, a1⟩, hy⟩ : ∃ z, q_skip t len (byt "card ") (0, a) = z := ⟨_, rfl⟩
      rw [hy] at hM yl
      dsimp only at hM yl
      refine V_aload_n Y.1 2 dX6_readCommand_49 (rfl : _ = 50) rfl rfl ?_
      refine V_get Y.1 fi_X6_36 hM.1 rfl dX6_readCommand_50 (rfl : _ = 53) ?_
      refine V_iload_n Y.1 0 dX6_readCommand_53 (rfl : _ = 54) rfl rfl ?_
      refine V_iconst Y.1 (v := 1) dX6_readCommand_54 (rfl : _ = 55) (by decide) ?_
      refine V_iadd Y.1 dX6_readCommand_55 (rfl : _ = 56) ?_
      refine V_nm (v := nI (3 * n + 1)) (nI_add _ _) ?_
      refine V_aload_n Y.1 2 dX6_readCommand_56 (rfl : _ = 57) rfl rfl ?_
      refine V_cP Y (rV Y (c_X6_behind l D kA _ o F _ _ _ _ _ _ _ w1 a1 (n + 1) len hM hl hlen yl.2.2 yl.1) mi_X6_behind vi_X6_209 rfl hM.1 rfl rfl (Nat.le_of_ble_eq_true rfl) ⟨Nat.le_of_ble_eq_true rfl, Nat.le_of_ble_eq_true rfl⟩ (Nat.le_of_ble_eq_true rfl) (Nat.le_of_ble_eq_true rfl) dX6_readCommand_57) (rfl : _ = 60) ?_
      refine V_bipush Y.1 (v := 114) dX6_readCommand_60 (rfl : _ = 62) (by decide) ?_
      refine V_icmp_ne Y.1 (tgt := 69) dX6_readCommand_62 (by decide) (rfl : _ = 65) (fun c_62 => ?_) (fun c_62 => ?_)
      · refine V_iconst Y.1 (v := 0) dX6_readCommand_69 (rfl : _ = 70) (by decide) ?_
        refine V_iast Y.1 hM.2.2.2.2.2.2.2 (Or.inl ⟨by omega, by omega⟩) (vp_in_nI (by omega) (by omega)) dX6_readCommand_70 (rfl : _ = 71) (fun H70_507 h_new o_70 => ?_)
        rw [nI_clamp (by omega)] at h_new
        have hM := hM.a7 o_70 h_new
        have hg := hg.put o_70 (by omega)
        clear h_new
        refine V_aload_n Y.1 2 dX6_readCommand_71 (rfl : _ = 72) rfl rfl ?_
        refine V_aload_n Y.1 2 dX6_readCommand_72 (rfl : _ = 73) rfl rfl ?_
        refine V_get Y.1 fi_X6_205 hM.1 rfl dX6_readCommand_73 (rfl : _ = 76) ?_
        refine V_nm (v := nI w1) rfl ?_
        refine V_if_ne Y.1 (tgt := 97) dX6_readCommand_76 (by decide) (rfl : _ = 79) (fun c_76 => ?_) (fun c_76 => ?_)
        · have c76 : ¬ w1 = 0 := fun q => c_76 (by rw [q]; rfl)
          refine V_iconst Y.1 (v := 1) dX6_readCommand_97 (rfl : _ = 98) (by decide) ?_
          refine V_goto Y.1 (tgt := 102) dX6_readCommand_98 (by decide) ?_
          refine V_put Y.1 fi_X6_205 fw_X6 rfl rfl hM.1 (Or.inl ⟨by omega, by omega⟩) rfl rfl (Nat.le_of_ble_eq_true rfl) dX6_readCommand_102 (rfl : _ = 105) (fun H102_520 h_new o_102 => ?_)
          have hM := hM.f12 o_102 h_new
          have hg := hg.put o_102 (by omega)
          clear h_new
          have hM := Rs.d12 (w1 := 1) hM
          refine V_aload_n Y.1 2 dX6_readCommand_105 (rfl : _ = 106) rfl rfl ?_
          refine V_dup Y.1 dX6_readCommand_106 (rfl : _ = 107) rfl ?_
          refine V_get Y.1 fi_X6_198 hM.1 rfl dX6_readCommand_107 (rfl : _ = 110) ?_
          refine V_nm (v := nI a1) rfl ?_
          refine V_aload_n Y.1 2 dX6_readCommand_110 (rfl : _ = 111) rfl rfl ?_
          refine V_get Y.1 fi_X6_205 hM.1 rfl dX6_readCommand_111 (rfl : _ = 114) ?_
          refine V_nm (v := nI 1) rfl ?_
          refine V_if_eq Y.1 (tgt := 121) dX6_readCommand_114 (by decide) (rfl : _ = 117) (fun c_n => absurd c_n (by decide)) (fun _ => ?_)
          refine V_iconst Y.1 (v := 0) dX6_readCommand_117 (rfl : _ = 118) (by decide) ?_
          refine V_goto Y.1 (tgt := 122) dX6_readCommand_118 (by decide) ?_
          refine V_iadd Y.1 dX6_readCommand_122 (rfl : _ = 123) ?_
          refine V_nm (v := nI a1) (Int32.add_zero _) ?_
          refine V_put Y.1 fi_X6_198 fw_X6 rfl rfl hM.1 (Or.inl ⟨by omega, by omega⟩) rfl rfl (Nat.le_of_ble_eq_true rfl) dX6_readCommand_123 (rfl : _ = 126) (fun H123_537 h_new o_123 => ?_)
          have hM := hM.f11 o_123 h_new
          have hg := hg.put o_123 (by omega)
          clear h_new
          have hM := Rs.d11 (a1 := a1) hM
          refine V_goto Y.1 (tgt := 259) dX6_readCommand_126 (by decide) ?_
          exact V_retV Y.1 dX6_readCommand_259 (Nat.le_of_ble_eq_true rfl) (Nat.le_of_ble_eq_true rfl) (Rs.cmd hM (by unfold q_cmd; rw [if_neg (not_not_intro rfl)]; first | (simp only [hkd, hwd, hy, eq_true c_40, eq_false c76, eq_true c_62, if_true, if_false, not_true, not_false_iff, reduceIte] <;> rfl) | (simp only [hkd, hwd, hy, eq_true c_40, eq_false c76, eq_false c_62, if_true, if_false, not_true, not_false_iff, reduceIte] <;> rfl) | (simp only [hkd, hwd, hy, eq_true c_40, eq_true c76, eq_true c_62, if_true, if_false, not_true, not_false_iff, reduceIte] <;> rfl) | (simp only [hkd, hwd, hy, eq_true c_40, eq_true c76, eq_false c_62, eq_true c_94, if_true, if_false, not_true, not_false_iff, reduceIte] <;> rfl) | (simp only [hkd, hwd, hy, eq_true c_40, eq_true c76, eq_false c_62, eq_false c_94, if_true, if_false, not_true, not_false_iff, reduceIte] <;> rfl) | (simp only [hkd, hwd, hy, eq_false c_40, eq_true c_132, hm, if_true, if_false, not_true, not_false_iff, reduceIte] <;> rfl) | (simp only [hkd, hwd, hy, eq_false c_40, eq_false c_132, eq_false c218, hm, hy2, hr, if_true, if_false, not_true, not_false_iff, reduceIte] <;> rfl) | (simp only [hkd, hwd, hy, eq_false c_40, eq_false c_132, eq_true c218, hm, hy2, hr, if_true, if_false, not_true, not_false_iff, reduceIte] <;> rfl)))
        · have c76 : w1 = 0 := Decidable.byContradiction fun q => absurd c_76 (nI_ne0 (by omega) (by omega))
          have c62 := c_62
          refine V_aload_n Y.1 2 dX6_readCommand_79 (rfl : _ = 80) rfl rfl ?_
          refine V_cP Y (rV Y (c_X6_behind l D kA _ o F _ _ _ _ _ _ _ w1 a1 (n + 1) len hM hl hlen yl.2.2 yl.1) mi_X6_behind vi_X6_209 rfl hM.1 rfl rfl (Nat.le_of_ble_eq_true rfl) ⟨Nat.le_of_ble_eq_true rfl, Nat.le_of_ble_eq_true rfl⟩ (Nat.le_of_ble_eq_true rfl) (Nat.le_of_ble_eq_true rfl) dX6_readCommand_80) (rfl : _ = 83) ?_
          refine V_bipush Y.1 (v := 114) dX6_readCommand_83 (rfl : _ = 85) (by decide) ?_
          refine V_icmp_eq Y.1 (tgt := 101) dX6_readCommand_85 (by decide) (rfl : _ = 88) (fun c_n => absurd c_n c_62) (fun _ => ?_)
          refine V_aload_n Y.1 2 dX6_readCommand_88 (rfl : _ = 89) rfl rfl ?_
          refine V_cP Y (rV Y (c_X6_behind l D kA _ o F _ _ _ _ _ _ _ w1 a1 (n + 1) len hM hl hlen yl.2.2 yl.1) mi_X6_behind vi_X6_209 rfl hM.1 rfl rfl (Nat.le_of_ble_eq_true rfl) ⟨Nat.le_of_ble_eq_true rfl, Nat.le_of_ble_eq_true rfl⟩ (Nat.le_of_ble_eq_true rfl) (Nat.le_of_ble_eq_true rfl) dX6_readCommand_89) (rfl : _ = 92) ?_
          refine V_bipush Y.1 (v := 102) dX6_readCommand_92 (rfl : _ = 94) (by decide) ?_
          refine V_icmp_eq Y.1 (tgt := 101) dX6_readCommand_94 (by decide) (rfl : _ = 97) (fun c_94 => ?_) (fun c_94 => ?_)
          · refine V_iconst Y.1 (v := 0) dX6_readCommand_101 (rfl : _ = 102) (by decide) ?_
            refine V_put Y.1 fi_X6_205 fw_X6 rfl rfl hM.1 (Or.inl ⟨by omega, by omega⟩) rfl rfl (Nat.le_of_ble_eq_true rfl) dX6_readCommand_102 (rfl : _ = 105) (fun H102_555 h_new o_102 => ?_)
            have hM := hM.f12 o_102 h_new
            have hg := hg.put o_102 (by omega)
            clear h_new
            have hM := Rs.d12 (w1 := 0) hM
            refine V_aload_n Y.1 2 dX6_readCommand_105 (rfl : _ = 106) rfl rfl ?_
            refine V_dup Y.1 dX6_readCommand_106 (rfl : _ = 107) rfl ?_
            refine V_get Y.1 fi_X6_198 hM.1 rfl dX6_readCommand_107 (rfl : _ = 110) ?_
            refine V_nm (v := nI a1) rfl ?_
            refine V_aload_n Y.1 2 dX6_readCommand_110 (rfl : _ = 111) rfl rfl ?_
            refine V_get Y.1 fi_X6_205 hM.1 rfl dX6_readCommand_111 (rfl : _ = 114) ?_
            refine V_nm (v := nI 0) rfl ?_
            refine V_if_eq Y.1 (tgt := 121) dX6_readCommand_114 (by decide) (rfl : _ = 117) (fun _ => ?_) (fun c_n => absurd rfl c_n)
            refine V_iconst Y.1 (v := 1) dX6_readCommand_121 (rfl : _ = 122) (by decide) ?_
            refine V_iadd Y.1 dX6_readCommand_122 (rfl : _ = 123) ?_
            refine V_nm (v := nI (a1 + 1)) (nI_1 _) ?_
            refine V_put Y.1 fi_X6_198 fw_X6 rfl rfl hM.1 (Or.inl ⟨by omega, by omega⟩) rfl rfl (Nat.le_of_ble_eq_true rfl) dX6_readCommand_123 (rfl : _ = 126) (fun H123_571 h_new o_123 => ?_)
            have hM := hM.f11 o_123 h_new
            have hg := hg.put o_123 (by omega)
            clear h_new
            have hM := Rs.d11 (a1 := a1 + 1) hM
            refine V_goto Y.1 (tgt := 259) dX6_readCommand_126 (by decide) ?_
            exact V_retV Y.1 dX6_readCommand_259 (Nat.le_of_ble_eq_true rfl) (Nat.le_of_ble_eq_true rfl) (Rs.cmd hM (by unfold q_cmd; rw [if_neg (not_not_intro rfl)]; first | (simp only [hkd, hwd, hy, eq_true c_40, eq_false c76, eq_true c_62, if_true, if_false, not_true, not_false_iff, reduceIte] <;> rfl) | (simp only [hkd, hwd, hy, eq_true c_40, eq_false c76, eq_false c_62, if_true, if_false, not_true, not_false_iff, reduceIte] <;> rfl) | (simp only [hkd, hwd, hy, eq_true c_40, eq_true c76, eq_true c_62, if_true, if_false, not_true, not_false_iff, reduceIte] <;> rfl) | (simp only [hkd, hwd, hy, eq_true c_40, eq_true c76, eq_false c_62, eq_true c_94, if_true, if_false, not_true, not_false_iff, reduceIte] <;> rfl) | (simp only [hkd, hwd, hy, eq_true c_40, eq_true c76, eq_false c_62, eq_false c_94, if_true, if_false, not_true, not_false_iff, reduceIte] <;> rfl) | (simp only [hkd, hwd, hy, eq_false c_40, eq_true c_132, hm, if_true, if_false, not_true, not_false_iff, reduceIte] <;> rfl) | (simp only [hkd, hwd, hy, eq_false c_40, eq_false c_132, eq_false c218, hm, hy2, hr, if_true, if_false, not_true, not_false_iff, reduceIte] <;> rfl) | (simp only [hkd, hwd, hy, eq_false c_40, eq_false c_132, eq_true c218, hm, hy2, hr, if_true, if_false, not_true, not_false_iff, reduceIte] <;> rfl)))
          · refine V_iconst Y.1 (v := 1) dX6_readCommand_97 (rfl : _ = 98) (by decide) ?_
            refine V_goto Y.1 (tgt := 102) dX6_readCommand_98 (by decide) ?_
            refine V_put Y.1 fi_X6_205 fw_X6 rfl rfl hM.1 (Or.inl ⟨by omega, by omega⟩) rfl rfl (Nat.le_of_ble_eq_true rfl) dX6_readCommand_102 (rfl : _ = 105) (fun H102_580 h_new o_102 => ?_)
            have hM := hM.f12 o_102 h_new
            have hg := hg.put o_102 (by omega)
            clear h_new
            have hM := Rs.d12 (w1 := 1) hM
            refine V_aload_n Y.1 2 dX6_readCommand_105 (rfl : _ = 106) rfl rfl ?_
            refine V_dup Y.1 dX6_readCommand_106 (rfl : _ = 107) rfl ?_
            refine V_get Y.1 fi_X6_198 hM.1 rfl dX6_readCommand_107 (rfl : _ = 110) ?_
            refine V_nm (v := nI a1) rfl ?_
            refine V_aload_n Y.1 2 dX6_readCommand_110 (rfl : _ = 111) rfl rfl ?_
            refine V_get Y.1 fi_X6_205 hM.1 rfl dX6_readCommand_111 (rfl : _ = 114) ?_
            refine V_nm (v := nI 1) rfl ?_
            refine V_if_eq Y.1 (tgt := 121) dX6_readCommand_114 (by decide) (rfl : _ = 117) (fun c_n => absurd c_n (by decide)) (fun _ => ?_)
            refine V_iconst Y.1 (v := 0) dX6_readCommand_117 (rfl : _ = 118) (by decide) ?_
            refine V_goto Y.1 (tgt := 122) dX6_readCommand_118 (by decide) ?_
            refine V_iadd Y.1 dX6_readCommand_122 (rfl : _ = 123) ?_
            refine V_nm (v := nI a1) (Int32.add_zero _) ?_
            refine V_put Y.1 fi_X6_198 fw_X6 rfl rfl hM.1 (Or.inl ⟨by omega, by omega⟩) rfl rfl (Nat.le_of_ble_eq_true rfl) dX6_readCommand_123 (rfl : _ = 126) (fun H123_597 h_new o_123 => ?_)
            have hM := hM.f11 o_123 h_new
            have hg := hg.put o_123 (by omega)
            clear h_new
            have hM := Rs.d11 (a1 := a1) hM
            refine V_goto Y.1 (tgt := 259) dX6_readCommand_126 (by decide) ?_
            exact V_retV Y.1 dX6_readCommand_259 (Nat.le_of_ble_eq_true rfl) (Nat.le_of_ble_eq_true rfl) (Rs.cmd hM (by unfold q_cmd; rw [if_neg (not_not_intro rfl)]; first | (simp only [hkd, hwd, hy, eq_true c_40, eq_false c76, eq_true c_62, if_true, if_false, not_true, not_false_iff, reduceIte] <;> rfl) | (simp only [hkd, hwd, hy, eq_true c_40, eq_false c76, eq_false c_62, if_true, if_false, not_true, not_false_iff, reduceIte] <;> rfl) | (simp only [hkd, hwd, hy, eq_true c_40, eq_true c76, eq_true c_62, if_true, if_false, not_true, not_false_iff, reduceIte] <;> rfl) | (simp only [hkd, hwd, hy, eq_true c_40, eq_true c76, eq_false c_62, eq_true c_94, if_true, if_false, not_true, not_false_iff, reduceIte] <;> rfl) | (simp only [hkd, hwd, hy, eq_true c_40, eq_true c76, eq_false c_62, eq_false c_94, if_true, if_false, not_true, not_false_iff, reduceIte] <;> rfl) | (simp only [hkd, hwd, hy, eq_false c_40, eq_true c_132, hm, if_true, if_false, not_true, not_false_iff, reduceIte] <;> rfl) | (simp only [hkd, hwd, hy, eq_false c_40, eq_false c_132, eq_false c218, hm, hy2, hr, if_true, if_false, not_true, not_false_iff, reduceIte] <;> rfl) | (simp only [hkd, hwd, hy, eq_false c_40, eq_false c_132, eq_true c218, hm, hy2, hr, if_true, if_false, not_true, not_false_iff, reduceIte] <;> rfl)))
      · refine V_iconst Y.1 (v := 1) dX6_readCommand_65 (rfl : _ = 66) (by decide) ?_
        refine V_goto Y.1 (tgt := 70) dX6_readCommand_66 (by decide) ?_
        refine V_iast Y.1 hM.2.2.2.2.2.2.2 (Or.inl ⟨by omega, by omega⟩) (vp_in_nI (by omega) (by omega)) dX6_readCommand_70 (rfl : _ = 71) (fun H70_606 h_new o_70 => ?_)
        rw [nI_clamp (by omega)] at h_new
        have hM := hM.a7 o_70 h_new
        have hg := hg.put o_70 (by omega)
        clear h_new
        refine V_aload_n Y.1 2 dX6_readCommand_71 (rfl : _ = 72) rfl rfl ?_
        refine V_aload_n Y.1 2 dX6_readCommand_72 (rfl : _ = 73) rfl rfl ?_
        refine V_get Y.1 fi_X6_205 hM.1 rfl dX6_readCommand_73 (rfl : _ = 76) ?_
        refine V_nm (v := nI w1) rfl ?_
        refine V_if_ne Y.1 (tgt := 97) dX6_readCommand_76 (by decide) (rfl : _ = 79) (fun c_76 => ?_) (fun c_76 => ?_)
        · have c76 : ¬ w1 = 0 := fun q => c_76 (by rw [q]; rfl)
          refine V_iconst Y.1 (v := 1) dX6_readCommand_97 (rfl : _ = 98) (by decide) ?_
          refine V_goto Y.1 (tgt := 102) dX6_readCommand_98 (by decide) ?_
          refine V_put Y.1 fi_X6_205 fw_X6 rfl rfl hM.1 (Or.inl ⟨by omega, by omega⟩) rfl rfl (Nat.le_of_ble_eq_true rfl) dX6_readCommand_102 (rfl : _ = 105) (fun H102_619 h_new o_102 => ?_)
          have hM := hM.f12 o_102 h_new
          have hg := hg.put o_102 (by omega)
          clear h_new
          have hM := Rs.d12 (w1 := 1) hM
          refine V_aload_n Y.1 2 dX6_readCommand_105 (rfl : _ = 106) rfl rfl ?_
          refine V_dup Y.1 dX6_readCommand_106 (rfl : _ = 107) rfl ?_
          refine V_get Y.1 fi_X6_198 hM.1 rfl dX6_readCommand_107 (rfl : _ = 110) ?_
          refine V_nm (v := nI a1) rfl ?_
          refine V_aload_n Y.1 2 dX6_readCommand_110 (rfl : _ = 111) rfl rfl ?_
          refine V_get Y.1 fi_X6_205 hM.1 rfl dX6_readCommand_111 (rfl : _ = 114) ?_
          refine V_nm (v := nI 1) rfl ?_
          refine V_if_eq Y.1 (tgt := 121) dX6_readCommand_114 (by decide) (rfl : _ = 117) (fun c_n => absurd c_n (by decide)) (fun _ => ?_)
          refine V_iconst Y.1 (v := 0) dX6_readCommand_117 (rfl : _ = 118) (by decide) ?_
          refine V_goto Y.1 (tgt := 122) dX6_readCommand_118 (by decide) ?_
          refine V_iadd Y.1 dX6_readCommand_122 (rfl : _ = 123) ?_
          refine V_nm (v := nI a1) (Int32.add_zero _) ?_
          refine V_put Y.1 fi_X6_198 fw_X6 rfl rfl hM.1 (Or.inl ⟨by omega, by omega⟩) rfl rfl (Nat.le_of_ble_eq_true rfl) dX6_readCommand_123 (rfl : _ = 126) (fun H123_636 h_new o_123 => ?_)
          have hM := hM.f11 o_123 h_new
          have hg := hg.put o_123 (by omega)
          clear h_new
          have hM := Rs.d11 (a1 := a1) hM
          refine V_goto Y.1 (tgt := 259) dX6_readCommand_126 (by decide) ?_
          exact V_retV Y.1 dX6_readCommand_259 (Nat.le_of_ble_eq_true rfl) (Nat.le_of_ble_eq_true rfl) (Rs.cmd hM (by unfold q_cmd; rw [if_neg (not_not_intro rfl)]; first | (simp only [hkd, hwd, hy, eq_true c_40, eq_false c76, eq_true c_62, if_true, if_false, not_true, not_false_iff, reduceIte] <;> rfl) | (simp only [hkd, hwd, hy, eq_true c_40, eq_false c76, eq_false c_62, if_true, if_false, not_true, not_false_iff, reduceIte] <;> rfl) | (simp only [hkd, hwd, hy, eq_true c_40, eq_true c76, eq_true c_62, if_true, if_false, not_true, not_false_iff, reduceIte] <;> rfl) | (simp only [hkd, hwd, hy, eq_true c_40, eq_true c76, eq_false c_62, eq_true c_94, if_true, if_false, not_true, not_false_iff, reduceIte] <;> rfl) | (simp only [hkd, hwd, hy, eq_true c_40, eq_true c76, eq_false c_62, eq_false c_94, if_true, if_false, not_true, not_false_iff, reduceIte] <;> rfl) | (simp only [hkd, hwd, hy, eq_false c_40, eq_true c_132, hm, if_true, if_false, not_true, not_false_iff, reduceIte] <;> rfl) | (simp only [hkd, hwd, hy, eq_false c_40, eq_false c_132, eq_false c218, hm, hy2, hr, if_true, if_false, not_true, not_false_iff, reduceIte] <;> rfl) | (simp only [hkd, hwd, hy, eq_false c_40, eq_false c_132, eq_true c218, hm, hy2, hr, if_true, if_false, not_true, not_false_iff, reduceIte] <;> rfl)))
        · have c76 : w1 = 0 := Decidable.byContradiction fun q => absurd c_76 (nI_ne0 (by omega) (by omega))
          have c62 := c_62
          refine V_aload_n Y.1 2 dX6_readCommand_79 (rfl : _ = 80) rfl rfl ?_
          refine V_cP Y (rV Y (c_X6_behind l D kA _ o F _ _ _ _ _ _ _ w1 a1 (n + 1) len hM hl hlen yl.2.2 yl.1) mi_X6_behind vi_X6_209 rfl hM.1 rfl rfl (Nat.le_of_ble_eq_true rfl) ⟨Nat.le_of_ble_eq_true rfl, Nat.le_of_ble_eq_true rfl⟩ (Nat.le_of_ble_eq_true rfl) (Nat.le_of_ble_eq_true rfl) dX6_readCommand_80) (rfl : _ = 83) ?_
          refine V_bipush Y.1 (v := 114) dX6_readCommand_83 (rfl : _ = 85) (by decide) ?_
          refine V_icmp_eq Y.1 (tgt := 101) dX6_readCommand_85 (by decide) (rfl : _ = 88) (fun _ => ?_) (fun c_n => absurd c_62 c_n)
          refine V_iconst Y.1 (v := 0) dX6_readCommand_101 (rfl : _ = 102) (by decide) ?_
          refine V_put Y.1 fi_X6_205 fw_X6 rfl rfl hM.1 (Or.inl ⟨by omega, by omega⟩) rfl rfl (Nat.le_of_ble_eq_true rfl) dX6_readCommand_102 (rfl : _ = 105) (fun H102_650 h_new o_102 => ?_)
          have hM := hM.f12 o_102 h_new
          have hg := hg.put o_102 (by omega)
          clear h_new
          have hM := Rs.d12 (w1 := 0) hM
          refine V_aload_n Y.1 2 dX6_readCommand_105 (rfl : _ = 106) rfl rfl ?_
          refine V_dup Y.1 dX6_readCommand_106 (rfl : _ = 107) rfl ?_
          refine V_get Y.1 fi_X6_198 hM.1 rfl dX6_readCommand_107 (rfl : _ = 110) ?_
          refine V_nm (v := nI a1) rfl ?_
          refine V_aload_n Y.1 2 dX6_readCommand_110 (rfl : _ = 111) rfl rfl ?_
          refine V_get Y.1 fi_X6_205 hM.1 rfl dX6_readCommand_111 (rfl : _ = 114) ?_
          refine V_nm (v := nI 0) rfl ?_
          refine V_if_eq Y.1 (tgt := 121) dX6_readCommand_114 (by decide) (rfl : _ = 117) (fun _ => ?_) (fun c_n => absurd rfl c_n)
          refine V_iconst Y.1 (v := 1) dX6_readCommand_121 (rfl : _ = 122) (by decide) ?_
          refine V_iadd Y.1 dX6_readCommand_122 (rfl : _ = 123) ?_
          refine V_nm (v := nI (a1 + 1)) (nI_1 _) ?_
          refine V_put Y.1 fi_X6_198 fw_X6 rfl rfl hM.1 (Or.inl ⟨by omega, by omega⟩) rfl rfl (Nat.le_of_ble_eq_true rfl) dX6_readCommand_123 (rfl : _ = 126) (fun H123_666 h_new o_123 => ?_)
          have hM := hM.f11 o_123 h_new
          have hg := hg.put o_123 (by omega)
          clear h_new
          have hM := Rs.d11 (a1 := a1 + 1) hM
          refine V_goto Y.1 (tgt := 259) dX6_readCommand_126 (by decide) ?_
          exact V_retV Y.1 dX6_readCommand_259 (Nat.le_of_ble_eq_true rfl) (Nat.le_of_ble_eq_true rfl) (Rs.cmd hM (by unfold q_cmd; rw [if_neg (not_not_intro rfl)]; first | (simp only [hkd, hwd, hy, eq_true c_40, eq_false c76, eq_true c_62, if_true, if_false, not_true, not_false_iff, reduceIte] <;> rfl) | (simp only [hkd, hwd, hy, eq_true c_40, eq_false c76, eq_false c_62, if_true, if_false, not_true, not_false_iff, reduceIte] <;> rfl) | (simp only [hkd, hwd, hy, eq_true c_40, eq_true c76, eq_true c_62, if_true, if_false, not_true, not_false_iff, reduceIte] <;> rfl) | (simp only [hkd, hwd, hy, eq_true c_40, eq_true c76, eq_false c_62, eq_true c_94, if_true, if_false, not_true, not_false_iff, reduceIte] <;> rfl) | (simp only [hkd, hwd, hy, eq_true c_40, eq_true c76, eq_false c_62, eq_false c_94, if_true, if_false, not_true, not_false_iff, reduceIte] <;> rfl) | (simp only [hkd, hwd, hy, eq_false c_40, eq_true c_132, hm, if_true, if_false, not_true, not_false_iff, reduceIte] <;> rfl) | (simp only [hkd, hwd, hy, eq_false c_40, eq_false c_132, eq_false c218, hm, hy2, hr, if_true, if_false, not_true, not_false_iff, reduceIte] <;> rfl) | (simp only [hkd, hwd, hy, eq_false c_40, eq_false c_132, eq_true c218, hm, hy2, hr, if_true, if_false, not_true, not_false_iff, reduceIte] <;> rfl)))
  · have c0 : ¬ w = 0 := fun q => c_4 (by rw [q]; rfl)
    exact V_retV Y.1 dX6_readCommand_7 (Nat.le_of_ble_eq_true rfl) (Nat.le_of_ble_eq_true rfl) (Rs.cmd hM (by unfold q_cmd; rw [if_pos c0]))

