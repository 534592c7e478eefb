/-! The object that a drawing makes. -/
set_option maxRecDepth 100000 in
set_option maxHeartbeats 4000000 in
theorem c_L_drawn (l : Launch) (D : va_G) (kA : Nat → ClassId) (Hs : Heap) (σ : SG) (sa N : Nat) (f : Nat → Int32) (H0 : Heap) (hg : Ag Hs H0)  (hnt : l.stackTraces = false) (hN : N < 2 ^ 31) (hH : H0.size = Hs.size) : CtA l D kA Hs σ sa N f yL_drawn cL_drawn 9 (some (.object "MetroFares")) 12 210 600 3600 H0 [.ref sa] (nof) (pR fun r H => ∃ M s n t q u p, q ≤ 60 ∧ Jc M n q ∧ Lw D kA Hs H r M s n t q u p 0 (fun _ => 0) 0 (fun _ => False)) := by
  refine CtA.of mi_L_drawn (Nat.le_of_ble_eq_true rfl) (ls0 := [(0, _)]) rfl hg (fun _ z => z.elim) ?_
  intro Pp Ee Ss Mm Ar Bl Me Cc Z hsH hXs hsa
  have Y := Z.1
  refine V_new Y.1 (ci := 9) (fs := [.null, .null, .null, .null, .null, .null, .null, .int 0, .int 0, .int 0, .int 0]) rfl in_X5 tyX5_ok cl_L_9 inst_X5 ini_X5 (by decide) (by show _ ≤ 600; omega) (by show _ ≤ 3600; omega) dL_drawn_0 (rfl : _ = 3) (fun H0_0 q_0 eq_0 z_0 h_new o_0 => ?_)
  have hx := h_new
  have hg1 := hg.keep o_0 (fun _ z => z.elim)
  refine V_dup Y.1 dL_drawn_3 (rfl : _ = 4) rfl ?_
  refine V_cV Y (sI Z (c_X5_init l D kA Hs σ _ hg1 q_0 _ hx rfl (by omega) (by omega)) mi_X5_init ii_L_147 rfl rfl (Nat.le_of_ble_eq_true rfl) ⟨Nat.le_of_ble_eq_true rfl, Nat.le_of_ble_eq_true rfl⟩ (by show _ ≤ 600; omega) (by show _ ≤ 3600; omega) dL_drawn_4) (fun q z => Or.inr (by have := z.1; omega)) (rfl : _ = 7) (fun H4_4 hq_4 o_4 => ?_)
  obtain ⟨hF, z4⟩ := hq_4
  have hg2 := hg1.keep o_4 (fun q z => by have := z.1; omega)
  have hJ := lw_new hF hg2 (by omega)
  refine V_astore_n Y.1 (ls' := [(1, _), (0, _)]) dL_drawn_7 (rfl : _ = 8) rfl (by decide) rfl ?_
  refine V_aload_n Y.1 1 dL_drawn_8 (rfl : _ = 9) rfl rfl ?_
  refine V_iconst Y.1 (v := 0) dL_drawn_9 (rfl : _ = 10) (by decide) ?_
  refine V_cI Y (sA Z hXs (c_L_cell l D kA Hs σ sa N f _ hJ.ag 0 hN (by omega)) mi_L_cell si_L_148 rfl rfl (Nat.le_of_ble_eq_true rfl) ⟨Nat.le_of_ble_eq_true rfl, Nat.le_of_ble_eq_true rfl⟩ (by show _ ≤ 600; omega) (by show _ ≤ 3600; omega) dL_drawn_10) (fun _ z => z.elim) (rfl : _ = 13) (fun v_10 H10_11 hq_10 o_10 => ?_)
  obtain rfl := hq_10
  refine V_iconst Y.1 (v := 1) dL_drawn_13 (rfl : _ = 14) (by decide) ?_
  obtain ⟨c, hc31, ec⟩ := ush1 v_10
  refine V_iushr Y.1 dL_drawn_14 (rfl : _ = 15) rfl ?_
  refine V_nm (v := nI c) ec ?_
  refine V_istore_n Y.1 (ls' := [(2, _), (1, _), (0, _)]) dL_drawn_15 (rfl : _ = 16) rfl (by decide) rfl ?_
  refine V_iconst Y.1 (v := 1) dL_drawn_16 (rfl : _ = 17) (by decide) ?_
  refine V_iload_n Y.1 0 dL_drawn_17 (rfl : _ = 18) rfl rfl ?_
  refine V_iconst Y.1 (v := 5) dL_drawn_18 (rfl : _ = 19) (by decide) ?_
  refine V_irem Y.1 dL_drawn_19 (rfl : _ = 20) (by decide) ?_
  refine V_nm (v := nI (c % 5)) (pk_rem (d := 5) (by omega) (by omega) (by omega)) ?_
  obtain ⟨n, en, hn1, hn5⟩ : ∃ n, n = 1 + c % 5 ∧ 1 ≤ n ∧ n ≤ 5 := ⟨_, rfl, by omega, by omega⟩
  refine V_iadd Y.1 dL_drawn_20 (rfl : _ = 21) ?_
  refine V_nm (v := nI n) ((nI_add 1 _).trans (congrArg nI en.symm)) ?_
  refine V_istore_n Y.1 (ls' := [(3, _), (2, _), (1, _), (0, _)]) dL_drawn_21 (rfl : _ = 22) rfl (by decide) rfl ?_
  refine V_iconst Y.1 (v := 0) dL_drawn_22 (rfl : _ = 23) (by decide) ?_
  refine V_istore Y.1 (ls' := [(4, _), (3, _), (2, _), (1, _), (0, _)]) dL_drawn_23 (rfl : _ = 25) (by decide) rfl ?_
  have hq0 : Hs.size ≤ q_0 := by omega
  have loop2 : ∀ (r k : Nat) (H : Heap) (M : MS) (s : Nat → Int32) (t : Nat) (q : Nat) (u : Nat) (p : Nat → Nat → Int32), k + r = 14 → Lw D kA Hs H q_0 M s n t q u p 0 (fun _ => 0) 0 (fun _ => False) → Jc M n q → q ≤ 20 + k → V Pp l Ee (rmO 12 210 600 3600) Ss Mm Ar Bl Me Cc 9 (AA H0 (nof)) (QC Bl Ar Ss 600 3600 H0 (nof) (pR fun r H => ∃ M s n t q u p, q ≤ 60 ∧ Jc M n q ∧ Lw D kA Hs H r M s n t q u p 0 (fun _ => 0) 0 (fun _ => False))) H (440 + 9 * k) (3075 + 30 * k) 169 [(4, .int (nI k)), (3, .int (nI n)), (2, .int (nI c)), (1, .ref q_0), (0, .ref sa)] [] := by
    intro r
    induction r with
    | zero =>
      intro k H M s t q u p hr hJ hjc hq9
      obtain rfl : k = 14 := by omega
      refine V_iload Y.1 0 dL_drawn_169 (rfl : _ = 171) rfl ?_
      refine V_bipush Y.1 (v := 14) dL_drawn_171 (rfl : _ = 173) (by decide) ?_
      refine V_icmp_ge Y.1 (tgt := 333) dL_drawn_173 (by decide) (rfl : _ = 176) (fun _ => ?_) (fun c_n => absurd (by decide) c_n)
      refine V_aload_n Y.1 3 dL_drawn_333 (rfl : _ = 334) rfl rfl ?_
      exact V_retR Y.1 dL_drawn_334 (Or.inl ⟨_, rfl⟩) (by omega) (by omega) ⟨M, s, n, t, q, u, p, by omega, hjc, hJ⟩
    | succ r ih =>
      intro k H M s t q u p hr hJ hjc hq9
      have hk : k < 14 := by omega
      have k216 : ∀ (d w : Nat), d < 2 ^ 31 → w < 12 → V Pp l Ee (rmO 12 210 600 3600) Ss Mm Ar Bl Me Cc 9 (AA H0 (nof)) (QC Bl Ar Ss 600 3600 H0 (nof) (pR fun r H => ∃ M s n t q u p, q ≤ 60 ∧ Jc M n q ∧ Lw D kA Hs H r M s n t q u p 0 (fun _ => 0) 0 (fun _ => False))) H (440 + 9 * k) (3075 + 30 * k) 216 [(6, .int (nI (d / 16 % n))), (5, .int (nI d)), (4, .int (nI k)), (3, .int (nI n)), (2, .int (nI c)), (1, .ref q_0), (0, .ref sa)] [.int (nI w)] := by
        intro d w hd hw
        have hi := Nat.mod_lt (d / 16) (show 0 < n by omega)
        refine V_istore Y.1 (ls' := [(7, _), (6, _), (5, _), (4, _), (3, _), (2, _), (1, _), (0, _)]) dL_drawn_216 (rfl : _ = 218) (by decide) rfl ?_
        refine V_iload Y.1 2 dL_drawn_218 (rfl : _ = 220) rfl ?_
        refine V_bipush Y.1 (v := 8) dL_drawn_220 (rfl : _ = 222) (by decide) ?_
        refine V_irem Y.1 dL_drawn_222 (rfl : _ = 223) (by decide) ?_
        refine V_nm (v := nI (d % 8)) (pk_rem (d := 8) (by omega) (by omega) (by omega)) ?_
        refine V_iconst Y.1 (v := 3) dL_drawn_223 (rfl : _ = 224) (by decide) ?_
        refine V_icmp_ge Y.1 (tgt := 238) dL_drawn_224 (by decide) (rfl : _ = 227) (fun c_224 => ?_) (fun c_224 => ?_)
        · refine V_iload Y.1 2 dL_drawn_238 (rfl : _ = 240) rfl ?_
          refine V_bipush Y.1 (v := 8) dL_drawn_240 (rfl : _ = 242) (by decide) ?_
          refine V_irem Y.1 dL_drawn_242 (rfl : _ = 243) (by decide) ?_
          refine V_nm (v := nI (d % 8)) (pk_rem (d := 8) (by omega) (by omega) (by omega)) ?_
          refine V_bipush Y.1 (v := 6) dL_drawn_243 (rfl : _ = 245) (by decide) ?_
          refine V_icmp_ge Y.1 (tgt := 259) dL_drawn_245 (by decide) (rfl : _ = 248) (fun c_245 => ?_) (fun c_245 => ?_)
          · refine V_iload Y.1 2 dL_drawn_259 (rfl : _ = 261) rfl ?_
            refine V_bipush Y.1 (v := 8) dL_drawn_261 (rfl : _ = 263) (by decide) ?_
            refine V_irem Y.1 dL_drawn_263 (rfl : _ = 264) (by decide) ?_
            refine V_nm (v := nI (d % 8)) (pk_rem (d := 8) (by omega) (by omega) (by omega)) ?_
            refine V_bipush Y.1 (v := 6) dL_drawn_264 (rfl : _ = 266) (by decide) ?_
            refine V_icmp_ne Y.1 (tgt := 286) dL_drawn_266 (by decide) (rfl : _ = 269) (fun c_266 => ?_) (fun c_266 => ?_)
            · refine V_aload_n Y.1 6 dL_drawn_286 (rfl : _ = 287) rfl rfl ?_
              refine V_iconst Y.1 (v := 1) dL_drawn_287 (rfl : _ = 288) (by decide) ?_
              refine V_iload Y.1 2 dL_drawn_288 (rfl : _ = 290) rfl ?_
              refine V_bipush Y.1 (v := 12) dL_drawn_290 (rfl : _ = 292) (by decide) ?_
              refine V_iushr Y.1 dL_drawn_292 (rfl : _ = 293) rfl ?_
              refine V_nm (v := nI (d / 4096)) (pk_ushrN (by omega) 12 12 (by decide)) ?_
              refine V_iload Y.1 2 dL_drawn_293 (rfl : _ = 295) rfl ?_
              refine V_bipush Y.1 (v := 16) dL_drawn_295 (rfl : _ = 297) (by decide) ?_
              refine V_irem Y.1 dL_drawn_297 (rfl : _ = 298) (by decide) ?_
              refine V_nm (v := nI (d % 16)) (pk_rem (d := 16) (by omega) (by omega) (by omega)) ?_
              refine V_bipush Y.1 (v := 7) dL_drawn_298 (rfl : _ = 300) (by decide) ?_
              refine V_icmp_ne Y.1 (tgt := 309) dL_drawn_300 (by decide) (rfl : _ = 303) (fun c_300 => ?_) (fun c_300 => ?_)
              · refine V_sipush Y.1 (v := 200) dL_drawn_309 (rfl : _ = 312) (by decide) ?_
                refine V_irem Y.1 dL_drawn_312 (rfl : _ = 313) (by decide) ?_
                refine V_nm (v := nI (d / 4096 % 200)) (pk_rem (d := 200) (by omega) (by omega) (by omega)) ?_
                refine V_iadd Y.1 dL_drawn_313 (rfl : _ = 314) ?_
                refine V_nm (v := nI (1 + d / 4096 % 200)) (nI_add 1 _) ?_
                refine V_cI Y (sW Z (c_W_advance l D kA Hs σ _ hJ.ag q_0 M s n t q u p 0 (fun _ => 0) 0 (fun _ => False) (1 + d / 4096 % 200) hJ hnt (by omega) hjc (by omega) (by omega)) mh_L_advance si_L_167 rfl rfl (Nat.le_of_ble_eq_true rfl) ⟨Nat.le_of_ble_eq_true rfl, Nat.le_of_ble_eq_true rfl⟩ (by show _ ≤ 600; omega) (by show _ ≤ 3600; omega) dL_drawn_314) (fun q z => Or.inr (by have := z.1; omega)) (rfl : _ = 317) (fun v_314 H314_36 hq_314 o_314 => ?_)
                obtain ⟨hv9, M9, s9, t9, u9, p9, hJ9, hjc9⟩ := hq_314
                refine V_istore Y.1 (ls' := [(8, _), (7, _), (6, _), (5, _), (4, _), (3, _), (2, _), (1, _), (0, _)]) dL_drawn_317 (rfl : _ = 319) (by decide) rfl ?_
                refine V_iload Y.1 0 dL_drawn_319 (rfl : _ = 321) rfl ?_
                refine V_iconst Y.1 (v := -1) dL_drawn_321 (rfl : _ = 322) (by decide) ?_
                refine V_icmp_ne Y.1 (tgt := 327) dL_drawn_322 (by decide) (rfl : _ = 325) (fun _ => ?_) (fun c_n => absurd c_n hv9)
                refine V_iinc Y.1 (v := nI (k + 1)) (ls' := [(4, _), (8, _), (7, _), (6, _), (5, _), (3, _), (2, _), (1, _), (0, _)]) 4 dL_drawn_327 (rfl : _ = 330) rfl (nI_add _ 1) (by decide) rfl ?_
                refine V_goto Y.1 (tgt := 169) dL_drawn_330 (by decide) ?_
                exact V_forget (ls' := [(4, _), (3, _), (2, _), (1, _), (0, _)]) [0, 5, 6, 7, 8] rfl (V_widen (by omega) (by omega) (ih (k + 1) _ M9 s9 t9 (q + 1) u9 p9 (by omega) hJ9 hjc9 (by omega)))
              · refine V_sipush Y.1 (v := 2000) dL_drawn_303 (rfl : _ = 306) (by decide) ?_
                refine V_goto Y.1 (tgt := 312) dL_drawn_306 (by decide) ?_
                refine V_irem Y.1 dL_drawn_312 (rfl : _ = 313) (by decide) ?_
                refine V_nm (v := nI (d / 4096 % 2000)) (pk_rem (d := 2000) (by omega) (by omega) (by omega)) ?_
                refine V_iadd Y.1 dL_drawn_313 (rfl : _ = 314) ?_
                refine V_nm (v := nI (1 + d / 4096 % 2000)) (nI_add 1 _) ?_
                refine V_cI Y (sW Z (c_W_advance l D kA Hs σ _ hJ.ag q_0 M s n t q u p 0 (fun _ => 0) 0 (fun _ => False) (1 + d / 4096 % 2000) hJ hnt (by omega) hjc (by omega) (by omega)) mh_L_advance si_L_167 rfl rfl (Nat.le_of_ble_eq_true rfl) ⟨Nat.le_of_ble_eq_true rfl, Nat.le_of_ble_eq_true rfl⟩ (by show _ ≤ 600; omega) (by show _ ≤ 3600; omega) dL_drawn_314) (fun q z => Or.inr (by have := z.1; omega)) (rfl : _ = 317) (fun v_314 H314_51 hq_314 o_314 => ?_)
                obtain ⟨hv9, M9, s9, t9, u9, p9, hJ9, hjc9⟩ := hq_314
                refine V_istore Y.1 (ls' := [(8, _), (7, _), (6, _), (5, _), (4, _), (3, _), (2, _), (1, _), (0, _)]) dL_drawn_317 (rfl : _ = 319) (by decide) rfl ?_
                refine V_iload Y.1 0 dL_drawn_319 (rfl : _ = 321) rfl ?_
                refine V_iconst Y.1 (v := -1) dL_drawn_321 (rfl : _ = 322) (by decide) ?_
                refine V_icmp_ne Y.1 (tgt := 327) dL_drawn_322 (by decide) (rfl : _ = 325) (fun _ => ?_) (fun c_n => absurd c_n hv9)
                refine V_iinc Y.1 (v := nI (k + 1)) (ls' := [(4, _), (8, _), (7, _), (6, _), (5, _), (3, _), (2, _), (1, _), (0, _)]) 4 dL_drawn_327 (rfl : _ = 330) rfl (nI_add _ 1) (by decide) rfl ?_
                refine V_goto Y.1 (tgt := 169) dL_drawn_330 (by decide) ?_
                exact V_forget (ls' := [(4, _), (3, _), (2, _), (1, _), (0, _)]) [0, 5, 6, 7, 8] rfl (V_widen (by omega) (by omega) (ih (k + 1) _ M9 s9 t9 (q + 1) u9 p9 (by omega) hJ9 hjc9 (by omega)))
            · refine V_aload_n Y.1 6 dL_drawn_269 (rfl : _ = 270) rfl rfl ?_
              refine V_iconst Y.1 (v := 1) dL_drawn_270 (rfl : _ = 271) (by decide) ?_
              refine V_iload Y.1 2 dL_drawn_271 (rfl : _ = 273) rfl ?_
              refine V_bipush Y.1 (v := 12) dL_drawn_273 (rfl : _ = 275) (by decide) ?_
              refine V_iushr Y.1 dL_drawn_275 (rfl : _ = 276) rfl ?_
              refine V_nm (v := nI (d / 4096)) (pk_ushrN (by omega) 12 12 (by decide)) ?_
              refine V_bipush Y.1 (v := 20) dL_drawn_276 (rfl : _ = 278) (by decide) ?_
              refine V_irem Y.1 dL_drawn_278 (rfl : _ = 279) (by decide) ?_
              refine V_nm (v := nI (d / 4096 % 20)) (pk_rem (d := 20) (by omega) (by omega) (by omega)) ?_
              refine V_iadd Y.1 dL_drawn_279 (rfl : _ = 280) ?_
              refine V_nm (v := nI (1 + d / 4096 % 20)) (nI_add 1 _) ?_
              refine V_cI Y (sW Z (c_W_advance l D kA Hs σ _ hJ.ag q_0 M s n t q u p 0 (fun _ => 0) 0 (fun _ => False) (1 + d / 4096 % 20) hJ hnt (by omega) hjc (by omega) (by omega)) mh_L_advance si_L_167 rfl rfl (Nat.le_of_ble_eq_true rfl) ⟨Nat.le_of_ble_eq_true rfl, Nat.le_of_ble_eq_true rfl⟩ (by show _ ≤ 600; omega) (by show _ ≤ 3600; omega) dL_drawn_280) (fun q z => Or.inr (by have := z.1; omega)) (rfl : _ = 283) (fun v_280 H280_71 hq_280 o_280 => ?_)
              obtain ⟨hv9, M9, s9, t9, u9, p9, hJ9, hjc9⟩ := hq_280
              refine V_goto Y.1 (tgt := 317) dL_drawn_283 (by decide) ?_
              refine V_istore Y.1 (ls' := [(8, _), (7, _), (6, _), (5, _), (4, _), (3, _), (2, _), (1, _), (0, _)]) dL_drawn_317 (rfl : _ = 319) (by decide) rfl ?_
              refine V_iload Y.1 0 dL_drawn_319 (rfl : _ = 321) rfl ?_
              refine V_iconst Y.1 (v := -1) dL_drawn_321 (rfl : _ = 322) (by decide) ?_
              refine V_icmp_ne Y.1 (tgt := 327) dL_drawn_322 (by decide) (rfl : _ = 325) (fun _ => ?_) (fun c_n => absurd c_n hv9)
              refine V_iinc Y.1 (v := nI (k + 1)) (ls' := [(4, _), (8, _), (7, _), (6, _), (5, _), (3, _), (2, _), (1, _), (0, _)]) 4 dL_drawn_327 (rfl : _ = 330) rfl (nI_add _ 1) (by decide) rfl ?_
              refine V_goto Y.1 (tgt := 169) dL_drawn_330 (by decide) ?_
              exact V_forget (ls' := [(4, _), (3, _), (2, _), (1, _), (0, _)]) [0, 5, 6, 7, 8] rfl (V_widen (by omega) (by omega) (ih (k + 1) _ M9 s9 t9 (q + 1) u9 p9 (by omega) hJ9 hjc9 (by omega)))
          · refine V_aload_n Y.1 6 dL_drawn_248 (rfl : _ = 249) rfl rfl ?_
            refine V_iload Y.1 1 dL_drawn_249 (rfl : _ = 251) rfl ?_
            refine V_iload Y.1 0 dL_drawn_251 (rfl : _ = 253) rfl ?_
            refine V_cI Y (sW Z (c_W_tapOut l D kA Hs σ _ hJ.ag q_0 M s n t q u p 0 (fun _ => 0) 0 (fun _ => False) (d / 16 % n) w hJ hnt (by omega) hjc hi hw) mh_L_tapOut si_L_165 rfl rfl (Nat.le_of_ble_eq_true rfl) ⟨Nat.le_of_ble_eq_true rfl, Nat.le_of_ble_eq_true rfl⟩ (by show _ ≤ 600; omega) (by show _ ≤ 3600; omega) dL_drawn_253) (fun q z => Or.inr (by have := z.1; omega)) (rfl : _ = 256) (fun v_253 H253_84 hq_253 o_253 => ?_)
            obtain ⟨hv9, M9, s9, t9, u9, p9, hJ9, hjc9⟩ := hq_253
            refine V_goto Y.1 (tgt := 317) dL_drawn_256 (by decide) ?_
            refine V_istore Y.1 (ls' := [(8, _), (7, _), (6, _), (5, _), (4, _), (3, _), (2, _), (1, _), (0, _)]) dL_drawn_317 (rfl : _ = 319) (by decide) rfl ?_
            refine V_iload Y.1 0 dL_drawn_319 (rfl : _ = 321) rfl ?_
            refine V_iconst Y.1 (v := -1) dL_drawn_321 (rfl : _ = 322) (by decide) ?_
            refine V_icmp_ne Y.1 (tgt := 327) dL_drawn_322 (by decide) (rfl : _ = 325) (fun _ => ?_) (fun c_n => absurd c_n hv9)
            refine V_iinc Y.1 (v := nI (k + 1)) (ls' := [(4, _), (8, _), (7, _), (6, _), (5, _), (3, _), (2, _), (1, _), (0, _)]) 4 dL_drawn_327 (rfl : _ = 330) rfl (nI_add _ 1) (by decide) rfl ?_
            refine V_goto Y.1 (tgt := 169) dL_drawn_330 (by decide) ?_
            exact V_forget (ls' := [(4, _), (3, _), (2, _), (1, _), (0, _)]) [0, 5, 6, 7, 8] rfl (V_widen (by omega) (by omega) (ih (k + 1) _ M9 s9 t9 (q + 1) u9 p9 (by omega) hJ9 hjc9 (by omega)))
        · refine V_aload_n Y.1 6 dL_drawn_227 (rfl : _ = 228) rfl rfl ?_
          refine V_iload Y.1 1 dL_drawn_228 (rfl : _ = 230) rfl ?_
          refine V_iload Y.1 0 dL_drawn_230 (rfl : _ = 232) rfl ?_
          refine V_cI Y (sW Z (c_W_tapIn l D kA Hs σ _ hJ.ag q_0 M s n t q u p 0 (fun _ => 0) 0 (fun _ => False) (d / 16 % n) w hJ hnt (by omega) hjc hi hw) mh_L_tapIn si_L_163 rfl rfl (Nat.le_of_ble_eq_true rfl) ⟨Nat.le_of_ble_eq_true rfl, Nat.le_of_ble_eq_true rfl⟩ (by show _ ≤ 600; omega) (by show _ ≤ 3600; omega) dL_drawn_232) (fun q z => Or.inr (by have := z.1; omega)) (rfl : _ = 235) (fun v_232 H232_97 hq_232 o_232 => ?_)
          obtain ⟨hv9, M9, s9, t9, u9, p9, hJ9, hjc9⟩ := hq_232
          refine V_goto Y.1 (tgt := 317) dL_drawn_235 (by decide) ?_
          refine V_istore Y.1 (ls' := [(8, _), (7, _), (6, _), (5, _), (4, _), (3, _), (2, _), (1, _), (0, _)]) dL_drawn_317 (rfl : _ = 319) (by decide) rfl ?_
          refine V_iload Y.1 0 dL_drawn_319 (rfl : _ = 321) rfl ?_
          refine V_iconst Y.1 (v := -1) dL_drawn_321 (rfl : _ = 322) (by decide) ?_
          refine V_icmp_ne Y.1 (tgt := 327) dL_drawn_322 (by decide) (rfl : _ = 325) (fun _ => ?_) (fun c_n => absurd c_n hv9)
          refine V_iinc Y.1 (v := nI (k + 1)) (ls' := [(4, _), (8, _), (7, _), (6, _), (5, _), (3, _), (2, _), (1, _), (0, _)]) 4 dL_drawn_327 (rfl : _ = 330) rfl (nI_add _ 1) (by decide) rfl ?_
          refine V_goto Y.1 (tgt := 169) dL_drawn_330 (by decide) ?_
          exact V_forget (ls' := [(4, _), (3, _), (2, _), (1, _), (0, _)]) [0, 5, 6, 7, 8] rfl (V_widen (by omega) (by omega) (ih (k + 1) _ M9 s9 t9 (q + 1) u9 p9 (by omega) hJ9 hjc9 (by omega)))
      refine V_iload Y.1 0 dL_drawn_169 (rfl : _ = 171) rfl ?_
      refine V_bipush Y.1 (v := 14) dL_drawn_171 (rfl : _ = 173) (by decide) ?_
      refine V_icmp_ge Y.1 (tgt := 333) dL_drawn_173 (by decide) (rfl : _ = 176) (fun c_n => absurd c_n (fun q9 => absurd ((nI_leI (a := 14) (b := k) (by omega) (by omega)).mp q9) (by omega))) (fun _ => ?_)
      refine V_aload_n Y.1 4 dL_drawn_176 (rfl : _ = 177) rfl rfl ?_
      refine V_bipush Y.1 (v := 6) dL_drawn_177 (rfl : _ = 179) (by decide) ?_
      refine V_iload Y.1 0 dL_drawn_179 (rfl : _ = 181) rfl ?_
      refine V_iadd Y.1 dL_drawn_181 (rfl : _ = 182) ?_
      refine V_nm (v := nI (6 + k)) (nI_add 6 _) ?_
      refine V_cI Y (sA Z hXs (c_L_cell l D kA Hs σ sa N f _ hJ.ag (6 + k) hN (by omega)) mi_L_cell si_L_148 rfl rfl (Nat.le_of_ble_eq_true rfl) ⟨Nat.le_of_ble_eq_true rfl, Nat.le_of_ble_eq_true rfl⟩ (by show _ ≤ 600; omega) (by show _ ≤ 3600; omega) dL_drawn_182) (fun _ z => z.elim) (rfl : _ = 185) (fun v_182 H182_8 hq_182 o_182 => ?_)
      obtain rfl := hq_182
      refine V_iconst Y.1 (v := 1) dL_drawn_185 (rfl : _ = 186) (by decide) ?_
      obtain ⟨d, hd31, ed⟩ := ush1 v_182
      refine V_iushr Y.1 dL_drawn_186 (rfl : _ = 187) rfl ?_
      refine V_nm (v := nI d) ed ?_
      refine V_istore Y.1 (ls' := [(5, _), (4, _), (3, _), (2, _), (1, _), (0, _)]) dL_drawn_187 (rfl : _ = 189) (by decide) rfl ?_
      refine V_iload Y.1 0 dL_drawn_189 (rfl : _ = 191) rfl ?_
      refine V_iconst Y.1 (v := 4) dL_drawn_191 (rfl : _ = 192) (by decide) ?_
      refine V_iushr Y.1 dL_drawn_192 (rfl : _ = 193) rfl ?_
      refine V_nm (v := nI (d / 16)) (pk_ushrN (by omega) 4 4 (by decide)) ?_
      refine V_iload_n Y.1 2 dL_drawn_193 (rfl : _ = 194) rfl rfl ?_
      refine V_irem Y.1 dL_drawn_194 (rfl : _ = 195) (nI_ne0 (by omega) (by omega)) ?_
      refine V_nm (v := nI (d / 16 % n)) (pk_rem (d := n) (by omega) (by omega) (by omega)) ?_
      refine V_istore Y.1 (ls' := [(6, _), (5, _), (4, _), (3, _), (2, _), (1, _), (0, _)]) dL_drawn_195 (rfl : _ = 197) (by decide) rfl ?_
      refine V_iload Y.1 1 dL_drawn_197 (rfl : _ = 199) rfl ?_
      refine V_bipush Y.1 (v := 8) dL_drawn_199 (rfl : _ = 201) (by decide) ?_
      refine V_iushr Y.1 dL_drawn_201 (rfl : _ = 202) rfl ?_
      refine V_nm (v := nI (d / 256)) (pk_ushrN (by omega) 8 8 (by decide)) ?_
      refine V_iload Y.1 1 dL_drawn_202 (rfl : _ = 204) rfl ?_
      refine V_iconst Y.1 (v := 2) dL_drawn_204 (rfl : _ = 205) (by decide) ?_
      refine V_irem Y.1 dL_drawn_205 (rfl : _ = 206) (by decide) ?_
      refine V_nm (v := nI (d % 2)) (pk_rem (d := 2) (by omega) (by omega) (by omega)) ?_
      refine V_if_ne Y.1 (tgt := 213) dL_drawn_206 (by decide) (rfl : _ = 209) (fun c_206 => ?_) (fun c_206 => ?_)
      · refine V_bipush Y.1 (v := 12) dL_drawn_213 (rfl : _ = 215) (by decide) ?_
        refine V_irem Y.1 dL_drawn_215 (rfl : _ = 216) (by decide) ?_
        refine V_nm (v := nI (d / 256 % 12)) (pk_rem (d := 12) (by omega) (by omega) (by omega)) ?_
        exact k216 d (d / 256 % 12) hd31 (by omega)
      · refine V_iconst Y.1 (v := 4) dL_drawn_209 (rfl : _ = 210) (by decide) ?_
        refine V_goto Y.1 (tgt := 215) dL_drawn_210 (by decide) ?_
        refine V_irem Y.1 dL_drawn_215 (rfl : _ = 216) (by decide) ?_
        refine V_nm (v := nI (d / 256 % 4)) (pk_rem (d := 4) (by omega) (by omega) (by omega)) ?_
        exact k216 d (d / 256 % 4) hd31 (by omega)
  have k166 : ∀ (H : Heap) (M : MS) (s : Nat → Int32) (t : Nat) (q : Nat) (u : Nat) (p : Nat → Nat → Int32), Lw D kA Hs H q_0 M s n t q u p 0 (fun _ => 0) 0 (fun _ => False) → Jc M n q → q ≤ 20 → V Pp l Ee (rmO 12 210 600 3600) Ss Mm Ar Bl Me Cc 9 (AA H0 (nof)) (QC Bl Ar Ss 600 3600 H0 (nof) (pR fun r H => ∃ M s n t q u p, q ≤ 60 ∧ Jc M n q ∧ Lw D kA Hs H r M s n t q u p 0 (fun _ => 0) 0 (fun _ => False))) H 440 3075 166 [(4, .int (nI n)), (3, .int (nI n)), (2, .int (nI c)), (1, .ref q_0), (0, .ref sa)] [] := by
    intro H M s t q u p hJ hjc hq9
    refine V_iconst Y.1 (v := 0) dL_drawn_166 (rfl : _ = 167) (by decide) ?_
    refine V_istore Y.1 (ls' := [(4, _), (3, _), (2, _), (1, _), (0, _)]) dL_drawn_167 (rfl : _ = 169) (by decide) rfl ?_
    exact V_forget (ls' := [(4, _), (3, _), (2, _), (1, _), (0, _)]) [0, 1, 2, 3, 4] rfl (V_widen (by omega) (by omega) (loop2 14 0 H M s t q u p (by omega) hJ hjc (by omega)))
  have k135 : ∀ (H : Heap) (M : MS) (s : Nat → Int32) (t : Nat) (q : Nat) (u : Nat) (p : Nat → Nat → Int32), Lw D kA Hs H q_0 M s n t q u p 0 (fun _ => 0) 0 (fun _ => False) → Jc M n q → q ≤ 15 → V Pp l Ee (rmO 12 210 600 3600) Ss Mm Ar Bl Me Cc 9 (AA H0 (nof)) (QC Bl Ar Ss 600 3600 H0 (nof) (pR fun r H => ∃ M s n t q u p, q ≤ 60 ∧ Jc M n q ∧ Lw D kA Hs H r M s n t q u p 0 (fun _ => 0) 0 (fun _ => False))) H 430 3045 135 [(4, .int (nI n)), (3, .int (nI n)), (2, .int (nI c)), (1, .ref q_0), (0, .ref sa)] [] := by
    intro H M s t q u p hJ hjc hq9
    refine V_iload_n Y.1 2 dL_drawn_135 (rfl : _ = 136) rfl rfl ?_
    refine V_iconst Y.1 (v := 3) dL_drawn_136 (rfl : _ = 137) (by decide) ?_
    refine V_irem Y.1 dL_drawn_137 (rfl : _ = 138) (by decide) ?_
    refine V_nm (v := nI (c % 3)) (pk_rem (d := 3) (by omega) (by omega) (by omega)) ?_
    refine V_if_ne Y.1 (tgt := 166) dL_drawn_138 (by decide) (rfl : _ = 141) (fun c_138 => ?_) (fun c_138 => ?_)
    · exact V_forget (ls' := [(4, _), (3, _), (2, _), (1, _), (0, _)]) [0, 1, 2, 3, 4] rfl (V_widen (by omega) (by omega) (k166 _ M s t q u p hJ hjc (by omega)))
    · refine V_aload_n Y.1 3 dL_drawn_141 (rfl : _ = 142) rfl rfl ?_
      refine V_iload_n Y.1 2 dL_drawn_142 (rfl : _ = 143) rfl rfl ?_
      refine V_iconst Y.1 (v := 4) dL_drawn_143 (rfl : _ = 144) (by decide) ?_
      refine V_iushr Y.1 dL_drawn_144 (rfl : _ = 145) rfl ?_
      refine V_nm (v := nI (c / 16)) (pk_ushrN (by omega) 4 4 (by decide)) ?_
      refine V_bipush Y.1 (v := 12) dL_drawn_145 (rfl : _ = 147) (by decide) ?_
      refine V_irem Y.1 dL_drawn_147 (rfl : _ = 148) (by decide) ?_
      refine V_nm (v := nI (c / 16 % 12)) (pk_rem (d := 12) (by omega) (by omega) (by omega)) ?_
      refine V_iconst Y.1 (v := 1) dL_drawn_148 (rfl : _ = 149) (by decide) ?_
      refine V_iload_n Y.1 2 dL_drawn_149 (rfl : _ = 150) rfl rfl ?_
      refine V_bipush Y.1 (v := 8) dL_drawn_150 (rfl : _ = 152) (by decide) ?_
      refine V_iushr Y.1 dL_drawn_152 (rfl : _ = 153) rfl ?_
      refine V_nm (v := nI (c / 256)) (pk_ushrN (by omega) 8 8 (by decide)) ?_
      refine V_bipush Y.1 (v := 6) dL_drawn_153 (rfl : _ = 155) (by decide) ?_
      refine V_irem Y.1 dL_drawn_155 (rfl : _ = 156) (by decide) ?_
      refine V_nm (v := nI (c / 256 % 6)) (pk_rem (d := 6) (by omega) (by omega) (by omega)) ?_
      refine V_iadd Y.1 dL_drawn_156 (rfl : _ = 157) ?_
      refine V_nm (v := nI (1 + c / 256 % 6)) (nI_add 1 _) ?_
      refine V_cI Y (sW Z (c_W_setZone l D kA Hs σ _ hJ.ag q_0 M s n t q u p 0 (fun _ => 0) 0 (fun _ => False) (c / 16 % 12) (1 + c / 256 % 6) hJ hnt (by omega) hjc (by omega) (by omega) (by omega)) mh_L_setZone si_L_161 rfl rfl (Nat.le_of_ble_eq_true rfl) ⟨Nat.le_of_ble_eq_true rfl, Nat.le_of_ble_eq_true rfl⟩ (by show _ ≤ 600; omega) (by show _ ≤ 3600; omega) dL_drawn_157) (fun q z => Or.inr (by have := z.1; omega)) (rfl : _ = 160) (fun v_157 H157_24 hq_157 o_157 => ?_)
      obtain ⟨hv9, M9, s9, t9, u9, p9, hJ9, hjc9⟩ := hq_157
      refine V_iconst Y.1 (v := 1) dL_drawn_160 (rfl : _ = 161) (by decide) ?_
      refine V_icmp_ge Y.1 (tgt := 166) dL_drawn_161 (by decide) (rfl : _ = 164) (fun _ => ?_) (fun c_n => absurd (Int32.not_lt.mp hv9) c_n)
      exact V_forget (ls' := [(4, _), (3, _), (2, _), (1, _), (0, _)]) [0, 1, 2, 3, 4] rfl (V_widen (by omega) (by omega) (k166 _ M9 s9 t9 (q + 1) u9 p9 hJ9 hjc9 (by omega)))
  have k104 : ∀ (H : Heap) (M : MS) (s : Nat → Int32) (t : Nat) (q : Nat) (u : Nat) (p : Nat → Nat → Int32), Lw D kA Hs H q_0 M s n t q u p 0 (fun _ => 0) 0 (fun _ => False) → Jc M n q → q ≤ 10 → M.1 7 = 200 → V Pp l Ee (rmO 12 210 600 3600) Ss Mm Ar Bl Me Cc 9 (AA H0 (nof)) (QC Bl Ar Ss 600 3600 H0 (nof) (pR fun r H => ∃ M s n t q u p, q ≤ 60 ∧ Jc M n q ∧ Lw D kA Hs H r M s n t q u p 0 (fun _ => 0) 0 (fun _ => False))) H 420 3015 104 [(4, .int (nI n)), (3, .int (nI n)), (2, .int (nI c)), (1, .ref q_0), (0, .ref sa)] [] := by
    intro H M s t q u p hJ hjc hq9 h7
    refine V_iload_n Y.1 2 dL_drawn_104 (rfl : _ = 105) rfl rfl ?_
    refine V_bipush Y.1 (v := 7) dL_drawn_105 (rfl : _ = 107) (by decide) ?_
    refine V_irem Y.1 dL_drawn_107 (rfl : _ = 108) (by decide) ?_
    refine V_nm (v := nI (c % 7)) (pk_rem (d := 7) (by omega) (by omega) (by omega)) ?_
    refine V_if_ne Y.1 (tgt := 135) dL_drawn_108 (by decide) (rfl : _ = 111) (fun c_108 => ?_) (fun c_108 => ?_)
    · exact V_forget (ls' := [(4, _), (3, _), (2, _), (1, _), (0, _)]) [0, 1, 2, 3, 4] rfl (V_widen (by omega) (by omega) (k135 _ M s t q u p hJ hjc (by omega)))
    · refine V_aload_n Y.1 3 dL_drawn_111 (rfl : _ = 112) rfl rfl ?_
      refine V_iload_n Y.1 2 dL_drawn_112 (rfl : _ = 113) rfl rfl ?_
      refine V_iconst Y.1 (v := 3) dL_drawn_113 (rfl : _ = 114) (by decide) ?_
      refine V_iushr Y.1 dL_drawn_114 (rfl : _ = 115) rfl ?_
      refine V_nm (v := nI (c / 8)) (pk_ushrN (by omega) 3 3 (by decide)) ?_
      refine V_sipush Y.1 (v := 400) dL_drawn_115 (rfl : _ = 118) (by decide) ?_
      refine V_irem Y.1 dL_drawn_118 (rfl : _ = 119) (by decide) ?_
      refine V_nm (v := nI (c / 8 % 400)) (pk_rem (d := 400) (by omega) (by omega) (by omega)) ?_
      refine V_iload_n Y.1 2 dL_drawn_119 (rfl : _ = 120) rfl rfl ?_
      refine V_bipush Y.1 (v := 12) dL_drawn_120 (rfl : _ = 122) (by decide) ?_
      refine V_iushr Y.1 dL_drawn_122 (rfl : _ = 123) rfl ?_
      refine V_nm (v := nI (c / 4096)) (pk_ushrN (by omega) 12 12 (by decide)) ?_
      refine V_bipush Y.1 (v := 100) dL_drawn_123 (rfl : _ = 125) (by decide) ?_
      refine V_irem Y.1 dL_drawn_125 (rfl : _ = 126) (by decide) ?_
      refine V_nm (v := nI (c / 4096 % 100)) (pk_rem (d := 100) (by omega) (by omega) (by omega)) ?_
      refine V_cI Y (sW Z (c_W_setFares l D kA Hs σ _ hJ.ag q_0 M s n t q u p 0 (fun _ => 0) 0 (fun _ => False) (c / 8 % 400) (c / 4096 % 100) hJ hnt (by omega) hjc (by omega) (by omega)) mh_L_setFares si_L_159 rfl rfl (Nat.le_of_ble_eq_true rfl) ⟨Nat.le_of_ble_eq_true rfl, Nat.le_of_ble_eq_true rfl⟩ (by show _ ≤ 600; omega) (by show _ ≤ 3600; omega) dL_drawn_126) (fun q z => Or.inr (by have := z.1; omega)) (rfl : _ = 129) (fun v_126 H126_21 hq_126 o_126 => ?_)
      obtain ⟨rfl, M9, s9, t9, u9, p9, hJ9, hjc9⟩ := hq_126
      refine V_sipush Y.1 (v := 200) dL_drawn_129 (rfl : _ = 132) (by decide) ?_
      refine V_icmp_ne Y.1 (tgt := 164) dL_drawn_132 (by decide) (rfl : _ = 135) (fun c_n => absurd h7 c_n) (fun _ => ?_)
      exact V_forget (ls' := [(4, _), (3, _), (2, _), (1, _), (0, _)]) [0, 1, 2, 3, 4] rfl (V_widen (by omega) (by omega) (k135 _ M9 s9 t9 (q + 1) u9 p9 hJ9 hjc9 (by omega)))
  have loop1 : ∀ (r k : Nat) (H : Heap) (M : MS) (s : Nat → Int32) (t : Nat) (u : Nat) (p : Nat → Nat → Int32), k + r = n → Lw D kA Hs H q_0 M s k t (2 * k) u p 0 (fun _ => 0) 0 (fun _ => False) → Jc M k (2 * k) → M.1 7 = 200 → V Pp l Ee (rmO 12 210 600 3600) Ss Mm Ar Bl Me Cc 9 (AA H0 (nof)) (QC Bl Ar Ss 600 3600 H0 (nof) (pR fun r H => ∃ M s n t q u p, q ≤ 60 ∧ Jc M n q ∧ Lw D kA Hs H r M s n t q u p 0 (fun _ => 0) 0 (fun _ => False))) H (329 + 18 * k) (2711 + 60 * k) 25 [(4, .int (nI k)), (3, .int (nI n)), (2, .int (nI c)), (1, .ref q_0), (0, .ref sa)] [] := by
    intro r
    induction r with
    | zero =>
      intro k H M s t u p hr hJ hjc h7
      obtain rfl : n = k := by omega
      refine V_iload Y.1 0 dL_drawn_25 (rfl : _ = 27) rfl ?_
      refine V_iload_n Y.1 1 dL_drawn_27 (rfl : _ = 28) rfl rfl ?_
      refine V_icmp_ge Y.1 (tgt := 104) dL_drawn_28 (by decide) (rfl : _ = 31) (fun _ => ?_) (fun c_n => absurd (Int32.le_refl _) c_n)
      exact V_forget (ls' := [(4, _), (3, _), (2, _), (1, _), (0, _)]) [0, 1, 2, 3, 4] rfl (V_widen (by omega) (by omega) (k104 H M s t (2 * n) u p hJ hjc (by omega) h7))
    | succ r ih =>
      intro k H M s t u p hr hJ hjc h7
      have hk : k < n := by omega
      have k68 : ∀ (d : Nat) (x : Int32), d < 2 ^ 31 → (x = 0 ∨ x = 1) → V Pp l Ee (rmO 12 210 600 3600) Ss Mm Ar Bl Me Cc 9 (AA H0 (nof)) (QC Bl Ar Ss 600 3600 H0 (nof) (pR fun r H => ∃ M s n t q u p, q ≤ 60 ∧ Jc M n q ∧ Lw D kA Hs H r M s n t q u p 0 (fun _ => 0) 0 (fun _ => False))) H (329 + 18 * k) (2711 + 60 * k) 68 [(6, .int (nI (1 + d / 4 % 4000))), (5, .int (nI d)), (4, .int (nI k)), (3, .int (nI n)), (2, .int (nI c)), (1, .ref q_0), (0, .ref sa)] [.int x, .ref q_0] := by
        intro d x hd hx
        refine V_cI Y (sW Z (c_W_issue l D kA Hs σ _ hJ.ag q_0 M s k t (2 * k) u p 0 (fun _ => 0) 0 (fun _ => False) x hJ hnt (by omega) hjc hx (by omega)) mh_L_issue si_L_152 rfl rfl (Nat.le_of_ble_eq_true rfl) ⟨Nat.le_of_ble_eq_true rfl, Nat.le_of_ble_eq_true rfl⟩ (by show _ ≤ 600; omega) (by show _ ≤ 3600; omega) dL_drawn_68) (fun q z => Or.inr (by have := z.1; omega)) (rfl : _ = 71) (fun v_68 H68_0 hq_68 o_68 => ?_)
        obtain ⟨rfl, M1, s1, t1, u1, p1, hJ1, hjc1, e71, e01⟩ := hq_68
        refine V_iload Y.1 2 dL_drawn_71 (rfl : _ = 73) rfl ?_
        refine V_icmp_ne Y.1 (tgt := 96) dL_drawn_73 (by decide) (rfl : _ = 76) (fun c_n => absurd rfl c_n) (fun _ => ?_)
        refine V_iload Y.1 1 dL_drawn_76 (rfl : _ = 78) rfl ?_
        refine V_iconst Y.1 (v := 5) dL_drawn_78 (rfl : _ = 79) (by decide) ?_
        refine V_irem Y.1 dL_drawn_79 (rfl : _ = 80) (by decide) ?_
        refine V_nm (v := nI (d % 5)) (pk_rem (d := 5) (by omega) (by omega) (by omega)) ?_
        refine V_if_le Y.1 (tgt := 98) dL_drawn_80 (by decide) (rfl : _ = 83) (fun c_80 => ?_) (fun c_80 => ?_)
        · refine V_iinc Y.1 (v := nI (k + 1)) (ls' := [(4, _), (6, _), (5, _), (3, _), (2, _), (1, _), (0, _)]) 2 dL_drawn_98 (rfl : _ = 101) rfl (nI_add _ 1) (by decide) rfl ?_
          refine V_goto Y.1 (tgt := 25) dL_drawn_101 (by decide) ?_
          exact V_forget (ls' := [(4, _), (3, _), (2, _), (1, _), (0, _)]) [0, 3, 4, 5, 6] rfl (V_widen (by omega) (by omega) (ih (k + 1) _ M1 s1 t1 u1 p1 (by omega) (hJ1.more (by omega)) (hjc1.more (by omega)) (by first | (rw [e71]; exact h7) | (rw [e72, e71]; exact h7))))
        · refine V_aload_n Y.1 5 dL_drawn_83 (rfl : _ = 84) rfl rfl ?_
          refine V_iload Y.1 2 dL_drawn_84 (rfl : _ = 86) rfl ?_
          refine V_iload Y.1 0 dL_drawn_86 (rfl : _ = 88) rfl ?_
          refine V_cI Y (sW Z (c_W_load l D kA Hs σ _ hJ1.ag q_0 M1 s1 (k + 1) t1 (2 * k + 1) u1 p1 0 (fun _ => 0) 0 (fun _ => False) k (1 + d / 4 % 4000) hJ1 hnt (by omega) hjc1 (by omega) (by omega) (by omega) e01) mh_L_load si_L_156 rfl rfl (Nat.le_of_ble_eq_true rfl) ⟨Nat.le_of_ble_eq_true rfl, Nat.le_of_ble_eq_true rfl⟩ (by show _ ≤ 600; omega) (by show _ ≤ 3600; omega) dL_drawn_88) (fun q z => Or.inr (by have := z.1; omega)) (rfl : _ = 91) (fun v_88 H88_15 hq_88 o_88 => ?_)
          obtain ⟨rfl, M2, s2, t2, u2, p2, hJ2, hjc2, e72⟩ := hq_88
          refine V_iload Y.1 0 dL_drawn_91 (rfl : _ = 93) rfl ?_
          refine V_icmp_eq Y.1 (tgt := 98) dL_drawn_93 (by decide) (rfl : _ = 96) (fun _ => ?_) (fun c_n => absurd rfl c_n)
          refine V_iinc Y.1 (v := nI (k + 1)) (ls' := [(4, _), (6, _), (5, _), (3, _), (2, _), (1, _), (0, _)]) 2 dL_drawn_98 (rfl : _ = 101) rfl (nI_add _ 1) (by decide) rfl ?_
          refine V_goto Y.1 (tgt := 25) dL_drawn_101 (by decide) ?_
          exact V_forget (ls' := [(4, _), (3, _), (2, _), (1, _), (0, _)]) [0, 3, 4, 5, 6] rfl (V_widen (by omega) (by omega) (ih (k + 1) _ M2 s2 t2 u2 p2 (by omega) (hJ2.more (by omega)) (hjc2.more (by omega)) (by first | (rw [e71]; exact h7) | (rw [e72, e71]; exact h7))))
      refine V_iload Y.1 0 dL_drawn_25 (rfl : _ = 27) rfl ?_
      refine V_iload_n Y.1 1 dL_drawn_27 (rfl : _ = 28) rfl rfl ?_
      refine V_icmp_ge Y.1 (tgt := 104) dL_drawn_28 (by decide) (rfl : _ = 31) (fun c_n => absurd c_n (fun q9 => absurd ((nI_leI (a := n) (b := k) (by omega) (by omega)).mp q9) (by omega))) (fun _ => ?_)
      refine V_aload_n Y.1 4 dL_drawn_31 (rfl : _ = 32) rfl rfl ?_
      refine V_iconst Y.1 (v := 1) dL_drawn_32 (rfl : _ = 33) (by decide) ?_
      refine V_iload Y.1 0 dL_drawn_33 (rfl : _ = 35) rfl ?_
      refine V_iadd Y.1 dL_drawn_35 (rfl : _ = 36) ?_
      refine V_nm (v := nI (1 + k)) (nI_add 1 _) ?_
      refine V_cI Y (sA Z hXs (c_L_cell l D kA Hs σ sa N f _ hJ.ag (1 + k) hN (by omega)) mi_L_cell si_L_148 rfl rfl (Nat.le_of_ble_eq_true rfl) ⟨Nat.le_of_ble_eq_true rfl, Nat.le_of_ble_eq_true rfl⟩ (by show _ ≤ 600; omega) (by show _ ≤ 3600; omega) dL_drawn_36) (fun _ z => z.elim) (rfl : _ = 39) (fun v_36 H36_8 hq_36 o_36 => ?_)
      obtain rfl := hq_36
      refine V_iconst Y.1 (v := 1) dL_drawn_39 (rfl : _ = 40) (by decide) ?_
      obtain ⟨d, hd31, ed⟩ := ush1 v_36
      refine V_iushr Y.1 dL_drawn_40 (rfl : _ = 41) rfl ?_
      refine V_nm (v := nI d) ed ?_
      refine V_istore Y.1 (ls' := [(5, _), (4, _), (3, _), (2, _), (1, _), (0, _)]) dL_drawn_41 (rfl : _ = 43) (by decide) rfl ?_
      refine V_iconst Y.1 (v := 1) dL_drawn_43 (rfl : _ = 44) (by decide) ?_
      refine V_iload Y.1 0 dL_drawn_44 (rfl : _ = 46) rfl ?_
      refine V_iconst Y.1 (v := 2) dL_drawn_46 (rfl : _ = 47) (by decide) ?_
      refine V_iushr Y.1 dL_drawn_47 (rfl : _ = 48) rfl ?_
      refine V_nm (v := nI (d / 4)) (pk_ushrN (by omega) 2 2 (by decide)) ?_
      refine V_sipush Y.1 (v := 4000) dL_drawn_48 (rfl : _ = 51) (by decide) ?_
      refine V_irem Y.1 dL_drawn_51 (rfl : _ = 52) (by decide) ?_
      refine V_nm (v := nI (d / 4 % 4000)) (pk_rem (d := 4000) (by omega) (by omega) (by omega)) ?_
      refine V_iadd Y.1 dL_drawn_52 (rfl : _ = 53) ?_
      refine V_nm (v := nI (1 + d / 4 % 4000)) (nI_add 1 _) ?_
      refine V_istore Y.1 (ls' := [(6, _), (5, _), (4, _), (3, _), (2, _), (1, _), (0, _)]) dL_drawn_53 (rfl : _ = 55) (by decide) rfl ?_
      refine V_aload_n Y.1 5 dL_drawn_55 (rfl : _ = 56) rfl rfl ?_
      refine V_iload Y.1 1 dL_drawn_56 (rfl : _ = 58) rfl ?_
      refine V_iconst Y.1 (v := 2) dL_drawn_58 (rfl : _ = 59) (by decide) ?_
      refine V_irem Y.1 dL_drawn_59 (rfl : _ = 60) (by decide) ?_
      refine V_nm (v := nI (d % 2)) (pk_rem (d := 2) (by omega) (by omega) (by omega)) ?_
      refine V_if_ne Y.1 (tgt := 67) dL_drawn_60 (by decide) (rfl : _ = 63) (fun c_60 => ?_) (fun c_60 => ?_)
      · refine V_iconst Y.1 (v := 0) dL_drawn_67 (rfl : _ = 68) (by decide) ?_
        exact k68 d _ hd31 (Or.inl rfl)
      · refine V_iconst Y.1 (v := 1) dL_drawn_63 (rfl : _ = 64) (by decide) ?_
        refine V_goto Y.1 (tgt := 68) dL_drawn_64 (by decide) ?_
        exact k68 d _ hd31 (Or.inr rfl)
  exact V_forget (ls' := [(4, _), (3, _), (2, _), (1, _), (0, _)]) [0, 1, 2, 3, 4] rfl (V_widen (by omega) (by omega) (loop1 n 0 _ m_new s_new 0 0 (fun _ _ => 0) (by omega) hJ (fun i hi => absurd hi (Nat.not_lt_zero i)) rfl))

