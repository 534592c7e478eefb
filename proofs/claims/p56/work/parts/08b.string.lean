theorem shr_0 (x : Int32) : x >>> ((0 : Int32) &&& 31) = x := by
  rw [show (0 : Int32) &&& 31 = 0 from rfl]
  simp
theorem wL_ok : ∀ x ∈ wL, (byt x.2.2).length < 2 ^ 31 ∧ ∀ k, k < (byt x.2.2).length → ((byt x.2.2).getD k 0 &&& 255 = (byt x.2.2).getD k 0 ∧ (((byt x.2.2).getD k 0).toUInt32 % 65536).toInt32 = (byt x.2.2).getD k 0 ∧ narrow .char (.int ((byt x.2.2).getD k 0)) = .int ((byt x.2.2).getD k 0)) := by
  have h : ∀ x ∈ wL, ∀ q ∈ x.2.2.toList, q.toNat < 128 := by decide +kernel
  have hl : ∀ x ∈ wL, x.2.2.toList.length < 100 := by decide +kernel
  have g : ∀ t : Fin 128, nI t.1 &&& 255 = nI t.1 := by decide +kernel
  intro x hx
  have e : (byt x.2.2).length = x.2.2.toList.length := by unfold byt; rw [List.length_map]
  refine ⟨by have := hl x hx; omega, fun k hk => ?_⟩
  have hk2 : k < x.2.2.toList.length := by omega
  have ev : (byt x.2.2).getD k 0 = nI (x.2.2.toList[k]).toNat := by
    unfold byt
    rw [List.getD_eq_getElem?_getD, List.getElem?_map, List.getElem?_eq_getElem hk2]
    rfl
  have hc := h x hx _ (List.getElem_mem hk2)
  rw [ev]
  exact ⟨g ⟨_, hc⟩, ch_i2c hc, ch_nar hc⟩
set_option maxRecDepth 100000 in
set_option maxHeartbeats 4000000 in
theorem c_J0_coder_7d493 (l : Launch) (D : va_G) (kA : Nat → ClassId) (Hs : Heap) (σ : SG) (H0 : Heap) (hg : Ag Hs H0) (x : String × Nat × String) (hx : x ∈ wL)  : CtS l D kA Hs σ yJ0_coder_7d493 cJ0_coder_7d493 1 (some .byte) 0 0 0 0 H0 [.ref (σ x.1 x.2.1).1] (nof) (pI fun v9 H => v9 = 0 ∧ H = H0) := by
  refine CtS.of mi_J0_coder_7d493 (Nat.le_of_ble_eq_true rfl) (ls0 := [(0, _)]) rfl hg (fun _ z => z.elim) ?_
  intro Pp Ee Ss Mm Ar Bl Me Cc Z hs hnm
  have Y := Z.1
  have sz : H0.size = H0.size := rfl
  refine V_gets Y Z.2.2.2.2.1 (tm 1083 (by decide +kernel) (by decide +kernel)) dJ0_coder_7d493_0 (rfl : _ = 3) ?_
  refine V_if_eq Y.1 (tgt := 13) dJ0_coder_7d493_3 (by decide) (rfl : _ = 6) (fun c_n => absurd c_n (by decide)) (fun _ => ?_)
  refine V_aload_n Y.1 0 dJ0_coder_7d493_6 (rfl : _ = 7) rfl rfl ?_
  refine V_getO Y (Z.2.2.2.1 x hx).2.1 (tm 1176 (by decide +kernel) (by decide +kernel)) dJ0_coder_7d493_7 (rfl : _ = 10) ?_
  refine V_goto Y.1 (tgt := 14) dJ0_coder_7d493_10 (by decide) ?_
  exact V_ret Y.1 dJ0_coder_7d493_14 rfl (Nat.le_of_ble_eq_true rfl) (Nat.le_of_ble_eq_true rfl) ⟨rfl, rfl⟩

set_option maxRecDepth 100000 in
set_option maxHeartbeats 4000000 in
theorem c_J0_length_8abf5 (l : Launch) (D : va_G) (kA : Nat → ClassId) (Hs : Heap) (σ : SG) (H0 : Heap) (hg : Ag Hs H0) (x : String × Nat × String) (hx : x ∈ wL)  : CtS l D kA Hs σ yJ0_length_8abf5 cJ0_length_8abf5 1 (some .int) 1 20 0 0 H0 [.ref (σ x.1 x.2.1).1] (nof) (pI fun v9 H => v9 = nI (byt x.2.2).length ∧ H = H0) := by
  refine CtS.of mi_J0_length_8abf5 (Nat.le_of_ble_eq_true rfl) (ls0 := [(0, _)]) rfl hg (fun _ z => z.elim) ?_
  intro Pp Ee Ss Mm Ar Bl Me Cc Z hs hnm
  have Y := Z.1
  have sz : H0.size = H0.size := rfl
  refine V_aload_n Y.1 0 dJ0_length_8abf5_0 (rfl : _ = 1) rfl rfl ?_
  refine V_getO Y (Z.2.2.2.1 x hx).2.2.1 (tm 1175 (by decide +kernel) (by decide +kernel)) dJ0_length_8abf5_1 (rfl : _ = 4) ?_
  refine V_alenT Y (Z.2.2.2.1 x hx).2.2.2 dJ0_length_8abf5_4 (rfl : _ = 5) ?_
  refine V_aload_n Y.1 0 dJ0_length_8abf5_5 (rfl : _ = 6) rfl rfl ?_
  refine V_cP Y (sVL Z (c_J0_coder_7d493 l D kA Hs σ _ hg x hx) mi_J0_coder_7d493 vi_J0_335 (rcvL Z hx hg) rfl rfl (Nat.le_of_ble_eq_true rfl) ⟨Nat.le_of_ble_eq_true rfl, Nat.le_of_ble_eq_true rfl⟩ (Nat.le_of_ble_eq_true rfl) (Nat.le_of_ble_eq_true rfl) dJ0_length_8abf5_6) (rfl : _ = 9) ?_
  refine V_ishr Y.1 dJ0_length_8abf5_9 (rfl : _ = 10) ?_
  refine V_nm (v := nI (byt x.2.2).length) (shr_0 _) ?_
  exact V_ret Y.1 dJ0_length_8abf5_10 rfl (Nat.le_of_ble_eq_true rfl) (Nat.le_of_ble_eq_true rfl) ⟨rfl, rfl⟩

set_option maxRecDepth 100000 in
set_option maxHeartbeats 4000000 in
theorem c_J0_isLatin1_aae02 (l : Launch) (D : va_G) (kA : Nat → ClassId) (Hs : Heap) (σ : SG) (H0 : Heap) (hg : Ag Hs H0) (x : String × Nat × String) (hx : x ∈ wL)  : CtS l D kA Hs σ yJ0_isLatin1_aae02 cJ0_isLatin1_aae02 1 (some .boolean) 0 0 0 0 H0 [.ref (σ x.1 x.2.1).1] (nof) (pI fun v9 H => v9 = 1 ∧ H = H0) := by
  refine CtS.of mi_J0_isLatin1_aae02 (Nat.le_of_ble_eq_true rfl) (ls0 := [(0, _)]) rfl hg (fun _ z => z.elim) ?_
  intro Pp Ee Ss Mm Ar Bl Me Cc Z hs hnm
  have Y := Z.1
  have sz : H0.size = H0.size := rfl
  refine V_gets Y Z.2.2.2.2.1 (tm 1083 (by decide +kernel) (by decide +kernel)) dJ0_isLatin1_aae02_0 (rfl : _ = 3) ?_
  refine V_if_eq Y.1 (tgt := 17) dJ0_isLatin1_aae02_3 (by decide) (rfl : _ = 6) (fun c_n => absurd c_n (by decide)) (fun _ => ?_)
  refine V_aload_n Y.1 0 dJ0_isLatin1_aae02_6 (rfl : _ = 7) rfl rfl ?_
  refine V_getO Y (Z.2.2.2.1 x hx).2.1 (tm 1176 (by decide +kernel) (by decide +kernel)) dJ0_isLatin1_aae02_7 (rfl : _ = 10) ?_
  refine V_if_ne Y.1 (tgt := 17) dJ0_isLatin1_aae02_10 (by decide) (rfl : _ = 13) (fun c_n => absurd rfl c_n) (fun _ => ?_)
  refine V_iconst Y.1 (v := 1) dJ0_isLatin1_aae02_13 (rfl : _ = 14) (by decide) ?_
  refine V_goto Y.1 (tgt := 18) dJ0_isLatin1_aae02_14 (by decide) ?_
  exact V_ret Y.1 dJ0_isLatin1_aae02_18 rfl (Nat.le_of_ble_eq_true rfl) (Nat.le_of_ble_eq_true rfl) ⟨rfl, rfl⟩

set_option maxRecDepth 100000 in
set_option maxHeartbeats 4000000 in
theorem c_J3_checkIndex_n (l : Launch) (D : va_G) (kA : Nat → ClassId) (H0 : Heap) (i n : Nat) (hi : i < n) (hn : n < 2 ^ 31)  : Ct l D kA yJ3_checkIndex_8e157 cJ3_checkIndex_8e157 3 (some .int) 0 0 0 0 H0 [.int (nI i), .int (nI n), .null] (nof) (pI fun v9 H => v9 = nI i ∧ H = H0) := by
  refine Ct.of mi_J3_checkIndex_8e157 (Nat.le_of_ble_eq_true rfl) (ls0 := [(0, _), (1, _), (2, _)]) rfl ?_
  intro Pp Ee Ss Mm Ar Bl Me Cc Y hs hnm
  have sz : H0.size = H0.size := rfl
  refine V_iload_n Y.1 0 dJ3_checkIndex_8e157_0 (rfl : _ = 1) rfl rfl ?_
  refine V_if_lt Y.1 (tgt := 9) dJ3_checkIndex_8e157_1 (by decide) (rfl : _ = 4) (fun c_n => absurd c_n (nI_pos (by omega))) (fun _ => ?_)
  refine V_iload_n Y.1 0 dJ3_checkIndex_8e157_4 (rfl : _ = 5) rfl rfl ?_
  refine V_iload_n Y.1 1 dJ3_checkIndex_8e157_5 (rfl : _ = 6) rfl rfl ?_
  refine V_icmp_lt Y.1 (tgt := 16) dJ3_checkIndex_8e157_6 (by decide) (rfl : _ = 9) (fun _ => ?_) (fun c_n => absurd (nI_lt (by omega) (by omega)) c_n)
  refine V_iload_n Y.1 0 dJ3_checkIndex_8e157_16 (rfl : _ = 17) rfl rfl ?_
  exact V_ret Y.1 dJ3_checkIndex_8e157_17 rfl (Nat.le_of_ble_eq_true rfl) (Nat.le_of_ble_eq_true rfl) ⟨rfl, rfl⟩

set_option maxRecDepth 100000 in
set_option maxHeartbeats 4000000 in
theorem c_J3_checkIndex_r (l : Launch) (D : va_G) (kA : Nat → ClassId) (H0 : Heap) (i n : Nat) (hi : i < n) (hn : n < 2 ^ 31) (q : Nat)  : Ct l D kA yJ3_checkIndex_8e157 cJ3_checkIndex_8e157 3 (some .int) 0 0 0 0 H0 [.int (nI i), .int (nI n), .ref q] (nof) (pI fun v9 H => v9 = nI i ∧ H = H0) := by
  refine Ct.of mi_J3_checkIndex_8e157 (Nat.le_of_ble_eq_true rfl) (ls0 := [(0, _), (1, _), (2, _)]) rfl ?_
  intro Pp Ee Ss Mm Ar Bl Me Cc Y hs hnm
  have sz : H0.size = H0.size := rfl
  refine V_iload_n Y.1 0 dJ3_checkIndex_8e157_0 (rfl : _ = 1) rfl rfl ?_
  refine V_if_lt Y.1 (tgt := 9) dJ3_checkIndex_8e157_1 (by decide) (rfl : _ = 4) (fun c_n => absurd c_n (nI_pos (by omega))) (fun _ => ?_)
  refine V_iload_n Y.1 0 dJ3_checkIndex_8e157_4 (rfl : _ = 5) rfl rfl ?_
  refine V_iload_n Y.1 1 dJ3_checkIndex_8e157_5 (rfl : _ = 6) rfl rfl ?_
  refine V_icmp_lt Y.1 (tgt := 16) dJ3_checkIndex_8e157_6 (by decide) (rfl : _ = 9) (fun _ => ?_) (fun c_n => absurd (nI_lt (by omega) (by omega)) c_n)
  refine V_iload_n Y.1 0 dJ3_checkIndex_8e157_16 (rfl : _ = 17) rfl rfl ?_
  exact V_ret Y.1 dJ3_checkIndex_8e157_17 rfl (Nat.le_of_ble_eq_true rfl) (Nat.le_of_ble_eq_true rfl) ⟨rfl, rfl⟩

set_option maxRecDepth 100000 in
set_option maxHeartbeats 4000000 in
theorem c_J0_checkIndex_df160 (l : Launch) (D : va_G) (kA : Nat → ClassId) (Hs : Heap) (σ : SG) (H0 : Heap) (hg : Ag Hs H0) (i n : Nat) (hi : i < n) (hn : n < 2 ^ 31)  : CtS l D kA Hs σ yJ0_checkIndex_df160 cJ0_checkIndex_df160 2 none 1 22 0 0 H0 [.int (nI i), .int (nI n)] (nof) (pV fun H => H = H0) := by

  refine CtS.of mi_J0_checkIndex_df160 (Nat.le_of_ble_eq_true rfl) (ls0 := [(0, _), (1, _)]) rfl hg (fun _ z => z.elim) ?_
  intro Pp Ee Ss Mm Ar Bl Me Cc Z hs hnm
  have Y := Z.1
  rcases Z.2.2.2.2.2.1 with zz | ⟨q, zz⟩
  · refine V_iload_n Y.1 0 dJ0_checkIndex_df160_0 (rfl : _ = 1) rfl rfl ?_
    refine V_iload_n Y.1 1 dJ0_checkIndex_df160_1 (rfl : _ = 2) rfl rfl ?_
    refine V_gets Y zz (tm 1040 (by decide +kernel) (by decide +kernel)) dJ0_checkIndex_df160_2 (rfl : _ = 5) ?_
    refine V_cP Y (rS Y (c_J3_checkIndex_n l D kA _ i n hi hn) mi_J3_checkIndex_8e157 si_J0_1059 rfl rfl (Nat.le_of_ble_eq_true rfl) ⟨Nat.le_of_ble_eq_true rfl, Nat.le_of_ble_eq_true rfl⟩ (Nat.le_of_ble_eq_true rfl) (Nat.le_of_ble_eq_true rfl) dJ0_checkIndex_df160_5) (rfl : _ = 8) ?_
    refine V_pop Y.1 dJ0_checkIndex_df160_8 (rfl : _ = 9) rfl ?_
    exact V_retV Y.1 dJ0_checkIndex_df160_9 (Nat.le_of_ble_eq_true rfl) (Nat.le_of_ble_eq_true rfl) rfl
  · refine V_iload_n Y.1 0 dJ0_checkIndex_df160_0 (rfl : _ = 1) rfl rfl ?_
    refine V_iload_n Y.1 1 dJ0_checkIndex_df160_1 (rfl : _ = 2) rfl rfl ?_
    refine V_gets Y zz (tm 1040 (by decide +kernel) (by decide +kernel)) dJ0_checkIndex_df160_2 (rfl : _ = 5) ?_
    refine V_cP Y (rS Y (c_J3_checkIndex_r l D kA _ i n hi hn q) mi_J3_checkIndex_8e157 si_J0_1059 rfl rfl (Nat.le_of_ble_eq_true rfl) ⟨Nat.le_of_ble_eq_true rfl, Nat.le_of_ble_eq_true rfl⟩ (Nat.le_of_ble_eq_true rfl) (Nat.le_of_ble_eq_true rfl) dJ0_checkIndex_df160_5) (rfl : _ = 8) ?_
    refine V_pop Y.1 dJ0_checkIndex_df160_8 (rfl : _ = 9) rfl ?_
    exact V_retV Y.1 dJ0_checkIndex_df160_9 (Nat.le_of_ble_eq_true rfl) (Nat.le_of_ble_eq_true rfl) rfl

set_option maxRecDepth 100000 in
set_option maxHeartbeats 4000000 in
theorem c_J1_charAt_3b067 (l : Launch) (D : va_G) (kA : Nat → ClassId) (Hs : Heap) (σ : SG) (H0 : Heap) (hg : Ag Hs H0) (x : String × Nat × String) (hx : x ∈ wL) (k : Nat) (hk : k < (byt x.2.2).length)  : CtS l D kA Hs σ yJ1_charAt_3b067 cJ1_charAt_3b067 2 (some .char) 2 43 0 0 H0 [.ref (σ x.1 x.2.1).2, .int (nI k)] (nof) (pI fun v9 H => v9 = (byt x.2.2).getD k 0 ∧ H = H0) := by
  refine CtS.of mi_J1_charAt_3b067 (Nat.le_of_ble_eq_true rfl) (ls0 := [(0, _), (1, _)]) rfl hg (fun _ z => z.elim) ?_
  intro Pp Ee Ss Mm Ar Bl Me Cc Z hs hnm
  have Y := Z.1
  have hb := wL_ok x hx
  have sz : H0.size = H0.size := rfl
  refine V_iload_n Y.1 1 dJ1_charAt_3b067_0 (rfl : _ = 1) rfl rfl ?_
  refine V_aload_n Y.1 0 dJ1_charAt_3b067_1 (rfl : _ = 2) rfl rfl ?_
  refine V_alenT Y (Z.2.2.2.1 x hx).2.2.2 dJ1_charAt_3b067_2 (rfl : _ = 3) ?_
  refine V_cV Y (sS Z (c_J0_checkIndex_df160 l D kA Hs σ _ hg k _ hk hb.1) mi_J0_checkIndex_df160 si_J1_9 rfl rfl (Nat.le_of_ble_eq_true rfl) ⟨Nat.le_of_ble_eq_true rfl, Nat.le_of_ble_eq_true rfl⟩ (Nat.le_of_ble_eq_true rfl) (Nat.le_of_ble_eq_true rfl) dJ1_charAt_3b067_3) (fun _ z => z.elim) (rfl : _ = 6) (fun H3_3 hq_3 o_3 => ?_)
  obtain rfl := hq_3
  refine V_aload_n Y.1 0 dJ1_charAt_3b067_6 (rfl : _ = 7) rfl rfl ?_
  refine V_iload_n Y.1 1 dJ1_charAt_3b067_7 (rfl : _ = 8) rfl rfl ?_
  refine V_baldT Y (v := (.int ((byt x.2.2).getD k 0))) (Z.2.2.2.1 x hx).2.2.2 (vp_in_nI hk hb.1) (by rw [nI_clamp (by omega)]) dJ1_charAt_3b067_8 (rfl : _ = 9) ?_
  refine V_sipush Y.1 (v := 255) dJ1_charAt_3b067_9 (rfl : _ = 12) (by decide) ?_
  refine V_iand Y.1 dJ1_charAt_3b067_12 (rfl : _ = 13) ?_
  refine V_nm (v := (byt x.2.2).getD k 0) (hb.2 k hk).1 ?_
  refine V_i2c Y.1 (v := (byt x.2.2).getD k 0) dJ1_charAt_3b067_13 (rfl : _ = 14) (hb.2 k hk).2.1 ?_
  exact V_ret Y.1 dJ1_charAt_3b067_14 (hb.2 k hk).2.2 (Nat.le_of_ble_eq_true rfl) (Nat.le_of_ble_eq_true rfl) ⟨rfl, rfl⟩

set_option maxRecDepth 100000 in
set_option maxHeartbeats 4000000 in
theorem c_J0_charAt_5068e (l : Launch) (D : va_G) (kA : Nat → ClassId) (Hs : Heap) (σ : SG) (H0 : Heap) (hg : Ag Hs H0) (x : String × Nat × String) (hx : x ∈ wL) (k : Nat) (hk : k < (byt x.2.2).length)  : CtS l D kA Hs σ yJ0_charAt_5068e cJ0_charAt_5068e 2 (some .char) 3 64 0 0 H0 [.ref (σ x.1 x.2.1).1, .int (nI k)] (nof) (pI fun v9 H => v9 = (byt x.2.2).getD k 0 ∧ H = H0) := by
  refine CtS.of mi_J0_charAt_5068e (Nat.le_of_ble_eq_true rfl) (ls0 := [(0, _), (1, _)]) rfl hg (fun _ z => z.elim) ?_
  intro Pp Ee Ss Mm Ar Bl Me Cc Z hs hnm
  have Y := Z.1
  have hb := wL_ok x hx
  have sz : H0.size = H0.size := rfl
  refine V_aload_n Y.1 0 dJ0_charAt_5068e_0 (rfl : _ = 1) rfl rfl ?_
  refine V_cP Y (sVL Z (c_J0_isLatin1_aae02 l D kA Hs σ _ hg x hx) mi_J0_isLatin1_aae02 vi_J0_492 (rcvL Z hx hg) rfl rfl (Nat.le_of_ble_eq_true rfl) ⟨Nat.le_of_ble_eq_true rfl, Nat.le_of_ble_eq_true rfl⟩ (Nat.le_of_ble_eq_true rfl) (Nat.le_of_ble_eq_true rfl) dJ0_charAt_5068e_1) (rfl : _ = 4) ?_
  refine V_if_eq Y.1 (tgt := 16) dJ0_charAt_5068e_4 (by decide) (rfl : _ = 7) (fun c_n => absurd c_n (by decide)) (fun _ => ?_)
  refine V_aload_n Y.1 0 dJ0_charAt_5068e_7 (rfl : _ = 8) rfl rfl ?_
  refine V_getO Y (Z.2.2.2.1 x hx).2.2.1 (tm 1175 (by decide +kernel) (by decide +kernel)) dJ0_charAt_5068e_8 (rfl : _ = 11) ?_
  refine V_iload_n Y.1 1 dJ0_charAt_5068e_11 (rfl : _ = 12) rfl rfl ?_
  refine V_cP Y (sS Z (c_J1_charAt_3b067 l D kA Hs σ _ hg x hx k hk) mi_J1_charAt_3b067 si_J0_495 rfl rfl (Nat.le_of_ble_eq_true rfl) ⟨Nat.le_of_ble_eq_true rfl, Nat.le_of_ble_eq_true rfl⟩ (Nat.le_of_ble_eq_true rfl) (Nat.le_of_ble_eq_true rfl) dJ0_charAt_5068e_12) (rfl : _ = 15) ?_
  exact V_ret Y.1 dJ0_charAt_5068e_15 (hb.2 k hk).2.2 (Nat.le_of_ble_eq_true rfl) (Nat.le_of_ble_eq_true rfl) ⟨rfl, rfl⟩
