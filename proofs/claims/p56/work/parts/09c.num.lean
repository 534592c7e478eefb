theorem neg_le {w m : Nat} (hw : w < 2 ^ 31) (hm : m < 2 ^ 31) : -(nI w) ≤ -(nI m) ↔ m ≤ w := by
  rw [Int32.le_iff_toInt_le, nI_neg hw, nI_neg hm]
  omega
theorem neg_lt {w m : Nat} (hw : w < 2 ^ 31) (hm : m < 2 ^ 31) (h : w < m) : -(nI m) < -(nI w) := by
  rw [Int32.lt_iff_toInt_lt, nI_neg hw, nI_neg hm]
  omega
theorem neg_nlt {w m : Nat} (hw : w < 2 ^ 31) (hm : m < 2 ^ 31) (h : m ≤ w) : ¬ -(nI m) < -(nI w) := by
  rw [Int32.lt_iff_toInt_lt, nI_neg hw, nI_neg hm]
  omega
theorem neg_lt0 {w : Nat} (h0 : 0 < w) (hw : w < 2 ^ 31) : -(nI w) < 0 := by
  rw [Int32.lt_iff_toInt_lt, nI_neg hw]
  simp
  omega
theorem neg_ge9 {w : Nat} (h : w ≤ 9) : -(nI 9) ≤ -(nI w) := by
  rw [Int32.le_iff_toInt_le, nI_neg (by omega), nI_neg (by omega)]
  omega
theorem neg_nge9 {w : Nat} (hw : w < 2 ^ 31) (h : 9 < w) : ¬ -(nI 9) ≤ -(nI w) := by
  rw [Int32.le_iff_toInt_le, nI_neg hw, nI_neg (by omega)]
  omega
theorem neg_div {w d : Nat} (hw : w < 2 ^ 31) (h0 : 0 < d) (hd : d < 2 ^ 31) : -(nI w) / nI d = -(nI (w / d)) := by
  apply Int32.toInt_inj.mp
  rw [Int32.toInt_div, nI_neg hw, nI_toInt hd, nI_neg (Nat.lt_of_le_of_lt (Nat.div_le_self w d) hw), Int.neg_tdiv, Int.natCast_tdiv_eq_ediv, ← Int.natCast_ediv]
  have : w / d ≤ w := Nat.div_le_self w d
  generalize w / d = q at *
  apply Int.bmod_eq_of_le <;> omega
theorem neg_rem100 {w : Nat} (hw : w < 2 ^ 31) : -(nI (w / 100)) * 100 - -(nI w) = nI (w % 100) := by
  have e : -(nI (w / 100)) * 100 = -(nI (w / 100 * 100)) := by
    rw [Int32.neg_mul, show (100 : Int32) = nI 100 from rfl, pk_mul]
  rw [e, Int32.sub_neg, Int32.add_comm, ← Int32.sub_eq_add_neg, pk_sub (by omega)]
  congr 1
  omega
theorem x_neg {x : Int32} (hx : x < 0) (h1 : -100000 < x.toInt) : ∃ w : Nat, (0 < w ∧ w < 100000) ∧ x = -(nI w) := by
  rw [Int32.lt_iff_toInt_lt] at hx
  have e0 : (0 : Int32).toInt = 0 := rfl
  rw [e0] at hx
  refine ⟨(-x.toInt).toNat, by omega, ?_⟩
  apply Int32.toInt_inj.mp
  rw [nI_neg (by omega)]
  omega
theorem dg_list1 (w : Nat) (hw : w < 10) : dg 5 w = [nI (48 + w % 10)] := dg_9 (by omega)
theorem dg_list2 (w : Nat) (h1 : 10 ≤ w) (hw : w < 100) : dg 5 w = [nI (48 + w / 10), nI (48 + w % 10)] := by
  rw [dg_10 (by omega), dg_9 (by omega), show w / 10 % 10 = w / 10 by omega]
  rfl
theorem dg_list3 (w : Nat) (h1 : 100 ≤ w) (hw : w < 1000) : dg 5 w = [nI (48 + w / 100 % 10), nI (48 + w % 100 / 10), nI (48 + w % 100 % 10)] := by
  rw [dg_10 (by omega), dg_10 (by omega), dg_9 (by omega), show w / 10 / 10 = w / 100 by omega, show w / 10 % 10 = w % 100 / 10 by omega, show w % 100 % 10 = w % 10 by omega]
  rfl
theorem dg_list4 (w : Nat) (h1 : 1000 ≤ w) (hw : w < 10000) : dg 5 w = [nI (48 + w / 100 / 10), nI (48 + w / 100 % 10), nI (48 + w % 100 / 10), nI (48 + w % 100 % 10)] := by
  rw [dg_10 (by omega), dg_10 (by omega), dg_10 (by omega), dg_9 (by omega), show w / 10 / 10 / 10 % 10 = w / 100 / 10 by omega, show w / 10 / 10 = w / 100 by omega, show w / 10 % 10 = w % 100 / 10 by omega, show w % 100 % 10 = w % 10 by omega]
  rfl
theorem dg_list5 (w : Nat) (h1 : 10000 ≤ w) (hw : w < 100000) : dg 5 w = [nI (48 + w / 100 / 100 % 10), nI (48 + w / 100 % 100 / 10), nI (48 + w / 100 % 100 % 10), nI (48 + w % 100 / 10), nI (48 + w % 100 % 10)] := by
  rw [dg_10 (by omega), dg_10 (by omega), dg_10 (by omega), dg_10 (by omega), dg_9 (by omega), show w / 10 / 10 / 10 / 10 % 10 = w / 100 / 100 % 10 by omega, show w / 10 / 10 / 10 % 10 = w / 100 % 100 / 10 by omega, show w / 10 / 10 % 10 = w / 100 % 100 % 10 by omega, show w / 10 % 10 = w % 100 / 10 by omega, show w % 100 % 10 = w % 10 by omega]
  rfl
theorem dg_lenx {w : Nat} (hw : w < 100000) : (dg 5 w).length = if w < 10 then 1 else if w < 100 then 2 else if w < 1000 then 3 else if w < 10000 then 4 else 5 := by
  split
  · rw [dg_list1 w (by omega)]; rfl
  · split
    · rw [dg_list2 w (by omega) (by omega)]; rfl
    · split
      · rw [dg_list3 w (by omega) (by omega)]; rfl
      · split
        · rw [dg_list4 w (by omega) (by omega)]; rfl
        · rw [dg_list5 w (by omega) (by omega)]; rfl
theorem dg_ch : ∀ (k v : Nat), ∀ x ∈ dg k v, ∃ c, c < 128 ∧ x = nI c
  | 0, _, _, h => by cases h
  | k + 1, v, x, h => by
    unfold dg at h
    rcases List.mem_append.mp h with h | h
    · split at h
      · cases h
      · exact dg_ch k (v / 10) x h
    · rcases List.mem_cons.mp h with rfl | h
      · exact ⟨48 + v % 10, by omega, rfl⟩
      · cases h
theorem sg_ch (x : Int32) : ∀ y ∈ sg x, ∃ c, c < 128 ∧ y = nI c := by
  intro y hy
  unfold sg at hy
  split at hy
  · rcases List.mem_cons.mp hy with rfl | hy
    · exact ⟨45, by decide, rfl⟩
    · exact dg_ch _ _ y hy
  · exact dg_ch _ _ y hy
theorem fb_put : ∀ (L : List Int32) {g : Nat → Int32} {p : Nat}, (∀ y ∈ L, ∃ c, c < 128 ∧ y = nI c) → (∀ j, fits .byte (.int (g j)) = true) → ∀ j, fits .byte (.int (r_put g p L j)) = true
  | [], _, _, _, h => h
  | x :: L, g, p, hL, h => by
    obtain ⟨c, hc, rfl⟩ := hL x List.mem_cons_self
    exact fb_put L (fun y hy => hL y (List.mem_cons_of_mem _ hy)) (fb_upd hc h)
set_option maxRecDepth 100000 in
set_option maxHeartbeats 4000000 in
theorem c_J6_stringSize_p1 (l : Launch) (D : va_G) (kA : Nat → ClassId) (H0 : Heap) (w : Nat) (hw : w < 10)  : Ct l D kA yJ6_stringSize_0f7a4 cJ6_stringSize_0f7a4 4 (some .int) 0 0 0 0 H0 [.int (nI w)] (nof) (pI fun v9 H => v9 = nI 1 ∧ H = H0) := by
  refine Ct.of mi_J6_stringSize_0f7a4 (Nat.le_of_ble_eq_true rfl) (ls0 := [(0, _)]) rfl ?_
  intro Pp Ee Ss Mm Ar Bl Me Cc Y hs hnm
  have sz : H0.size = H0.size := rfl
  refine V_iconst Y.1 (v := 1) dJ6_stringSize_0f7a4_0 (rfl : _ = 1) (by decide) ?_
  refine V_istore_n Y.1 (ls' := [(1, _), (0, _)]) dJ6_stringSize_0f7a4_1 (rfl : _ = 2) rfl (by decide) rfl ?_
  refine V_iload_n Y.1 1 dJ6_stringSize_0f7a4_2 (rfl : _ = 3) rfl rfl ?_
  refine V_if_lt Y.1 (tgt := 11) dJ6_stringSize_0f7a4_3 (by decide) (rfl : _ = 6) (fun c_n => absurd c_n (nI_pos (by omega))) (fun _ => ?_)
  refine V_iconst Y.1 (v := 0) dJ6_stringSize_0f7a4_6 (rfl : _ = 7) (by decide) ?_
  refine V_istore_n Y.1 (ls' := [(1, _), (0, _)]) dJ6_stringSize_0f7a4_7 (rfl : _ = 8) rfl (by decide) rfl ?_
  refine V_iload_n Y.1 1 dJ6_stringSize_0f7a4_8 (rfl : _ = 9) rfl rfl ?_
  refine V_ineg Y.1 dJ6_stringSize_0f7a4_9 (rfl : _ = 10) ?_
  refine V_istore_n Y.1 (ls' := [(0, _), (1, _)]) dJ6_stringSize_0f7a4_10 (rfl : _ = 11) rfl (by decide) rfl ?_
  refine V_bipush Y.1 (v := -10) dJ6_stringSize_0f7a4_11 (rfl : _ = 13) (by decide) ?_
  refine V_istore_n Y.1 (ls' := [(2, _), (0, _), (1, _)]) dJ6_stringSize_0f7a4_13 (rfl : _ = 14) rfl (by decide) rfl ?_
  refine V_iconst Y.1 (v := 1) dJ6_stringSize_0f7a4_14 (rfl : _ = 15) (by decide) ?_
  refine V_istore_n Y.1 (ls' := [(3, _), (2, _), (0, _), (1, _)]) dJ6_stringSize_0f7a4_15 (rfl : _ = 16) rfl (by decide) rfl ?_
  refine V_iload_n Y.1 0 dJ6_stringSize_0f7a4_16 (rfl : _ = 17) rfl rfl ?_
  refine V_bipush Y.1 (v := 10) dJ6_stringSize_0f7a4_17 (rfl : _ = 19) (by decide) ?_
  refine V_icmp_ge Y.1 (tgt := 42) dJ6_stringSize_0f7a4_19 (by decide) (rfl : _ = 22) (fun c_n => absurd c_n (by decide)) (fun _ => ?_)
  refine V_iload_n Y.1 2 dJ6_stringSize_0f7a4_22 (rfl : _ = 23) rfl rfl ?_
  refine V_iload_n Y.1 1 dJ6_stringSize_0f7a4_23 (rfl : _ = 24) rfl rfl ?_
  refine V_icmp_le Y.1 (tgt := 31) dJ6_stringSize_0f7a4_24 (by decide) (rfl : _ = 27) (fun c_n => absurd c_n (fun q => absurd ((neg_le (w := w) (m := 10) (by omega) (by decide)).mp q) (by omega))) (fun _ => ?_)
  refine V_iload_n Y.1 0 dJ6_stringSize_0f7a4_27 (rfl : _ = 28) rfl rfl ?_
  refine V_iload_n Y.1 3 dJ6_stringSize_0f7a4_28 (rfl : _ = 29) rfl rfl ?_
  refine V_iadd Y.1 dJ6_stringSize_0f7a4_29 (rfl : _ = 30) ?_
  refine V_nm (v := nI 1) (by decide) ?_
  exact V_ret Y.1 dJ6_stringSize_0f7a4_30 rfl (Nat.le_of_ble_eq_true rfl) (Nat.le_of_ble_eq_true rfl) ⟨rfl, rfl⟩

set_option maxRecDepth 100000 in
set_option maxHeartbeats 4000000 in
theorem c_J6_stringSize_p2 (l : Launch) (D : va_G) (kA : Nat → ClassId) (H0 : Heap) (w : Nat) (h1 : 10 ≤ w) (hw : w < 100)  : Ct l D kA yJ6_stringSize_0f7a4 cJ6_stringSize_0f7a4 4 (some .int) 0 0 0 0 H0 [.int (nI w)] (nof) (pI fun v9 H => v9 = nI 2 ∧ H = H0) := by
  refine Ct.of mi_J6_stringSize_0f7a4 (Nat.le_of_ble_eq_true rfl) (ls0 := [(0, _)]) rfl ?_
  intro Pp Ee Ss Mm Ar Bl Me Cc Y hs hnm
  have sz : H0.size = H0.size := rfl
  refine V_iconst Y.1 (v := 1) dJ6_stringSize_0f7a4_0 (rfl : _ = 1) (by decide) ?_
  refine V_istore_n Y.1 (ls' := [(1, _), (0, _)]) dJ6_stringSize_0f7a4_1 (rfl : _ = 2) rfl (by decide) rfl ?_
  refine V_iload_n Y.1 1 dJ6_stringSize_0f7a4_2 (rfl : _ = 3) rfl rfl ?_
  refine V_if_lt Y.1 (tgt := 11) dJ6_stringSize_0f7a4_3 (by decide) (rfl : _ = 6) (fun c_n => absurd c_n (nI_pos (by omega))) (fun _ => ?_)
  refine V_iconst Y.1 (v := 0) dJ6_stringSize_0f7a4_6 (rfl : _ = 7) (by decide) ?_
  refine V_istore_n Y.1 (ls' := [(1, _), (0, _)]) dJ6_stringSize_0f7a4_7 (rfl : _ = 8) rfl (by decide) rfl ?_
  refine V_iload_n Y.1 1 dJ6_stringSize_0f7a4_8 (rfl : _ = 9) rfl rfl ?_
  refine V_ineg Y.1 dJ6_stringSize_0f7a4_9 (rfl : _ = 10) ?_
  refine V_istore_n Y.1 (ls' := [(0, _), (1, _)]) dJ6_stringSize_0f7a4_10 (rfl : _ = 11) rfl (by decide) rfl ?_
  refine V_bipush Y.1 (v := -10) dJ6_stringSize_0f7a4_11 (rfl : _ = 13) (by decide) ?_
  refine V_istore_n Y.1 (ls' := [(2, _), (0, _), (1, _)]) dJ6_stringSize_0f7a4_13 (rfl : _ = 14) rfl (by decide) rfl ?_
  refine V_iconst Y.1 (v := 1) dJ6_stringSize_0f7a4_14 (rfl : _ = 15) (by decide) ?_
  refine V_istore_n Y.1 (ls' := [(3, _), (2, _), (0, _), (1, _)]) dJ6_stringSize_0f7a4_15 (rfl : _ = 16) rfl (by decide) rfl ?_
  refine V_iload_n Y.1 0 dJ6_stringSize_0f7a4_16 (rfl : _ = 17) rfl rfl ?_
  refine V_bipush Y.1 (v := 10) dJ6_stringSize_0f7a4_17 (rfl : _ = 19) (by decide) ?_
  refine V_icmp_ge Y.1 (tgt := 42) dJ6_stringSize_0f7a4_19 (by decide) (rfl : _ = 22) (fun c_n => absurd c_n (by decide)) (fun _ => ?_)
  refine V_iload_n Y.1 2 dJ6_stringSize_0f7a4_22 (rfl : _ = 23) rfl rfl ?_
  refine V_iload_n Y.1 1 dJ6_stringSize_0f7a4_23 (rfl : _ = 24) rfl rfl ?_
  refine V_icmp_le Y.1 (tgt := 31) dJ6_stringSize_0f7a4_24 (by decide) (rfl : _ = 27) (fun _ => ?_) (fun c_n => absurd ((neg_le (w := w) (m := 10) (by omega) (by decide)).mpr (by omega)) c_n)
  refine V_bipush Y.1 (v := 10) dJ6_stringSize_0f7a4_31 (rfl : _ = 33) (by decide) ?_
  refine V_iload_n Y.1 1 dJ6_stringSize_0f7a4_33 (rfl : _ = 34) rfl rfl ?_
  refine V_imul Y.1 dJ6_stringSize_0f7a4_34 (rfl : _ = 35) ?_
  refine V_nm (v := -100) (by decide) ?_
  refine V_istore_n Y.1 (ls' := [(2, _), (3, _), (0, _), (1, _)]) dJ6_stringSize_0f7a4_35 (rfl : _ = 36) rfl (by decide) rfl ?_
  refine V_iinc Y.1 (v := 2) (ls' := [(3, _), (2, _), (0, _), (1, _)]) 1 dJ6_stringSize_0f7a4_36 (rfl : _ = 39) rfl (by decide) (by decide) rfl ?_
  refine V_goto Y.1 (tgt := 16) dJ6_stringSize_0f7a4_39 (by decide) ?_
  refine V_iload_n Y.1 0 dJ6_stringSize_0f7a4_16 (rfl : _ = 17) rfl rfl ?_
  refine V_bipush Y.1 (v := 10) dJ6_stringSize_0f7a4_17 (rfl : _ = 19) (by decide) ?_
  refine V_icmp_ge Y.1 (tgt := 42) dJ6_stringSize_0f7a4_19 (by decide) (rfl : _ = 22) (fun c_n => absurd c_n (by decide)) (fun _ => ?_)
  refine V_iload_n Y.1 2 dJ6_stringSize_0f7a4_22 (rfl : _ = 23) rfl rfl ?_
  refine V_iload_n Y.1 1 dJ6_stringSize_0f7a4_23 (rfl : _ = 24) rfl rfl ?_
  refine V_icmp_le Y.1 (tgt := 31) dJ6_stringSize_0f7a4_24 (by decide) (rfl : _ = 27) (fun c_n => absurd c_n (fun q => absurd ((neg_le (w := w) (m := 100) (by omega) (by decide)).mp q) (by omega))) (fun _ => ?_)
  refine V_iload_n Y.1 0 dJ6_stringSize_0f7a4_27 (rfl : _ = 28) rfl rfl ?_
  refine V_iload_n Y.1 3 dJ6_stringSize_0f7a4_28 (rfl : _ = 29) rfl rfl ?_
  refine V_iadd Y.1 dJ6_stringSize_0f7a4_29 (rfl : _ = 30) ?_
  refine V_nm (v := nI 2) (by decide) ?_
  exact V_ret Y.1 dJ6_stringSize_0f7a4_30 rfl (Nat.le_of_ble_eq_true rfl) (Nat.le_of_ble_eq_true rfl) ⟨rfl, rfl⟩

set_option maxRecDepth 100000 in
set_option maxHeartbeats 4000000 in
theorem c_J6_stringSize_p3 (l : Launch) (D : va_G) (kA : Nat → ClassId) (H0 : Heap) (w : Nat) (h1 : 100 ≤ w) (hw : w < 1000)  : Ct l D kA yJ6_stringSize_0f7a4 cJ6_stringSize_0f7a4 4 (some .int) 0 0 0 0 H0 [.int (nI w)] (nof) (pI fun v9 H => v9 = nI 3 ∧ H = H0) := by
  refine Ct.of mi_J6_stringSize_0f7a4 (Nat.le_of_ble_eq_true rfl) (ls0 := [(0, _)]) rfl ?_
  intro Pp Ee Ss Mm Ar Bl Me Cc Y hs hnm
  have sz : H0.size = H0.size := rfl
  refine V_iconst Y.1 (v := 1) dJ6_stringSize_0f7a4_0 (rfl : _ = 1) (by decide) ?_
  refine V_istore_n Y.1 (ls' := [(1, _), (0, _)]) dJ6_stringSize_0f7a4_1 (rfl : _ = 2) rfl (by decide) rfl ?_
  refine V_iload_n Y.1 1 dJ6_stringSize_0f7a4_2 (rfl : _ = 3) rfl rfl ?_
  refine V_if_lt Y.1 (tgt := 11) dJ6_stringSize_0f7a4_3 (by decide) (rfl : _ = 6) (fun c_n => absurd c_n (nI_pos (by omega))) (fun _ => ?_)
  refine V_iconst Y.1 (v := 0) dJ6_stringSize_0f7a4_6 (rfl : _ = 7) (by decide) ?_
  refine V_istore_n Y.1 (ls' := [(1, _), (0, _)]) dJ6_stringSize_0f7a4_7 (rfl : _ = 8) rfl (by decide) rfl ?_
  refine V_iload_n Y.1 1 dJ6_stringSize_0f7a4_8 (rfl : _ = 9) rfl rfl ?_
  refine V_ineg Y.1 dJ6_stringSize_0f7a4_9 (rfl : _ = 10) ?_
  refine V_istore_n Y.1 (ls' := [(0, _), (1, _)]) dJ6_stringSize_0f7a4_10 (rfl : _ = 11) rfl (by decide) rfl ?_
  refine V_bipush Y.1 (v := -10) dJ6_stringSize_0f7a4_11 (rfl : _ = 13) (by decide) ?_
  refine V_istore_n Y.1 (ls' := [(2, _), (0, _), (1, _)]) dJ6_stringSize_0f7a4_13 (rfl : _ = 14) rfl (by decide) rfl ?_
  refine V_iconst Y.1 (v := 1) dJ6_stringSize_0f7a4_14 (rfl : _ = 15) (by decide) ?_
  refine V_istore_n Y.1 (ls' := [(3, _), (2, _), (0, _), (1, _)]) dJ6_stringSize_0f7a4_15 (rfl : _ = 16) rfl (by decide) rfl ?_
  refine V_iload_n Y.1 0 dJ6_stringSize_0f7a4_16 (rfl : _ = 17) rfl rfl ?_
  refine V_bipush Y.1 (v := 10) dJ6_stringSize_0f7a4_17 (rfl : _ = 19) (by decide) ?_
  refine V_icmp_ge Y.1 (tgt := 42) dJ6_stringSize_0f7a4_19 (by decide) (rfl : _ = 22) (fun c_n => absurd c_n (by decide)) (fun _ => ?_)
  refine V_iload_n Y.1 2 dJ6_stringSize_0f7a4_22 (rfl : _ = 23) rfl rfl ?_
  refine V_iload_n Y.1 1 dJ6_stringSize_0f7a4_23 (rfl : _ = 24) rfl rfl ?_
  refine V_icmp_le Y.1 (tgt := 31) dJ6_stringSize_0f7a4_24 (by decide) (rfl : _ = 27) (fun _ => ?_) (fun c_n => absurd ((neg_le (w := w) (m := 10) (by omega) (by decide)).mpr (by omega)) c_n)
  refine V_bipush Y.1 (v := 10) dJ6_stringSize_0f7a4_31 (rfl : _ = 33) (by decide) ?_
  refine V_iload_n Y.1 1 dJ6_stringSize_0f7a4_33 (rfl : _ = 34) rfl rfl ?_
  refine V_imul Y.1 dJ6_stringSize_0f7a4_34 (rfl : _ = 35) ?_
  refine V_nm (v := -100) (by decide) ?_
  refine V_istore_n Y.1 (ls' := [(2, _), (3, _), (0, _), (1, _)]) dJ6_stringSize_0f7a4_35 (rfl : _ = 36) rfl (by decide) rfl ?_
  refine V_iinc Y.1 (v := 2) (ls' := [(3, _), (2, _), (0, _), (1, _)]) 1 dJ6_stringSize_0f7a4_36 (rfl : _ = 39) rfl (by decide) (by decide) rfl ?_
  refine V_goto Y.1 (tgt := 16) dJ6_stringSize_0f7a4_39 (by decide) ?_
  refine V_iload_n Y.1 0 dJ6_stringSize_0f7a4_16 (rfl : _ = 17) rfl rfl ?_
  refine V_bipush Y.1 (v := 10) dJ6_stringSize_0f7a4_17 (rfl : _ = 19) (by decide) ?_
  refine V_icmp_ge Y.1 (tgt := 42) dJ6_stringSize_0f7a4_19 (by decide) (rfl : _ = 22) (fun c_n => absurd c_n (by decide)) (fun _ => ?_)
  refine V_iload_n Y.1 2 dJ6_stringSize_0f7a4_22 (rfl : _ = 23) rfl rfl ?_
  refine V_iload_n Y.1 1 dJ6_stringSize_0f7a4_23 (rfl : _ = 24) rfl rfl ?_
  refine V_icmp_le Y.1 (tgt := 31) dJ6_stringSize_0f7a4_24 (by decide) (rfl : _ = 27) (fun _ => ?_) (fun c_n => absurd ((neg_le (w := w) (m := 100) (by omega) (by decide)).mpr (by omega)) c_n)
  refine V_bipush Y.1 (v := 10) dJ6_stringSize_0f7a4_31 (rfl : _ = 33) (by decide) ?_
  refine V_iload_n Y.1 1 dJ6_stringSize_0f7a4_33 (rfl : _ = 34) rfl rfl ?_
  refine V_imul Y.1 dJ6_stringSize_0f7a4_34 (rfl : _ = 35) ?_
  refine V_nm (v := -1000) (by decide) ?_
  refine V_istore_n Y.1 (ls' := [(2, _), (3, _), (0, _), (1, _)]) dJ6_stringSize_0f7a4_35 (rfl : _ = 36) rfl (by decide) rfl ?_
  refine V_iinc Y.1 (v := 3) (ls' := [(3, _), (2, _), (0, _), (1, _)]) 1 dJ6_stringSize_0f7a4_36 (rfl : _ = 39) rfl (by decide) (by decide) rfl ?_
  refine V_goto Y.1 (tgt := 16) dJ6_stringSize_0f7a4_39 (by decide) ?_
  refine V_iload_n Y.1 0 dJ6_stringSize_0f7a4_16 (rfl : _ = 17) rfl rfl ?_
  refine V_bipush Y.1 (v := 10) dJ6_stringSize_0f7a4_17 (rfl : _ = 19) (by decide) ?_
  refine V_icmp_ge Y.1 (tgt := 42) dJ6_stringSize_0f7a4_19 (by decide) (rfl : _ = 22) (fun c_n => absurd c_n (by decide)) (fun _ => ?_)
  refine V_iload_n Y.1 2 dJ6_stringSize_0f7a4_22 (rfl : _ = 23) rfl rfl ?_
  refine V_iload_n Y.1 1 dJ6_stringSize_0f7a4_23 (rfl : _ = 24) rfl rfl ?_
  refine V_icmp_le Y.1 (tgt := 31) dJ6_stringSize_0f7a4_24 (by decide) (rfl : _ = 27) (fun c_n => absurd c_n (fun q => absurd ((neg_le (w := w) (m := 1000) (by omega) (by decide)).mp q) (by omega))) (fun _ => ?_)
  refine V_iload_n Y.1 0 dJ6_stringSize_0f7a4_27 (rfl : _ = 28) rfl rfl ?_
  refine V_iload_n Y.1 3 dJ6_stringSize_0f7a4_28 (rfl : _ = 29) rfl rfl ?_
  refine V_iadd Y.1 dJ6_stringSize_0f7a4_29 (rfl : _ = 30) ?_
  refine V_nm (v := nI 3) (by decide) ?_
  exact V_ret Y.1 dJ6_stringSize_0f7a4_30 rfl (Nat.le_of_ble_eq_true rfl) (Nat.le_of_ble_eq_true rfl) ⟨rfl, rfl⟩

set_option maxRecDepth 100000 in
set_option maxHeartbeats 4000000 in
theorem c_J6_stringSize_p4 (l : Launch) (D : va_G) (kA : Nat → ClassId) (H0 : Heap) (w : Nat) (h1 : 1000 ≤ w) (hw : w < 10000)  : Ct l D kA yJ6_stringSize_0f7a4 cJ6_stringSize_0f7a4 4 (some .int) 0 0 0 0 H0 [.int (nI w)] (nof) (pI fun v9 H => v9 = nI 4 ∧ H = H0) := by
  refine Ct.of mi_J6_stringSize_0f7a4 (Nat.le_of_ble_eq_true rfl) (ls0 := [(0, _)]) rfl ?_
  intro Pp Ee Ss Mm Ar Bl Me Cc Y hs hnm
  have sz : H0.size = H0.size := rfl
  refine V_iconst Y.1 (v := 1) dJ6_stringSize_0f7a4_0 (rfl : _ = 1) (by decide) ?_
  refine V_istore_n Y.1 (ls' := [(1, _), (0, _)]) dJ6_stringSize_0f7a4_1 (rfl : _ = 2) rfl (by decide) rfl ?_
  refine V_iload_n Y.1 1 dJ6_stringSize_0f7a4_2 (rfl : _ = 3) rfl rfl ?_
  refine V_if_lt Y.1 (tgt := 11) dJ6_stringSize_0f7a4_3 (by decide) (rfl : _ = 6) (fun c_n => absurd c_n (nI_pos (by omega))) (fun _ => ?_)
  refine V_iconst Y.1 (v := 0) dJ6_stringSize_0f7a4_6 (rfl : _ = 7) (by decide) ?_
  refine V_istore_n Y.1 (ls' := [(1, _), (0, _)]) dJ6_stringSize_0f7a4_7 (rfl : _ = 8) rfl (by decide) rfl ?_
  refine V_iload_n Y.1 1 dJ6_stringSize_0f7a4_8 (rfl : _ = 9) rfl rfl ?_
  refine V_ineg Y.1 dJ6_stringSize_0f7a4_9 (rfl : _ = 10) ?_
  refine V_istore_n Y.1 (ls' := [(0, _), (1, _)]) dJ6_stringSize_0f7a4_10 (rfl : _ = 11) rfl (by decide) rfl ?_
  refine V_bipush Y.1 (v := -10) dJ6_stringSize_0f7a4_11 (rfl : _ = 13) (by decide) ?_
  refine V_istore_n Y.1 (ls' := [(2, _), (0, _), (1, _)]) dJ6_stringSize_0f7a4_13 (rfl : _ = 14) rfl (by decide) rfl ?_
  refine V_iconst Y.1 (v := 1) dJ6_stringSize_0f7a4_14 (rfl : _ = 15) (by decide) ?_
  refine V_istore_n Y.1 (ls' := [(3, _), (2, _), (0, _), (1, _)]) dJ6_stringSize_0f7a4_15 (rfl : _ = 16) rfl (by decide) rfl ?_
  refine V_iload_n Y.1 0 dJ6_stringSize_0f7a4_16 (rfl : _ = 17) rfl rfl ?_
  refine V_bipush Y.1 (v := 10) dJ6_stringSize_0f7a4_17 (rfl : _ = 19) (by decide) ?_
  refine V_icmp_ge Y.1 (tgt := 42) dJ6_stringSize_0f7a4_19 (by decide) (rfl : _ = 22) (fun c_n => absurd c_n (by decide)) (fun _ => ?_)
  refine V_iload_n Y.1 2 dJ6_stringSize_0f7a4_22 (rfl : _ = 23) rfl rfl ?_
  refine V_iload_n Y.1 1 dJ6_stringSize_0f7a4_23 (rfl : _ = 24) rfl rfl ?_
  refine V_icmp_le Y.1 (tgt := 31) dJ6_stringSize_0f7a4_24 (by decide) (rfl : _ = 27) (fun _ => ?_) (fun c_n => absurd ((neg_le (w := w) (m := 10) (by omega) (by decide)).mpr (by omega)) c_n)
  refine V_bipush Y.1 (v := 10) dJ6_stringSize_0f7a4_31 (rfl : _ = 33) (by decide) ?_
  refine V_iload_n Y.1 1 dJ6_stringSize_0f7a4_33 (rfl : _ = 34) rfl rfl ?_
  refine V_imul Y.1 dJ6_stringSize_0f7a4_34 (rfl : _ = 35) ?_
  refine V_nm (v := -100) (by decide) ?_
  refine V_istore_n Y.1 (ls' := [(2, _), (3, _), (0, _), (1, _)]) dJ6_stringSize_0f7a4_35 (rfl : _ = 36) rfl (by decide) rfl ?_
  refine V_iinc Y.1 (v := 2) (ls' := [(3, _), (2, _), (0, _), (1, _)]) 1 dJ6_stringSize_0f7a4_36 (rfl : _ = 39) rfl (by decide) (by decide) rfl ?_
  refine V_goto Y.1 (tgt := 16) dJ6_stringSize_0f7a4_39 (by decide) ?_
  refine V_iload_n Y.1 0 dJ6_stringSize_0f7a4_16 (rfl : _ = 17) rfl rfl ?_
  refine V_bipush Y.1 (v := 10) dJ6_stringSize_0f7a4_17 (rfl : _ = 19) (by decide) ?_
  refine V_icmp_ge Y.1 (tgt := 42) dJ6_stringSize_0f7a4_19 (by decide) (rfl : _ = 22) (fun c_n => absurd c_n (by decide)) (fun _ => ?_)
  refine V_iload_n Y.1 2 dJ6_stringSize_0f7a4_22 (rfl : _ = 23) rfl rfl ?_
  refine V_iload_n Y.1 1 dJ6_stringSize_0f7a4_23 (rfl : _ = 24) rfl rfl ?_
  refine V_icmp_le Y.1 (tgt := 31) dJ6_stringSize_0f7a4_24 (by decide) (rfl : _ = 27) (fun _ => ?_) (fun c_n => absurd ((neg_le (w := w) (m := 100) (by omega) (by decide)).mpr (by omega)) c_n)
  refine V_bipush Y.1 (v := 10) dJ6_stringSize_0f7a4_31 (rfl : _ = 33) (by decide) ?_
  refine V_iload_n Y.1 1 dJ6_stringSize_0f7a4_33 (rfl : _ = 34) rfl rfl ?_
  refine V_imul Y.1 dJ6_stringSize_0f7a4_34 (rfl : _ = 35) ?_
  refine V_nm (v := -1000) (by decide) ?_
  refine V_istore_n Y.1 (ls' := [(2, _), (3, _), (0, _), (1, _)]) dJ6_stringSize_0f7a4_35 (rfl : _ = 36) rfl (by decide) rfl ?_
  refine V_iinc Y.1 (v := 3) (ls' := [(3, _), (2, _), (0, _), (1, _)]) 1 dJ6_stringSize_0f7a4_36 (rfl : _ = 39) rfl (by decide) (by decide) rfl ?_
  refine V_goto Y.1 (tgt := 16) dJ6_stringSize_0f7a4_39 (by decide) ?_
  refine V_iload_n Y.1 0 dJ6_stringSize_0f7a4_16 (rfl : _ = 17) rfl rfl ?_
  refine V_bipush Y.1 (v := 10) dJ6_stringSize_0f7a4_17 (rfl : _ = 19) (by decide) ?_
  refine V_icmp_ge Y.1 (tgt := 42) dJ6_stringSize_0f7a4_19 (by decide) (rfl : _ = 22) (fun c_n => absurd c_n (by decide)) (fun _ => ?_)
  refine V_iload_n Y.1 2 dJ6_stringSize_0f7a4_22 (rfl : _ = 23) rfl rfl ?_
  refine V_iload_n Y.1 1 dJ6_stringSize_0f7a4_23 (rfl : _ = 24) rfl rfl ?_
  refine V_icmp_le Y.1 (tgt := 31) dJ6_stringSize_0f7a4_24 (by decide) (rfl : _ = 27) (fun _ => ?_) (fun c_n => absurd ((neg_le (w := w) (m := 1000) (by omega) (by decide)).mpr (by omega)) c_n)
  refine V_bipush Y.1 (v := 10) dJ6_stringSize_0f7a4_31 (rfl : _ = 33) (by decide) ?_
  refine V_iload_n Y.1 1 dJ6_stringSize_0f7a4_33 (rfl : _ = 34) rfl rfl ?_
  refine V_imul Y.1 dJ6_stringSize_0f7a4_34 (rfl : _ = 35) ?_
  refine V_nm (v := -10000) (by decide) ?_
  refine V_istore_n Y.1 (ls' := [(2, _), (3, _), (0, _), (1, _)]) dJ6_stringSize_0f7a4_35 (rfl : _ = 36) rfl (by decide) rfl ?_
  refine V_iinc Y.1 (v := 4) (ls' := [(3, _), (2, _), (0, _), (1, _)]) 1 dJ6_stringSize_0f7a4_36 (rfl : _ = 39) rfl (by decide) (by decide) rfl ?_
  refine V_goto Y.1 (tgt := 16) dJ6_stringSize_0f7a4_39 (by decide) ?_
  refine V_iload_n Y.1 0 dJ6_stringSize_0f7a4_16 (rfl : _ = 17) rfl rfl ?_
  refine V_bipush Y.1 (v := 10) dJ6_stringSize_0f7a4_17 (rfl : _ = 19) (by decide) ?_
  refine V_icmp_ge Y.1 (tgt := 42) dJ6_stringSize_0f7a4_19 (by decide) (rfl : _ = 22) (fun c_n => absurd c_n (by decide)) (fun _ => ?_)
  refine V_iload_n Y.1 2 dJ6_stringSize_0f7a4_22 (rfl : _ = 23) rfl rfl ?_
  refine V_iload_n Y.1 1 dJ6_stringSize_0f7a4_23 (rfl : _ = 24) rfl rfl ?_
  refine V_icmp_le Y.1 (tgt := 31) dJ6_stringSize_0f7a4_24 (by decide) (rfl : _ = 27) (fun c_n => absurd c_n (fun q => absurd ((neg_le (w := w) (m := 10000) (by omega) (by decide)).mp q) (by omega))) (fun _ => ?_)
  refine V_iload_n Y.1 0 dJ6_stringSize_0f7a4_27 (rfl : _ = 28) rfl rfl ?_
  refine V_iload_n Y.1 3 dJ6_stringSize_0f7a4_28 (rfl : _ = 29) rfl rfl ?_
  refine V_iadd Y.1 dJ6_stringSize_0f7a4_29 (rfl : _ = 30) ?_
  refine V_nm (v := nI 4) (by decide) ?_
  exact V_ret Y.1 dJ6_stringSize_0f7a4_30 rfl (Nat.le_of_ble_eq_true rfl) (Nat.le_of_ble_eq_true rfl) ⟨rfl, rfl⟩

set_option maxRecDepth 100000 in
set_option maxHeartbeats 4000000 in
theorem c_J6_stringSize_p5 (l : Launch) (D : va_G) (kA : Nat → ClassId) (H0 : Heap) (w : Nat) (h1 : 10000 ≤ w) (hw : w < 100000)  : Ct l D kA yJ6_stringSize_0f7a4 cJ6_stringSize_0f7a4 4 (some .int) 0 0 0 0 H0 [.int (nI w)] (nof) (pI fun v9 H => v9 = nI 5 ∧ H = H0) := by
  refine Ct.of mi_J6_stringSize_0f7a4 (Nat.le_of_ble_eq_true rfl) (ls0 := [(0, _)]) rfl ?_
  intro Pp Ee Ss Mm Ar Bl Me Cc Y hs hnm
  have sz : H0.size = H0.size := rfl
  refine V_iconst Y.1 (v := 1) dJ6_stringSize_0f7a4_0 (rfl : _ = 1) (by decide) ?_
  refine V_istore_n Y.1 (ls' := [(1, _), (0, _)]) dJ6_stringSize_0f7a4_1 (rfl : _ = 2) rfl (by decide) rfl ?_
  refine V_iload_n Y.1 1 dJ6_stringSize_0f7a4_2 (rfl : _ = 3) rfl rfl ?_
  refine V_if_lt Y.1 (tgt := 11) dJ6_stringSize_0f7a4_3 (by decide) (rfl : _ = 6) (fun c_n => absurd c_n (nI_pos (by omega))) (fun _ => ?_)
  refine V_iconst Y.1 (v := 0) dJ6_stringSize_0f7a4_6 (rfl : _ = 7) (by decide) ?_
  refine V_istore_n Y.1 (ls' := [(1, _), (0, _)]) dJ6_stringSize_0f7a4_7 (rfl : _ = 8) rfl (by decide) rfl ?_
  refine V_iload_n Y.1 1 dJ6_stringSize_0f7a4_8 (rfl : _ = 9) rfl rfl ?_
  refine V_ineg Y.1 dJ6_stringSize_0f7a4_9 (rfl : _ = 10) ?_
  refine V_istore_n Y.1 (ls' := [(0, _), (1, _)]) dJ6_stringSize_0f7a4_10 (rfl : _ = 11) rfl (by decide) rfl ?_
  refine V_bipush Y.1 (v := -10) dJ6_stringSize_0f7a4_11 (rfl : _ = 13) (by decide) ?_
  refine V_istore_n Y.1 (ls' := [(2, _), (0, _), (1, _)]) dJ6_stringSize_0f7a4_13 (rfl : _ = 14) rfl (by decide) rfl ?_
  refine V_iconst Y.1 (v := 1) dJ6_stringSize_0f7a4_14 (rfl : _ = 15) (by decide) ?_
  refine V_istore_n Y.1 (ls' := [(3, _), (2, _), (0, _), (1, _)]) dJ6_stringSize_0f7a4_15 (rfl : _ = 16) rfl (by decide) rfl ?_
  refine V_iload_n Y.1 0 dJ6_stringSize_0f7a4_16 (rfl : _ = 17) rfl rfl ?_
  refine V_bipush Y.1 (v := 10) dJ6_stringSize_0f7a4_17 (rfl : _ = 19) (by decide) ?_
  refine V_icmp_ge Y.1 (tgt := 42) dJ6_stringSize_0f7a4_19 (by decide) (rfl : _ = 22) (fun c_n => absurd c_n (by decide)) (fun _ => ?_)
  refine V_iload_n Y.1 2 dJ6_stringSize_0f7a4_22 (rfl : _ = 23) rfl rfl ?_
  refine V_iload_n Y.1 1 dJ6_stringSize_0f7a4_23 (rfl : _ = 24) rfl rfl ?_
  refine V_icmp_le Y.1 (tgt := 31) dJ6_stringSize_0f7a4_24 (by decide) (rfl : _ = 27) (fun _ => ?_) (fun c_n => absurd ((neg_le (w := w) (m := 10) (by omega) (by decide)).mpr (by omega)) c_n)
  refine V_bipush Y.1 (v := 10) dJ6_stringSize_0f7a4_31 (rfl : _ = 33) (by decide) ?_
  refine V_iload_n Y.1 1 dJ6_stringSize_0f7a4_33 (rfl : _ = 34) rfl rfl ?_
  refine V_imul Y.1 dJ6_stringSize_0f7a4_34 (rfl : _ = 35) ?_
  refine V_nm (v := -100) (by decide) ?_
  refine V_istore_n Y.1 (ls' := [(2, _), (3, _), (0, _), (1, _)]) dJ6_stringSize_0f7a4_35 (rfl : _ = 36) rfl (by decide) rfl ?_
  refine V_iinc Y.1 (v := 2) (ls' := [(3, _), (2, _), (0, _), (1, _)]) 1 dJ6_stringSize_0f7a4_36 (rfl : _ = 39) rfl (by decide) (by decide) rfl ?_
  refine V_goto Y.1 (tgt := 16) dJ6_stringSize_0f7a4_39 (by decide) ?_
  refine V_iload_n Y.1 0 dJ6_stringSize_0f7a4_16 (rfl : _ = 17) rfl rfl ?_
  refine V_bipush Y.1 (v := 10) dJ6_stringSize_0f7a4_17 (rfl : _ = 19) (by decide) ?_
  refine V_icmp_ge Y.1 (tgt := 42) dJ6_stringSize_0f7a4_19 (by decide) (rfl : _ = 22) (fun c_n => absurd c_n (by decide)) (fun _ => ?_)
  refine V_iload_n Y.1 2 dJ6_stringSize_0f7a4_22 (rfl : _ = 23) rfl rfl ?_
  refine V_iload_n Y.1 1 dJ6_stringSize_0f7a4_23 (rfl : _ = 24) rfl rfl ?_
  refine V_icmp_le Y.1 (tgt := 31) dJ6_stringSize_0f7a4_24 (by decide) (rfl : _ = 27) (fun _ => ?_) (fun c_n => absurd ((neg_le (w := w) (m := 100) (by omega) (by decide)).mpr (by omega)) c_n)
  refine V_bipush Y.1 (v := 10) dJ6_stringSize_0f7a4_31 (rfl : _ = 33) (by decide) ?_
  refine V_iload_n Y.1 1 dJ6_stringSize_0f7a4_33 (rfl : _ = 34) rfl rfl ?_
  refine V_imul Y.1 dJ6_stringSize_0f7a4_34 (rfl : _ = 35) ?_
  refine V_nm (v := -1000) (by decide) ?_
  refine V_istore_n Y.1 (ls' := [(2, _), (3, _), (0, _), (1, _)]) dJ6_stringSize_0f7a4_35 (rfl : _ = 36) rfl (by decide) rfl ?_
  refine V_iinc Y.1 (v := 3) (ls' := [(3, _), (2, _), (0, _), (1, _)]) 1 dJ6_stringSize_0f7a4_36 (rfl : _ = 39) rfl (by decide) (by decide) rfl ?_
  refine V_goto Y.1 (tgt := 16) dJ6_stringSize_0f7a4_39 (by decide) ?_
  refine V_iload_n Y.1 0 dJ6_stringSize_0f7a4_16 (rfl : _ = 17) rfl rfl ?_
  refine V_bipush Y.1 (v := 10) dJ6_stringSize_0f7a4_17 (rfl : _ = 19) (by decide) ?_
  refine V_icmp_ge Y.1 (tgt := 42) dJ6_stringSize_0f7a4_19 (by decide) (rfl : _ = 22) (fun c_n => absurd c_n (by decide)) (fun _ => ?_)
  refine V_iload_n Y.1 2 dJ6_stringSize_0f7a4_22 (rfl : _ = 23) rfl rfl ?_
  refine V_iload_n Y.1 1 dJ6_stringSize_0f7a4_23 (rfl : _ = 24) rfl rfl ?_
  refine V_icmp_le Y.1 (tgt := 31) dJ6_stringSize_0f7a4_24 (by decide) (rfl : _ = 27) (fun _ => ?_) (fun c_n => absurd ((neg_le (w := w) (m := 1000) (by omega) (by decide)).mpr (by omega)) c_n)
  refine V_bipush Y.1 (v := 10) dJ6_stringSize_0f7a4_31 (rfl : _ = 33) (by decide) ?_
  refine V_iload_n Y.1 1 dJ6_stringSize_0f7a4_33 (rfl : _ = 34) rfl rfl ?_
  refine V_imul Y.1 dJ6_stringSize_0f7a4_34 (rfl : _ = 35) ?_
  refine V_nm (v := -10000) (by decide) ?_
  refine V_istore_n Y.1 (ls' := [(2, _), (3, _), (0, _), (1, _)]) dJ6_stringSize_0f7a4_35 (rfl : _ = 36) rfl (by decide) rfl ?_
  refine V_iinc Y.1 (v := 4) (ls' := [(3, _), (2, _), (0, _), (1, _)]) 1 dJ6_stringSize_0f7a4_36 (rfl : _ = 39) rfl (by decide) (by decide) rfl ?_
  refine V_goto Y.1 (tgt := 16) dJ6_stringSize_0f7a4_39 (by decide) ?_
  refine V_iload_n Y.1 0 dJ6_stringSize_0f7a4_16 (rfl : _ = 17) rfl rfl ?_
  refine V_bipush Y.1 (v := 10) dJ6_stringSize_0f7a4_17 (rfl : _ = 19) (by decide) ?_
  refine V_icmp_ge Y.1 (tgt := 42) dJ6_stringSize_0f7a4_19 (by decide) (rfl : _ = 22) (fun c_n => absurd c_n (by decide)) (fun _ => ?_)
  refine V_iload_n Y.1 2 dJ6_stringSize_0f7a4_22 (rfl : _ = 23) rfl rfl ?_
  refine V_iload_n Y.1 1 dJ6_stringSize_0f7a4_23 (rfl : _ = 24) rfl rfl ?_
  refine V_icmp_le Y.1 (tgt := 31) dJ6_stringSize_0f7a4_24 (by decide) (rfl : _ = 27) (fun _ => ?_) (fun c_n => absurd ((neg_le (w := w) (m := 10000) (by omega) (by decide)).mpr (by omega)) c_n)
  refine V_bipush Y.1 (v := 10) dJ6_stringSize_0f7a4_31 (rfl : _ = 33) (by decide) ?_
  refine V_iload_n Y.1 1 dJ6_stringSize_0f7a4_33 (rfl : _ = 34) rfl rfl ?_
  refine V_imul Y.1 dJ6_stringSize_0f7a4_34 (rfl : _ = 35) ?_
  refine V_nm (v := -100000) (by decide) ?_
  refine V_istore_n Y.1 (ls' := [(2, _), (3, _), (0, _), (1, _)]) dJ6_stringSize_0f7a4_35 (rfl : _ = 36) rfl (by decide) rfl ?_
  refine V_iinc Y.1 (v := 5) (ls' := [(3, _), (2, _), (0, _), (1, _)]) 1 dJ6_stringSize_0f7a4_36 (rfl : _ = 39) rfl (by decide) (by decide) rfl ?_
  refine V_goto Y.1 (tgt := 16) dJ6_stringSize_0f7a4_39 (by decide) ?_
  refine V_iload_n Y.1 0 dJ6_stringSize_0f7a4_16 (rfl : _ = 17) rfl rfl ?_
  refine V_bipush Y.1 (v := 10) dJ6_stringSize_0f7a4_17 (rfl : _ = 19) (by decide) ?_
  refine V_icmp_ge Y.1 (tgt := 42) dJ6_stringSize_0f7a4_19 (by decide) (rfl : _ = 22) (fun c_n => absurd c_n (by decide)) (fun _ => ?_)
  refine V_iload_n Y.1 2 dJ6_stringSize_0f7a4_22 (rfl : _ = 23) rfl rfl ?_
  refine V_iload_n Y.1 1 dJ6_stringSize_0f7a4_23 (rfl : _ = 24) rfl rfl ?_
  refine V_icmp_le Y.1 (tgt := 31) dJ6_stringSize_0f7a4_24 (by decide) (rfl : _ = 27) (fun c_n => absurd c_n (fun q => absurd ((neg_le (w := w) (m := 100000) (by omega) (by decide)).mp q) (by omega))) (fun _ => ?_)
  refine V_iload_n Y.1 0 dJ6_stringSize_0f7a4_27 (rfl : _ = 28) rfl rfl ?_
  refine V_iload_n Y.1 3 dJ6_stringSize_0f7a4_28 (rfl : _ = 29) rfl rfl ?_
  refine V_iadd Y.1 dJ6_stringSize_0f7a4_29 (rfl : _ = 30) ?_
  refine V_nm (v := nI 5) (by decide) ?_
  exact V_ret Y.1 dJ6_stringSize_0f7a4_30 rfl (Nat.le_of_ble_eq_true rfl) (Nat.le_of_ble_eq_true rfl) ⟨rfl, rfl⟩

set_option maxRecDepth 100000 in
set_option maxHeartbeats 4000000 in
theorem c_J6_stringSize_n1 (l : Launch) (D : va_G) (kA : Nat → ClassId) (H0 : Heap) (w : Nat) (hw : w < 10) (h0 : 0 < w)  : Ct l D kA yJ6_stringSize_0f7a4 cJ6_stringSize_0f7a4 4 (some .int) 0 0 0 0 H0 [.int (-(nI w))] (nof) (pI fun v9 H => v9 = nI 2 ∧ H = H0) := by
  refine Ct.of mi_J6_stringSize_0f7a4 (Nat.le_of_ble_eq_true rfl) (ls0 := [(0, _)]) rfl ?_
  intro Pp Ee Ss Mm Ar Bl Me Cc Y hs hnm
  have sz : H0.size = H0.size := rfl
  refine V_iconst Y.1 (v := 1) dJ6_stringSize_0f7a4_0 (rfl : _ = 1) (by decide) ?_
  refine V_istore_n Y.1 (ls' := [(1, _), (0, _)]) dJ6_stringSize_0f7a4_1 (rfl : _ = 2) rfl (by decide) rfl ?_
  refine V_iload_n Y.1 1 dJ6_stringSize_0f7a4_2 (rfl : _ = 3) rfl rfl ?_
  refine V_if_lt Y.1 (tgt := 11) dJ6_stringSize_0f7a4_3 (by decide) (rfl : _ = 6) (fun _ => ?_) (fun c_n => absurd (neg_lt0 h0 (by omega)) c_n)
  refine V_bipush Y.1 (v := -10) dJ6_stringSize_0f7a4_11 (rfl : _ = 13) (by decide) ?_
  refine V_istore_n Y.1 (ls' := [(2, _), (1, _), (0, _)]) dJ6_stringSize_0f7a4_13 (rfl : _ = 14) rfl (by decide) rfl ?_
  refine V_iconst Y.1 (v := 1) dJ6_stringSize_0f7a4_14 (rfl : _ = 15) (by decide) ?_
  refine V_istore_n Y.1 (ls' := [(3, _), (2, _), (1, _), (0, _)]) dJ6_stringSize_0f7a4_15 (rfl : _ = 16) rfl (by decide) rfl ?_
  refine V_iload_n Y.1 0 dJ6_stringSize_0f7a4_16 (rfl : _ = 17) rfl rfl ?_
  refine V_bipush Y.1 (v := 10) dJ6_stringSize_0f7a4_17 (rfl : _ = 19) (by decide) ?_
  refine V_icmp_ge Y.1 (tgt := 42) dJ6_stringSize_0f7a4_19 (by decide) (rfl : _ = 22) (fun c_n => absurd c_n (by decide)) (fun _ => ?_)
  refine V_iload_n Y.1 3 dJ6_stringSize_0f7a4_22 (rfl : _ = 23) rfl rfl ?_
  refine V_iload_n Y.1 1 dJ6_stringSize_0f7a4_23 (rfl : _ = 24) rfl rfl ?_
  refine V_icmp_le Y.1 (tgt := 31) dJ6_stringSize_0f7a4_24 (by decide) (rfl : _ = 27) (fun c_n => absurd c_n (fun q => absurd ((neg_le (w := w) (m := 10) (by omega) (by decide)).mp q) (by omega))) (fun _ => ?_)
  refine V_iload_n Y.1 0 dJ6_stringSize_0f7a4_27 (rfl : _ = 28) rfl rfl ?_
  refine V_iload_n Y.1 2 dJ6_stringSize_0f7a4_28 (rfl : _ = 29) rfl rfl ?_
  refine V_iadd Y.1 dJ6_stringSize_0f7a4_29 (rfl : _ = 30) ?_
  refine V_nm (v := nI 2) (by decide) ?_
  exact V_ret Y.1 dJ6_stringSize_0f7a4_30 rfl (Nat.le_of_ble_eq_true rfl) (Nat.le_of_ble_eq_true rfl) ⟨rfl, rfl⟩

set_option maxRecDepth 100000 in
set_option maxHeartbeats 4000000 in
theorem c_J6_stringSize_n2 (l : Launch) (D : va_G) (kA : Nat → ClassId) (H0 : Heap) (w : Nat) (h1 : 10 ≤ w) (hw : w < 100) (h0 : 0 < w)  : Ct l D kA yJ6_stringSize_0f7a4 cJ6_stringSize_0f7a4 4 (some .int) 0 0 0 0 H0 [.int (-(nI w))] (nof) (pI fun v9 H => v9 = nI 3 ∧ H = H0) := by
  refine Ct.of mi_J6_stringSize_0f7a4 (Nat.le_of_ble_eq_true rfl) (ls0 := [(0, _)]) rfl ?_
  intro Pp Ee Ss Mm Ar Bl Me Cc Y hs hnm
  have sz : H0.size = H0.size := rfl
  refine V_iconst Y.1 (v := 1) dJ6_stringSize_0f7a4_0 (rfl : _ = 1) (by decide) ?_
  refine V_istore_n Y.1 (ls' := [(1, _), (0, _)]) dJ6_stringSize_0f7a4_1 (rfl : _ = 2) rfl (by decide) rfl ?_
  refine V_iload_n Y.1 1 dJ6_stringSize_0f7a4_2 (rfl : _ = 3) rfl rfl ?_
  refine V_if_lt Y.1 (tgt := 11) dJ6_stringSize_0f7a4_3 (by decide) (rfl : _ = 6) (fun _ => ?_) (fun c_n => absurd (neg_lt0 h0 (by omega)) c_n)
  refine V_bipush Y.1 (v := -10) dJ6_stringSize_0f7a4_11 (rfl : _ = 13) (by decide) ?_
  refine V_istore_n Y.1 (ls' := [(2, _), (1, _), (0, _)]) dJ6_stringSize_0f7a4_13 (rfl : _ = 14) rfl (by decide) rfl ?_
  refine V_iconst Y.1 (v := 1) dJ6_stringSize_0f7a4_14 (rfl : _ = 15) (by decide) ?_
  refine V_istore_n Y.1 (ls' := [(3, _), (2, _), (1, _), (0, _)]) dJ6_stringSize_0f7a4_15 (rfl : _ = 16) rfl (by decide) rfl ?_
  refine V_iload_n Y.1 0 dJ6_stringSize_0f7a4_16 (rfl : _ = 17) rfl rfl ?_
  refine V_bipush Y.1 (v := 10) dJ6_stringSize_0f7a4_17 (rfl : _ = 19) (by decide) ?_
  refine V_icmp_ge Y.1 (tgt := 42) dJ6_stringSize_0f7a4_19 (by decide) (rfl : _ = 22) (fun c_n => absurd c_n (by decide)) (fun _ => ?_)
  refine V_iload_n Y.1 3 dJ6_stringSize_0f7a4_22 (rfl : _ = 23) rfl rfl ?_
  refine V_iload_n Y.1 1 dJ6_stringSize_0f7a4_23 (rfl : _ = 24) rfl rfl ?_
  refine V_icmp_le Y.1 (tgt := 31) dJ6_stringSize_0f7a4_24 (by decide) (rfl : _ = 27) (fun _ => ?_) (fun c_n => absurd ((neg_le (w := w) (m := 10) (by omega) (by decide)).mpr (by omega)) c_n)
  refine V_bipush Y.1 (v := 10) dJ6_stringSize_0f7a4_31 (rfl : _ = 33) (by decide) ?_
  refine V_iload_n Y.1 1 dJ6_stringSize_0f7a4_33 (rfl : _ = 34) rfl rfl ?_
  refine V_imul Y.1 dJ6_stringSize_0f7a4_34 (rfl : _ = 35) ?_
  refine V_nm (v := -100) (by decide) ?_
  refine V_istore_n Y.1 (ls' := [(2, _), (3, _), (1, _), (0, _)]) dJ6_stringSize_0f7a4_35 (rfl : _ = 36) rfl (by decide) rfl ?_
  refine V_iinc Y.1 (v := 2) (ls' := [(3, _), (2, _), (1, _), (0, _)]) 1 dJ6_stringSize_0f7a4_36 (rfl : _ = 39) rfl (by decide) (by decide) rfl ?_
  refine V_goto Y.1 (tgt := 16) dJ6_stringSize_0f7a4_39 (by decide) ?_
  refine V_iload_n Y.1 0 dJ6_stringSize_0f7a4_16 (rfl : _ = 17) rfl rfl ?_
  refine V_bipush Y.1 (v := 10) dJ6_stringSize_0f7a4_17 (rfl : _ = 19) (by decide) ?_
  refine V_icmp_ge Y.1 (tgt := 42) dJ6_stringSize_0f7a4_19 (by decide) (rfl : _ = 22) (fun c_n => absurd c_n (by decide)) (fun _ => ?_)
  refine V_iload_n Y.1 3 dJ6_stringSize_0f7a4_22 (rfl : _ = 23) rfl rfl ?_
  refine V_iload_n Y.1 1 dJ6_stringSize_0f7a4_23 (rfl : _ = 24) rfl rfl ?_
  refine V_icmp_le Y.1 (tgt := 31) dJ6_stringSize_0f7a4_24 (by decide) (rfl : _ = 27) (fun c_n => absurd c_n (fun q => absurd ((neg_le (w := w) (m := 100) (by omega) (by decide)).mp q) (by omega))) (fun _ => ?_)
  refine V_iload_n Y.1 0 dJ6_stringSize_0f7a4_27 (rfl : _ = 28) rfl rfl ?_
  refine V_iload_n Y.1 2 dJ6_stringSize_0f7a4_28 (rfl : _ = 29) rfl rfl ?_
  refine V_iadd Y.1 dJ6_stringSize_0f7a4_29 (rfl : _ = 30) ?_
  refine V_nm (v := nI 3) (by decide) ?_
  exact V_ret Y.1 dJ6_stringSize_0f7a4_30 rfl (Nat.le_of_ble_eq_true rfl) (Nat.le_of_ble_eq_true rfl) ⟨rfl, rfl⟩

set_option maxRecDepth 100000 in
set_option maxHeartbeats 4000000 in
theorem c_J6_stringSize_n3 (l : Launch) (D : va_G) (kA : Nat → ClassId) (H0 : Heap) (w : Nat) (h1 : 100 ≤ w) (hw : w < 1000) (h0 : 0 < w)  : Ct l D kA yJ6_stringSize_0f7a4 cJ6_stringSize_0f7a4 4 (some .int) 0 0 0 0 H0 [.int (-(nI w))] (nof) (pI fun v9 H => v9 = nI 4 ∧ H = H0) := by
  refine Ct.of mi_J6_stringSize_0f7a4 (Nat.le_of_ble_eq_true rfl) (ls0 := [(0, _)]) rfl ?_
  intro Pp Ee Ss Mm Ar Bl Me Cc Y hs hnm
  have sz : H0.size = H0.size := rfl
  refine V_iconst Y.1 (v := 1) dJ6_stringSize_0f7a4_0 (rfl : _ = 1) (by decide) ?_
  refine V_istore_n Y.1 (ls' := [(1, _), (0, _)]) dJ6_stringSize_0f7a4_1 (rfl : _ = 2) rfl (by decide) rfl ?_
  refine V_iload_n Y.1 1 dJ6_stringSize_0f7a4_2 (rfl : _ = 3) rfl rfl ?_
  refine V_if_lt Y.1 (tgt := 11) dJ6_stringSize_0f7a4_3 (by decide) (rfl : _ = 6) (fun _ => ?_) (fun c_n => absurd (neg_lt0 h0 (by omega)) c_n)
  refine V_bipush Y.1 (v := -10) dJ6_stringSize_0f7a4_11 (rfl : _ = 13) (by decide) ?_
  refine V_istore_n Y.1 (ls' := [(2, _), (1, _), (0, _)]) dJ6_stringSize_0f7a4_13 (rfl : _ = 14) rfl (by decide) rfl ?_
  refine V_iconst Y.1 (v := 1) dJ6_stringSize_0f7a4_14 (rfl : _ = 15) (by decide) ?_
  refine V_istore_n Y.1 (ls' := [(3, _), (2, _), (1, _), (0, _)]) dJ6_stringSize_0f7a4_15 (rfl : _ = 16) rfl (by decide) rfl ?_
  refine V_iload_n Y.1 0 dJ6_stringSize_0f7a4_16 (rfl : _ = 17) rfl rfl ?_
  refine V_bipush Y.1 (v := 10) dJ6_stringSize_0f7a4_17 (rfl : _ = 19) (by decide) ?_
  refine V_icmp_ge Y.1 (tgt := 42) dJ6_stringSize_0f7a4_19 (by decide) (rfl : _ = 22) (fun c_n => absurd c_n (by decide)) (fun _ => ?_)
  refine V_iload_n Y.1 3 dJ6_stringSize_0f7a4_22 (rfl : _ = 23) rfl rfl ?_
  refine V_iload_n Y.1 1 dJ6_stringSize_0f7a4_23 (rfl : _ = 24) rfl rfl ?_
  refine V_icmp_le Y.1 (tgt := 31) dJ6_stringSize_0f7a4_24 (by decide) (rfl : _ = 27) (fun _ => ?_) (fun c_n => absurd ((neg_le (w := w) (m := 10) (by omega) (by decide)).mpr (by omega)) c_n)
  refine V_bipush Y.1 (v := 10) dJ6_stringSize_0f7a4_31 (rfl : _ = 33) (by decide) ?_
  refine V_iload_n Y.1 1 dJ6_stringSize_0f7a4_33 (rfl : _ = 34) rfl rfl ?_
  refine V_imul Y.1 dJ6_stringSize_0f7a4_34 (rfl : _ = 35) ?_
  refine V_nm (v := -100) (by decide) ?_
  refine V_istore_n Y.1 (ls' := [(2, _), (3, _), (1, _), (0, _)]) dJ6_stringSize_0f7a4_35 (rfl : _ = 36) rfl (by decide) rfl ?_
  refine V_iinc Y.1 (v := 2) (ls' := [(3, _), (2, _), (1, _), (0, _)]) 1 dJ6_stringSize_0f7a4_36 (rfl : _ = 39) rfl (by decide) (by decide) rfl ?_
  refine V_goto Y.1 (tgt := 16) dJ6_stringSize_0f7a4_39 (by decide) ?_
  refine V_iload_n Y.1 0 dJ6_stringSize_0f7a4_16 (rfl : _ = 17) rfl rfl ?_
  refine V_bipush Y.1 (v := 10) dJ6_stringSize_0f7a4_17 (rfl : _ = 19) (by decide) ?_
  refine V_icmp_ge Y.1 (tgt := 42) dJ6_stringSize_0f7a4_19 (by decide) (rfl : _ = 22) (fun c_n => absurd c_n (by decide)) (fun _ => ?_)
  refine V_iload_n Y.1 3 dJ6_stringSize_0f7a4_22 (rfl : _ = 23) rfl rfl ?_
  refine V_iload_n Y.1 1 dJ6_stringSize_0f7a4_23 (rfl : _ = 24) rfl rfl ?_
  refine V_icmp_le Y.1 (tgt := 31) dJ6_stringSize_0f7a4_24 (by decide) (rfl : _ = 27) (fun _ => ?_) (fun c_n => absurd ((neg_le (w := w) (m := 100) (by omega) (by decide)).mpr (by omega)) c_n)
  refine V_bipush Y.1 (v := 10) dJ6_stringSize_0f7a4_31 (rfl : _ = 33) (by decide) ?_
  refine V_iload_n Y.1 1 dJ6_stringSize_0f7a4_33 (rfl : _ = 34) rfl rfl ?_
  refine V_imul Y.1 dJ6_stringSize_0f7a4_34 (rfl : _ = 35) ?_
  refine V_nm (v := -1000) (by decide) ?_
  refine V_istore_n Y.1 (ls' := [(2, _), (3, _), (1, _), (0, _)]) dJ6_stringSize_0f7a4_35 (rfl : _ = 36) rfl (by decide) rfl ?_
  refine V_iinc Y.1 (v := 3) (ls' := [(3, _), (2, _), (1, _), (0, _)]) 1 dJ6_stringSize_0f7a4_36 (rfl : _ = 39) rfl (by decide) (by decide) rfl ?_
  refine V_goto Y.1 (tgt := 16) dJ6_stringSize_0f7a4_39 (by decide) ?_
  refine V_iload_n Y.1 0 dJ6_stringSize_0f7a4_16 (rfl : _ = 17) rfl rfl ?_
  refine V_bipush Y.1 (v := 10) dJ6_stringSize_0f7a4_17 (rfl : _ = 19) (by decide) ?_
  refine V_icmp_ge Y.1 (tgt := 42) dJ6_stringSize_0f7a4_19 (by decide) (rfl : _ = 22) (fun c_n => absurd c_n (by decide)) (fun _ => ?_)
  refine V_iload_n Y.1 3 dJ6_stringSize_0f7a4_22 (rfl : _ = 23) rfl rfl ?_
  refine V_iload_n Y.1 1 dJ6_stringSize_0f7a4_23 (rfl : _ = 24) rfl rfl ?_
  refine V_icmp_le Y.1 (tgt := 31) dJ6_stringSize_0f7a4_24 (by decide) (rfl : _ = 27) (fun c_n => absurd c_n (fun q => absurd ((neg_le (w := w) (m := 1000) (by omega) (by decide)).mp q) (by omega))) (fun _ => ?_)
  refine V_iload_n Y.1 0 dJ6_stringSize_0f7a4_27 (rfl : _ = 28) rfl rfl ?_
  refine V_iload_n Y.1 2 dJ6_stringSize_0f7a4_28 (rfl : _ = 29) rfl rfl ?_
  refine V_iadd Y.1 dJ6_stringSize_0f7a4_29 (rfl : _ = 30) ?_
  refine V_nm (v := nI 4) (by decide) ?_
  exact V_ret Y.1 dJ6_stringSize_0f7a4_30 rfl (Nat.le_of_ble_eq_true rfl) (Nat.le_of_ble_eq_true rfl) ⟨rfl, rfl⟩

set_option maxRecDepth 100000 in
set_option maxHeartbeats 4000000 in
theorem c_J6_stringSize_n4 (l : Launch) (D : va_G) (kA : Nat → ClassId) (H0 : Heap) (w : Nat) (h1 : 1000 ≤ w) (hw : w < 10000) (h0 : 0 < w)  : Ct l D kA yJ6_stringSize_0f7a4 cJ6_stringSize_0f7a4 4 (some .int) 0 0 0 0 H0 [.int (-(nI w))] (nof) (pI fun v9 H => v9 = nI 5 ∧ H = H0) := by
  refine Ct.of mi_J6_stringSize_0f7a4 (Nat.le_of_ble_eq_true rfl) (ls0 := [(0, _)]) rfl ?_
  intro Pp Ee Ss Mm Ar Bl Me Cc Y hs hnm
  have sz : H0.size = H0.size := rfl
  refine V_iconst Y.1 (v := 1) dJ6_stringSize_0f7a4_0 (rfl : _ = 1) (by decide) ?_
  refine V_istore_n Y.1 (ls' := [(1, _), (0, _)]) dJ6_stringSize_0f7a4_1 (rfl : _ = 2) rfl (by decide) rfl ?_
  refine V_iload_n Y.1 1 dJ6_stringSize_0f7a4_2 (rfl : _ = 3) rfl rfl ?_
  refine V_if_lt Y.1 (tgt := 11) dJ6_stringSize_0f7a4_3 (by decide) (rfl : _ = 6) (fun _ => ?_) (fun c_n => absurd (neg_lt0 h0 (by omega)) c_n)
  refine V_bipush Y.1 (v := -10) dJ6_stringSize_0f7a4_11 (rfl : _ = 13) (by decide) ?_
  refine V_istore_n Y.1 (ls' := [(2, _), (1, _), (0, _)]) dJ6_stringSize_0f7a4_13 (rfl : _ = 14) rfl (by decide) rfl ?_
  refine V_iconst Y.1 (v := 1) dJ6_stringSize_0f7a4_14 (rfl : _ = 15) (by decide) ?_
  refine V_istore_n Y.1 (ls' := [(3, _), (2, _), (1, _), (0, _)]) dJ6_stringSize_0f7a4_15 (rfl : _ = 16) rfl (by decide) rfl ?_
  refine V_iload_n Y.1 0 dJ6_stringSize_0f7a4_16 (rfl : _ = 17) rfl rfl ?_
  refine V_bipush Y.1 (v := 10) dJ6_stringSize_0f7a4_17 (rfl : _ = 19) (by decide) ?_
  refine V_icmp_ge Y.1 (tgt := 42) dJ6_stringSize_0f7a4_19 (by decide) (rfl : _ = 22) (fun c_n => absurd c_n (by decide)) (fun _ => ?_)
  refine V_iload_n Y.1 3 dJ6_stringSize_0f7a4_22 (rfl : _ = 23) rfl rfl ?_
  refine V_iload_n Y.1 1 dJ6_stringSize_0f7a4_23 (rfl : _ = 24) rfl rfl ?_
  refine V_icmp_le Y.1 (tgt := 31) dJ6_stringSize_0f7a4_24 (by decide) (rfl : _ = 27) (fun _ => ?_) (fun c_n => absurd ((neg_le (w := w) (m := 10) (by omega) (by decide)).mpr (by omega)) c_n)
  refine V_bipush Y.1 (v := 10) dJ6_stringSize_0f7a4_31 (rfl : _ = 33) (by decide) ?_
  refine V_iload_n Y.1 1 dJ6_stringSize_0f7a4_33 (rfl : _ = 34) rfl rfl ?_
  refine V_imul Y.1 dJ6_stringSize_0f7a4_34 (rfl : _ = 35) ?_
  refine V_nm (v := -100) (by decide) ?_
  refine V_istore_n Y.1 (ls' := [(2, _), (3, _), (1, _), (0, _)]) dJ6_stringSize_0f7a4_35 (rfl : _ = 36) rfl (by decide) rfl ?_
  refine V_iinc Y.1 (v := 2) (ls' := [(3, _), (2, _), (1, _), (0, _)]) 1 dJ6_stringSize_0f7a4_36 (rfl : _ = 39) rfl (by decide) (by decide) rfl ?_
  refine V_goto Y.1 (tgt := 16) dJ6_stringSize_0f7a4_39 (by decide) ?_
  refine V_iload_n Y.1 0 dJ6_stringSize_0f7a4_16 (rfl : _ = 17) rfl rfl ?_
  refine V_bipush Y.1 (v := 10) dJ6_stringSize_0f7a4_17 (rfl : _ = 19) (by decide) ?_
  refine V_icmp_ge Y.1 (tgt := 42) dJ6_stringSize_0f7a4_19 (by decide) (rfl : _ = 22) (fun c_n => absurd c_n (by decide)) (fun _ => ?_)
  refine V_iload_n Y.1 3 dJ6_stringSize_0f7a4_22 (rfl : _ = 23) rfl rfl ?_
  refine V_iload_n Y.1 1 dJ6_stringSize_0f7a4_23 (rfl : _ = 24) rfl rfl ?_
  refine V_icmp_le Y.1 (tgt := 31) dJ6_stringSize_0f7a4_24 (by decide) (rfl : _ = 27) (fun _ => ?_) (fun c_n => absurd ((neg_le (w := w) (m := 100) (by omega) (by decide)).mpr (by omega)) c_n)
  refine V_bipush Y.1 (v := 10) dJ6_stringSize_0f7a4_31 (rfl : _ = 33) (by decide) ?_
  refine V_iload_n Y.1 1 dJ6_stringSize_0f7a4_33 (rfl : _ = 34) rfl rfl ?_
  refine V_imul Y.1 dJ6_stringSize_0f7a4_34 (rfl : _ = 35) ?_
  refine V_nm (v := -1000) (by decide) ?_
  refine V_istore_n Y.1 (ls' := [(2, _), (3, _), (1, _), (0, _)]) dJ6_stringSize_0f7a4_35 (rfl : _ = 36) rfl (by decide) rfl ?_
  refine V_iinc Y.1 (v := 3) (ls' := [(3, _), (2, _), (1, _), (0, _)]) 1 dJ6_stringSize_0f7a4_36 (rfl : _ = 39) rfl (by decide) (by decide) rfl ?_
  refine V_goto Y.1 (tgt := 16) dJ6_stringSize_0f7a4_39 (by decide) ?_
  refine V_iload_n Y.1 0 dJ6_stringSize_0f7a4_16 (rfl : _ = 17) rfl rfl ?_
  refine V_bipush Y.1 (v := 10) dJ6_stringSize_0f7a4_17 (rfl : _ = 19) (by decide) ?_
  refine V_icmp_ge Y.1 (tgt := 42) dJ6_stringSize_0f7a4_19 (by decide) (rfl : _ = 22) (fun c_n => absurd c_n (by decide)) (fun _ => ?_)
  refine V_iload_n Y.1 3 dJ6_stringSize_0f7a4_22 (rfl : _ = 23) rfl rfl ?_
  refine V_iload_n Y.1 1 dJ6_stringSize_0f7a4_23 (rfl : _ = 24) rfl rfl ?_
  refine V_icmp_le Y.1 (tgt := 31) dJ6_stringSize_0f7a4_24 (by decide) (rfl : _ = 27) (fun _ => ?_) (fun c_n => absurd ((neg_le (w := w) (m := 1000) (by omega) (by decide)).mpr (by omega)) c_n)
  refine V_bipush Y.1 (v := 10) dJ6_stringSize_0f7a4_31 (rfl : _ = 33) (by decide) ?_
  refine V_iload_n Y.1 1 dJ6_stringSize_0f7a4_33 (rfl : _ = 34) rfl rfl ?_
  refine V_imul Y.1 dJ6_stringSize_0f7a4_34 (rfl : _ = 35) ?_
  refine V_nm (v := -10000) (by decide) ?_
  refine V_istore_n Y.1 (ls' := [(2, _), (3, _), (1, _), (0, _)]) dJ6_stringSize_0f7a4_35 (rfl : _ = 36) rfl (by decide) rfl ?_
  refine V_iinc Y.1 (v := 4) (ls' := [(3, _), (2, _), (1, _), (0, _)]) 1 dJ6_stringSize_0f7a4_36 (rfl : _ = 39) rfl (by decide) (by decide) rfl ?_
  refine V_goto Y.1 (tgt := 16) dJ6_stringSize_0f7a4_39 (by decide) ?_
  refine V_iload_n Y.1 0 dJ6_stringSize_0f7a4_16 (rfl : _ = 17) rfl rfl ?_
  refine V_bipush Y.1 (v := 10) dJ6_stringSize_0f7a4_17 (rfl : _ = 19) (by decide) ?_
  refine V_icmp_ge Y.1 (tgt := 42) dJ6_stringSize_0f7a4_19 (by decide) (rfl : _ = 22) (fun c_n => absurd c_n (by decide)) (fun _ => ?_)
  refine V_iload_n Y.1 3 dJ6_stringSize_0f7a4_22 (rfl : _ = 23) rfl rfl ?_
  refine V_iload_n Y.1 1 dJ6_stringSize_0f7a4_23 (rfl : _ = 24) rfl rfl ?_
  refine V_icmp_le Y.1 (tgt := 31) dJ6_stringSize_0f7a4_24 (by decide) (rfl : _ = 27) (fun c_n => absurd c_n (fun q => absurd ((neg_le (w := w) (m := 10000) (by omega) (by decide)).mp q) (by omega))) (fun _ => ?_)
  refine V_iload_n Y.1 0 dJ6_stringSize_0f7a4_27 (rfl : _ = 28) rfl rfl ?_
  refine V_iload_n Y.1 2 dJ6_stringSize_0f7a4_28 (rfl : _ = 29) rfl rfl ?_
  refine V_iadd Y.1 dJ6_stringSize_0f7a4_29 (rfl : _ = 30) ?_
  refine V_nm (v := nI 5) (by decide) ?_
  exact V_ret Y.1 dJ6_stringSize_0f7a4_30 rfl (Nat.le_of_ble_eq_true rfl) (Nat.le_of_ble_eq_true rfl) ⟨rfl, rfl⟩

set_option maxRecDepth 100000 in
set_option maxHeartbeats 4000000 in
theorem c_J6_stringSize_n5 (l : Launch) (D : va_G) (kA : Nat → ClassId) (H0 : Heap) (w : Nat) (h1 : 10000 ≤ w) (hw : w < 100000) (h0 : 0 < w)  : Ct l D kA yJ6_stringSize_0f7a4 cJ6_stringSize_0f7a4 4 (some .int) 0 0 0 0 H0 [.int (-(nI w))] (nof) (pI fun v9 H => v9 = nI 6 ∧ H = H0) := by
  refine Ct.of mi_J6_stringSize_0f7a4 (Nat.le_of_ble_eq_true rfl) (ls0 := [(0, _)]) rfl ?_
  intro Pp Ee Ss Mm Ar Bl Me Cc Y hs hnm
  have sz : H0.size = H0.size := rfl
  refine V_iconst Y.1 (v := 1) dJ6_stringSize_0f7a4_0 (rfl : _ = 1) (by decide) ?_
  refine V_istore_n Y.1 (ls' := [(1, _), (0, _)]) dJ6_stringSize_0f7a4_1 (rfl : _ = 2) rfl (by decide) rfl ?_
  refine V_iload_n Y.1 1 dJ6_stringSize_0f7a4_2 (rfl : _ = 3) rfl rfl ?_
  refine V_if_lt Y.1 (tgt := 11) dJ6_stringSize_0f7a4_3 (by decide) (rfl : _ = 6) (fun _ => ?_) (fun c_n => absurd (neg_lt0 h0 (by omega)) c_n)
  refine V_bipush Y.1 (v := -10) dJ6_stringSize_0f7a4_11 (rfl : _ = 13) (by decide) ?_
  refine V_istore_n Y.1 (ls' := [(2, _), (1, _), (0, _)]) dJ6_stringSize_0f7a4_13 (rfl : _ = 14) rfl (by decide) rfl ?_
  refine V_iconst Y.1 (v := 1) dJ6_stringSize_0f7a4_14 (rfl : _ = 15) (by decide) ?_
  refine V_istore_n Y.1 (ls' := [(3, _), (2, _), (1, _), (0, _)]) dJ6_stringSize_0f7a4_15 (rfl : _ = 16) rfl (by decide) rfl ?_
  refine V_iload_n Y.1 0 dJ6_stringSize_0f7a4_16 (rfl : _ = 17) rfl rfl ?_
  refine V_bipush Y.1 (v := 10) dJ6_stringSize_0f7a4_17 (rfl : _ = 19) (by decide) ?_
  refine V_icmp_ge Y.1 (tgt := 42) dJ6_stringSize_0f7a4_19 (by decide) (rfl : _ = 22) (fun c_n => absurd c_n (by decide)) (fun _ => ?_)
  refine V_iload_n Y.1 3 dJ6_stringSize_0f7a4_22 (rfl : _ = 23) rfl rfl ?_
  refine V_iload_n Y.1 1 dJ6_stringSize_0f7a4_23 (rfl : _ = 24) rfl rfl ?_
  refine V_icmp_le Y.1 (tgt := 31) dJ6_stringSize_0f7a4_24 (by decide) (rfl : _ = 27) (fun _ => ?_) (fun c_n => absurd ((neg_le (w := w) (m := 10) (by omega) (by decide)).mpr (by omega)) c_n)
  refine V_bipush Y.1 (v := 10) dJ6_stringSize_0f7a4_31 (rfl : _ = 33) (by decide) ?_
  refine V_iload_n Y.1 1 dJ6_stringSize_0f7a4_33 (rfl : _ = 34) rfl rfl ?_
  refine V_imul Y.1 dJ6_stringSize_0f7a4_34 (rfl : _ = 35) ?_
  refine V_nm (v := -100) (by decide) ?_
  refine V_istore_n Y.1 (ls' := [(2, _), (3, _), (1, _), (0, _)]) dJ6_stringSize_0f7a4_35 (rfl : _ = 36) rfl (by decide) rfl ?_
  refine V_iinc Y.1 (v := 2) (ls' := [(3, _), (2, _), (1, _), (0, _)]) 1 dJ6_stringSize_0f7a4_36 (rfl : _ = 39) rfl (by decide) (by decide) rfl ?_
  refine V_goto Y.1 (tgt := 16) dJ6_stringSize_0f7a4_39 (by decide) ?_
  refine V_iload_n Y.1 0 dJ6_stringSize_0f7a4_16 (rfl : _ = 17) rfl rfl ?_
  refine V_bipush Y.1 (v := 10) dJ6_stringSize_0f7a4_17 (rfl : _ = 19) (by decide) ?_
  refine V_icmp_ge Y.1 (tgt := 42) dJ6_stringSize_0f7a4_19 (by decide) (rfl : _ = 22) (fun c_n => absurd c_n (by decide)) (fun _ => ?_)
  refine V_iload_n Y.1 3 dJ6_stringSize_0f7a4_22 (rfl : _ = 23) rfl rfl ?_
  refine V_iload_n Y.1 1 dJ6_stringSize_0f7a4_23 (rfl : _ = 24) rfl rfl ?_
  refine V_icmp_le Y.1 (tgt := 31) dJ6_stringSize_0f7a4_24 (by decide) (rfl : _ = 27) (fun _ => ?_) (fun c_n => absurd ((neg_le (w := w) (m := 100) (by omega) (by decide)).mpr (by omega)) c_n)
  refine V_bipush Y.1 (v := 10) dJ6_stringSize_0f7a4_31 (rfl : _ = 33) (by decide) ?_
  refine V_iload_n Y.1 1 dJ6_stringSize_0f7a4_33 (rfl : _ = 34) rfl rfl ?_
  refine V_imul Y.1 dJ6_stringSize_0f7a4_34 (rfl : _ = 35) ?_
  refine V_nm (v := -1000) (by decide) ?_
  refine V_istore_n Y.1 (ls' := [(2, _), (3, _), (1, _), (0, _)]) dJ6_stringSize_0f7a4_35 (rfl : _ = 36) rfl (by decide) rfl ?_
  refine V_iinc Y.1 (v := 3) (ls' := [(3, _), (2, _), (1, _), (0, _)]) 1 dJ6_stringSize_0f7a4_36 (rfl : _ = 39) rfl (by decide) (by decide) rfl ?_
  refine V_goto Y.1 (tgt := 16) dJ6_stringSize_0f7a4_39 (by decide) ?_
  refine V_iload_n Y.1 0 dJ6_stringSize_0f7a4_16 (rfl : _ = 17) rfl rfl ?_
  refine V_bipush Y.1 (v := 10) dJ6_stringSize_0f7a4_17 (rfl : _ = 19) (by decide) ?_
  refine V_icmp_ge Y.1 (tgt := 42) dJ6_stringSize_0f7a4_19 (by decide) (rfl : _ = 22) (fun c_n => absurd c_n (by decide)) (fun _ => ?_)
  refine V_iload_n Y.1 3 dJ6_stringSize_0f7a4_22 (rfl : _ = 23) rfl rfl ?_
  refine V_iload_n Y.1 1 dJ6_stringSize_0f7a4_23 (rfl : _ = 24) rfl rfl ?_
  refine V_icmp_le Y.1 (tgt := 31) dJ6_stringSize_0f7a4_24 (by decide) (rfl : _ = 27) (fun _ => ?_) (fun c_n => absurd ((neg_le (w := w) (m := 1000) (by omega) (by decide)).mpr (by omega)) c_n)
  refine V_bipush Y.1 (v := 10) dJ6_stringSize_0f7a4_31 (rfl : _ = 33) (by decide) ?_
  refine V_iload_n Y.1 1 dJ6_stringSize_0f7a4_33 (rfl : _ = 34) rfl rfl ?_
  refine V_imul Y.1 dJ6_stringSize_0f7a4_34 (rfl : _ = 35) ?_
  refine V_nm (v := -10000) (by decide) ?_
  refine V_istore_n Y.1 (ls' := [(2, _), (3, _), (1, _), (0, _)]) dJ6_stringSize_0f7a4_35 (rfl : _ = 36) rfl (by decide) rfl ?_
  refine V_iinc Y.1 (v := 4) (ls' := [(3, _), (2, _), (1, _), (0, _)]) 1 dJ6_stringSize_0f7a4_36 (rfl : _ = 39) rfl (by decide) (by decide) rfl ?_
  refine V_goto Y.1 (tgt := 16) dJ6_stringSize_0f7a4_39 (by decide) ?_
  refine V_iload_n Y.1 0 dJ6_stringSize_0f7a4_16 (rfl : _ = 17) rfl rfl ?_
  refine V_bipush Y.1 (v := 10) dJ6_stringSize_0f7a4_17 (rfl : _ = 19) (by decide) ?_
  refine V_icmp_ge Y.1 (tgt := 42) dJ6_stringSize_0f7a4_19 (by decide) (rfl : _ = 22) (fun c_n => absurd c_n (by decide)) (fun _ => ?_)
  refine V_iload_n Y.1 3 dJ6_stringSize_0f7a4_22 (rfl : _ = 23) rfl rfl ?_
  refine V_iload_n Y.1 1 dJ6_stringSize_0f7a4_23 (rfl : _ = 24) rfl rfl ?_
  refine V_icmp_le Y.1 (tgt := 31) dJ6_stringSize_0f7a4_24 (by decide) (rfl : _ = 27) (fun _ => ?_) (fun c_n => absurd ((neg_le (w := w) (m := 10000) (by omega) (by decide)).mpr (by omega)) c_n)
  refine V_bipush Y.1 (v := 10) dJ6_stringSize_0f7a4_31 (rfl : _ = 33) (by decide) ?_
  refine V_iload_n Y.1 1 dJ6_stringSize_0f7a4_33 (rfl : _ = 34) rfl rfl ?_
  refine V_imul Y.1 dJ6_stringSize_0f7a4_34 (rfl : _ = 35) ?_
  refine V_nm (v := -100000) (by decide) ?_
  refine V_istore_n Y.1 (ls' := [(2, _), (3, _), (1, _), (0, _)]) dJ6_stringSize_0f7a4_35 (rfl : _ = 36) rfl (by decide) rfl ?_
  refine V_iinc Y.1 (v := 5) (ls' := [(3, _), (2, _), (1, _), (0, _)]) 1 dJ6_stringSize_0f7a4_36 (rfl : _ = 39) rfl (by decide) (by decide) rfl ?_
  refine V_goto Y.1 (tgt := 16) dJ6_stringSize_0f7a4_39 (by decide) ?_
  refine V_iload_n Y.1 0 dJ6_stringSize_0f7a4_16 (rfl : _ = 17) rfl rfl ?_
  refine V_bipush Y.1 (v := 10) dJ6_stringSize_0f7a4_17 (rfl : _ = 19) (by decide) ?_
  refine V_icmp_ge Y.1 (tgt := 42) dJ6_stringSize_0f7a4_19 (by decide) (rfl : _ = 22) (fun c_n => absurd c_n (by decide)) (fun _ => ?_)
  refine V_iload_n Y.1 3 dJ6_stringSize_0f7a4_22 (rfl : _ = 23) rfl rfl ?_
  refine V_iload_n Y.1 1 dJ6_stringSize_0f7a4_23 (rfl : _ = 24) rfl rfl ?_
  refine V_icmp_le Y.1 (tgt := 31) dJ6_stringSize_0f7a4_24 (by decide) (rfl : _ = 27) (fun c_n => absurd c_n (fun q => absurd ((neg_le (w := w) (m := 100000) (by omega) (by decide)).mp q) (by omega))) (fun _ => ?_)
  refine V_iload_n Y.1 0 dJ6_stringSize_0f7a4_27 (rfl : _ = 28) rfl rfl ?_
  refine V_iload_n Y.1 2 dJ6_stringSize_0f7a4_28 (rfl : _ = 29) rfl rfl ?_
  refine V_iadd Y.1 dJ6_stringSize_0f7a4_29 (rfl : _ = 30) ?_
  refine V_nm (v := nI 6) (by decide) ?_
  exact V_ret Y.1 dJ6_stringSize_0f7a4_30 rfl (Nat.le_of_ble_eq_true rfl) (Nat.le_of_ble_eq_true rfl) ⟨rfl, rfl⟩

set_option maxRecDepth 100000 in
set_option maxHeartbeats 4000000 in
theorem c_J6_stringSize_0f7a4 (l : Launch) (D : va_G) (kA : Nat → ClassId) (H0 : Heap) (x : Int32) (h1 : -100000 < x.toInt) (h2 : x.toInt < 100000)  : Ct l D kA yJ6_stringSize_0f7a4 cJ6_stringSize_0f7a4 4 (some .int) 0 0 0 0 H0 [.int x] (nof) (pI fun v9 H => v9 = nI (sg x).length ∧ H = H0) := by
  have key : ∀ w : Nat, w < 100000 → (dg 5 w).length = if w < 10 then 1 else if w < 100 then 2 else if w < 1000 then 3 else if w < 10000 then 4 else 5 := fun w hw => dg_lenx hw
  by_cases hx : x < 0
  · obtain ⟨w, hw, rfl⟩ := x_neg hx h1
    rw [sg_neg hw.1 (by omega), List.length_cons, key w hw.2]
    by_cases g1 : w < 10
    · rw [if_pos g1]; exact c_J6_stringSize_n1 l D kA H0 w g1 hw.1
    · rw [if_neg g1]
      by_cases g2 : w < 100
      · rw [if_pos g2]; exact c_J6_stringSize_n2 l D kA H0 w (by omega) g2 hw.1
      · rw [if_neg g2]
        by_cases g3 : w < 1000
        · rw [if_pos g3]; exact c_J6_stringSize_n3 l D kA H0 w (by omega) g3 hw.1
        · rw [if_neg g3]
          by_cases g4 : w < 10000
          · rw [if_pos g4]; exact c_J6_stringSize_n4 l D kA H0 w (by omega) g4 hw.1
          · rw [if_neg g4]
            exact c_J6_stringSize_n5 l D kA H0 w (by omega) (by omega) hw.1
  · obtain ⟨w, hw, rfl⟩ := nI_of hx
    rw [nI_toInt hw] at h2
    rw [sg_pos hw, key w (by omega)]
    by_cases g1 : w < 10
    · rw [if_pos g1]; exact c_J6_stringSize_p1 l D kA H0 w g1
    · rw [if_neg g1]
      by_cases g2 : w < 100
      · rw [if_pos g2]; exact c_J6_stringSize_p2 l D kA H0 w (by omega) g2
      · rw [if_neg g2]
        by_cases g3 : w < 1000
        · rw [if_pos g3]; exact c_J6_stringSize_p3 l D kA H0 w (by omega) g3
        · rw [if_neg g3]
          by_cases g4 : w < 10000
          · rw [if_pos g4]; exact c_J6_stringSize_p4 l D kA H0 w (by omega) g4
          · rw [if_neg g4]
            exact c_J6_stringSize_p5 l D kA H0 w (by omega) (by omega)

set_option maxRecDepth 100000 in
set_option maxHeartbeats 4000000 in
theorem c_J6_getChars_p1 (l : Launch) (D : va_G) (kA : Nat → ClassId) (Hs : Heap) (σ : SG) (H0 : Heap) (hg : Ag Hs H0) (w : Nat) (hw : w < 10) (p v cap : Nat) (g : Nat → Int32) (hv : hp D H0 v (eB kA cap g)) (hvs : Hs.size ≤ v) (hp9 : p + 1 ≤ cap) (hcap : cap ≤ 120) : CtS l D kA Hs σ yJ6_getChars_ba4f3 cJ6_getChars_ba4f3 7 (some .int) 0 0 0 0 H0 [.int (nI w), .int (nI (p + 1)), .ref v] (fun q => q = v) (pI fun r H => r = nI p ∧ hp D H v (eB kA cap (r_put g p (sg (nI w)))) ∧ H.size = H0.size) := by
  refine CtS.of mi_J6_getChars_ba4f3 (Nat.le_of_ble_eq_true rfl) (ls0 := [(0, _), (1, _), (2, _)]) rfl hg (fun q z => z ▸ hvs) ?_
  intro Pp Ee Ss Mm Ar Bl Me Cc Z hs hnm
  have Y := Z.1
  obtain ⟨ato, zt, tt⟩ := Z.2.2.2.2.2.2.1
  obtain ⟨aoo, zo, to⟩ := Z.2.2.2.2.2.2.2.1
  have sz : H0.size = H0.size := rfl
  refine V_iload_n Y.1 1 dJ6_getChars_ba4f3_0 (rfl : _ = 1) rfl rfl ?_
  refine V_istore Y.1 (ls' := [(5, _), (0, _), (1, _), (2, _)]) dJ6_getChars_ba4f3_1 (rfl : _ = 3) (by decide) rfl ?_
  refine V_iload_n Y.1 1 dJ6_getChars_ba4f3_3 (rfl : _ = 4) rfl rfl ?_
  refine V_if_ge Y.1 (tgt := 11) dJ6_getChars_ba4f3_4 (by decide) (rfl : _ = 7) (fun _ => ?_) (fun c_n => absurd (nI_pos' (by omega)) c_n)
  refine V_iconst Y.1 (v := 0) dJ6_getChars_ba4f3_11 (rfl : _ = 12) (by decide) ?_
  refine V_istore Y.1 (ls' := [(6, _), (5, _), (0, _), (1, _), (2, _)]) dJ6_getChars_ba4f3_12 (rfl : _ = 14) (by decide) rfl ?_
  refine V_iload Y.1 0 dJ6_getChars_ba4f3_14 (rfl : _ = 16) rfl ?_
  refine V_if_ne Y.1 (tgt := 22) dJ6_getChars_ba4f3_16 (by decide) (rfl : _ = 19) (fun c_n => absurd rfl c_n) (fun _ => ?_)
  refine V_iload_n Y.1 2 dJ6_getChars_ba4f3_19 (rfl : _ = 20) rfl rfl ?_
  refine V_ineg Y.1 dJ6_getChars_ba4f3_20 (rfl : _ = 21) ?_
  refine V_istore_n Y.1 (ls' := [(0, _), (6, _), (5, _), (1, _), (2, _)]) dJ6_getChars_ba4f3_21 (rfl : _ = 22) rfl (by decide) rfl ?_
  refine V_iload_n Y.1 0 dJ6_getChars_ba4f3_22 (rfl : _ = 23) rfl rfl ?_
  refine V_bipush Y.1 (v := -100) dJ6_getChars_ba4f3_23 (rfl : _ = 25) (by decide) ?_
  refine V_icmp_gt Y.1 (tgt := 72) dJ6_getChars_ba4f3_25 (by decide) (rfl : _ = 28) (fun _ => ?_) (fun c_n => absurd (neg_lt (w := w) (m := 100) (by omega) (by decide) (by omega)) c_n)
  refine V_aload_n Y.1 4 dJ6_getChars_ba4f3_72 (rfl : _ = 73) rfl rfl ?_
  refine V_iinc Y.1 (v := nI (p + 0)) (ls' := [(5, _), (0, _), (6, _), (1, _), (2, _)]) 2 dJ6_getChars_ba4f3_73 (rfl : _ = 76) rfl (by rw [show Int32.ofInt (-1) = -1 from rfl]; exact pk_m1 _) (by decide) rfl ?_
  refine V_iload Y.1 0 dJ6_getChars_ba4f3_76 (rfl : _ = 78) rfl ?_
  refine V_gets Y zo (tm 1024 (by decide +kernel) (by decide +kernel)) dJ6_getChars_ba4f3_78 (rfl : _ = 81) ?_
  refine V_iload_n Y.1 1 dJ6_getChars_ba4f3_81 (rfl : _ = 82) rfl rfl ?_
  refine V_ineg Y.1 dJ6_getChars_ba4f3_82 (rfl : _ = 83) ?_
  refine V_nm (v := nI w) Int32.neg_neg ?_
  refine V_baldT Y (v := (.int (nI (48 + w % 10)))) to (vp_in_nI (by omega) (by decide)) (by rw [nI_clamp (by omega)]) dJ6_getChars_ba4f3_83 (rfl : _ = 84) ?_
  refine V_bast Y.1 hv (Or.inl rfl) (vp_in_nI (by omega) (by omega)) (ch_nb (by omega)) dJ6_getChars_ba4f3_84 (rfl : _ = 85) (fun H84_22 h_new o_84 => ?_)
  have hv := h_new
  have sz : Array.size H84_22 = H0.size := o_84.1.trans sz
  clear h_new
  rw [nI_clamp (by omega)] at hv
  refine V_iload_n Y.1 1 dJ6_getChars_ba4f3_85 (rfl : _ = 86) rfl rfl ?_
  refine V_bipush Y.1 (v := -9) dJ6_getChars_ba4f3_86 (rfl : _ = 88) (by decide) ?_
  refine V_icmp_ge Y.1 (tgt := 104) dJ6_getChars_ba4f3_88 (by decide) (rfl : _ = 91) (fun _ => ?_) (fun c_n => absurd (neg_ge9 (w := w) (by omega)) c_n)
  refine V_iload Y.1 2 dJ6_getChars_ba4f3_104 (rfl : _ = 106) rfl ?_
  refine V_if_eq Y.1 (tgt := 118) dJ6_getChars_ba4f3_106 (by decide) (rfl : _ = 109) (fun _ => ?_) (fun c_n => absurd rfl c_n)
  refine V_iload Y.1 0 dJ6_getChars_ba4f3_118 (rfl : _ = 120) rfl ?_
  exact V_ret Y.1 dJ6_getChars_ba4f3_120 rfl (Nat.le_of_ble_eq_true rfl) (Nat.le_of_ble_eq_true rfl) ⟨rfl, by rw [(sg_pos (by omega)).trans (dg_list1 w hw)]; exact hv.cong (fun i _ => by simp only [r_put, upd]; (repeat' split) <;> first | rfl | (exfalso; omega)), sz⟩

set_option maxRecDepth 100000 in
set_option maxHeartbeats 4000000 in
theorem c_J6_getChars_p2 (l : Launch) (D : va_G) (kA : Nat → ClassId) (Hs : Heap) (σ : SG) (H0 : Heap) (hg : Ag Hs H0) (w : Nat) (h1 : 10 ≤ w) (hw : w < 100) (p v cap : Nat) (g : Nat → Int32) (hv : hp D H0 v (eB kA cap g)) (hvs : Hs.size ≤ v) (hp9 : p + 2 ≤ cap) (hcap : cap ≤ 120) : CtS l D kA Hs σ yJ6_getChars_ba4f3 cJ6_getChars_ba4f3 7 (some .int) 0 0 0 0 H0 [.int (nI w), .int (nI (p + 2)), .ref v] (fun q => q = v) (pI fun r H => r = nI p ∧ hp D H v (eB kA cap (r_put g p (sg (nI w)))) ∧ H.size = H0.size) := by
  refine CtS.of mi_J6_getChars_ba4f3 (Nat.le_of_ble_eq_true rfl) (ls0 := [(0, _), (1, _), (2, _)]) rfl hg (fun q z => z ▸ hvs) ?_
  intro Pp Ee Ss Mm Ar Bl Me Cc Z hs hnm
  have Y := Z.1
  obtain ⟨ato, zt, tt⟩ := Z.2.2.2.2.2.2.1
  obtain ⟨aoo, zo, to⟩ := Z.2.2.2.2.2.2.2.1
  have sz : H0.size = H0.size := rfl
  refine V_iload_n Y.1 1 dJ6_getChars_ba4f3_0 (rfl : _ = 1) rfl rfl ?_
  refine V_istore Y.1 (ls' := [(5, _), (0, _), (1, _), (2, _)]) dJ6_getChars_ba4f3_1 (rfl : _ = 3) (by decide) rfl ?_
  refine V_iload_n Y.1 1 dJ6_getChars_ba4f3_3 (rfl : _ = 4) rfl rfl ?_
  refine V_if_ge Y.1 (tgt := 11) dJ6_getChars_ba4f3_4 (by decide) (rfl : _ = 7) (fun _ => ?_) (fun c_n => absurd (nI_pos' (by omega)) c_n)
  refine V_iconst Y.1 (v := 0) dJ6_getChars_ba4f3_11 (rfl : _ = 12) (by decide) ?_
  refine V_istore Y.1 (ls' := [(6, _), (5, _), (0, _), (1, _), (2, _)]) dJ6_getChars_ba4f3_12 (rfl : _ = 14) (by decide) rfl ?_
  refine V_iload Y.1 0 dJ6_getChars_ba4f3_14 (rfl : _ = 16) rfl ?_
  refine V_if_ne Y.1 (tgt := 22) dJ6_getChars_ba4f3_16 (by decide) (rfl : _ = 19) (fun c_n => absurd rfl c_n) (fun _ => ?_)
  refine V_iload_n Y.1 2 dJ6_getChars_ba4f3_19 (rfl : _ = 20) rfl rfl ?_
  refine V_ineg Y.1 dJ6_getChars_ba4f3_20 (rfl : _ = 21) ?_
  refine V_istore_n Y.1 (ls' := [(0, _), (6, _), (5, _), (1, _), (2, _)]) dJ6_getChars_ba4f3_21 (rfl : _ = 22) rfl (by decide) rfl ?_
  refine V_iload_n Y.1 0 dJ6_getChars_ba4f3_22 (rfl : _ = 23) rfl rfl ?_
  refine V_bipush Y.1 (v := -100) dJ6_getChars_ba4f3_23 (rfl : _ = 25) (by decide) ?_
  refine V_icmp_gt Y.1 (tgt := 72) dJ6_getChars_ba4f3_25 (by decide) (rfl : _ = 28) (fun _ => ?_) (fun c_n => absurd (neg_lt (w := w) (m := 100) (by omega) (by decide) (by omega)) c_n)
  refine V_aload_n Y.1 4 dJ6_getChars_ba4f3_72 (rfl : _ = 73) rfl rfl ?_
  refine V_iinc Y.1 (v := nI (p + 1)) (ls' := [(5, _), (0, _), (6, _), (1, _), (2, _)]) 2 dJ6_getChars_ba4f3_73 (rfl : _ = 76) rfl (by rw [show Int32.ofInt (-1) = -1 from rfl]; exact pk_m1 _) (by decide) rfl ?_
  refine V_iload Y.1 0 dJ6_getChars_ba4f3_76 (rfl : _ = 78) rfl ?_
  refine V_gets Y zo (tm 1024 (by decide +kernel) (by decide +kernel)) dJ6_getChars_ba4f3_78 (rfl : _ = 81) ?_
  refine V_iload_n Y.1 1 dJ6_getChars_ba4f3_81 (rfl : _ = 82) rfl rfl ?_
  refine V_ineg Y.1 dJ6_getChars_ba4f3_82 (rfl : _ = 83) ?_
  refine V_nm (v := nI w) Int32.neg_neg ?_
  refine V_baldT Y (v := (.int (nI (48 + w % 10)))) to (vp_in_nI (by omega) (by decide)) (by rw [nI_clamp (by omega)]) dJ6_getChars_ba4f3_83 (rfl : _ = 84) ?_
  refine V_bast Y.1 hv (Or.inl rfl) (vp_in_nI (by omega) (by omega)) (ch_nb (by omega)) dJ6_getChars_ba4f3_84 (rfl : _ = 85) (fun H84_22 h_new o_84 => ?_)
  have hv := h_new
  have sz : Array.size H84_22 = H0.size := o_84.1.trans sz
  clear h_new
  rw [nI_clamp (by omega)] at hv
  refine V_iload_n Y.1 1 dJ6_getChars_ba4f3_85 (rfl : _ = 86) rfl rfl ?_
  refine V_bipush Y.1 (v := -9) dJ6_getChars_ba4f3_86 (rfl : _ = 88) (by decide) ?_
  refine V_icmp_ge Y.1 (tgt := 104) dJ6_getChars_ba4f3_88 (by decide) (rfl : _ = 91) (fun c_n => absurd c_n (neg_nge9 (w := w) (by omega) (by omega))) (fun _ => ?_)
  refine V_aload_n Y.1 4 dJ6_getChars_ba4f3_91 (rfl : _ = 92) rfl rfl ?_
  refine V_iinc Y.1 (v := nI (p + 0)) (ls' := [(5, _), (0, _), (6, _), (1, _), (2, _)]) 0 dJ6_getChars_ba4f3_92 (rfl : _ = 95) rfl (by rw [show Int32.ofInt (-1) = -1 from rfl]; exact pk_m1 _) (by decide) rfl ?_
  refine V_iload Y.1 0 dJ6_getChars_ba4f3_95 (rfl : _ = 97) rfl ?_
  refine V_gets Y zt (tm 1026 (by decide +kernel) (by decide +kernel)) dJ6_getChars_ba4f3_97 (rfl : _ = 100) ?_
  refine V_iload_n Y.1 1 dJ6_getChars_ba4f3_100 (rfl : _ = 101) rfl rfl ?_
  refine V_ineg Y.1 dJ6_getChars_ba4f3_101 (rfl : _ = 102) ?_
  refine V_nm (v := nI w) Int32.neg_neg ?_
  refine V_baldT Y (v := (.int (nI (48 + w / 10)))) tt (vp_in_nI (by omega) (by decide)) (by rw [nI_clamp (by omega)]) dJ6_getChars_ba4f3_102 (rfl : _ = 103) ?_
  refine V_bast Y.1 hv (Or.inl rfl) (vp_in_nI (by omega) (by omega)) (ch_nb (by omega)) dJ6_getChars_ba4f3_103 (rfl : _ = 104) (fun H103_38 h_new o_103 => ?_)
  have hv := h_new
  have sz : Array.size H103_38 = H0.size := o_103.1.trans sz
  clear h_new
  rw [nI_clamp (by omega)] at hv
  refine V_iload Y.1 2 dJ6_getChars_ba4f3_104 (rfl : _ = 106) rfl ?_
  refine V_if_eq Y.1 (tgt := 118) dJ6_getChars_ba4f3_106 (by decide) (rfl : _ = 109) (fun _ => ?_) (fun c_n => absurd rfl c_n)
  refine V_iload Y.1 0 dJ6_getChars_ba4f3_118 (rfl : _ = 120) rfl ?_
  exact V_ret Y.1 dJ6_getChars_ba4f3_120 rfl (Nat.le_of_ble_eq_true rfl) (Nat.le_of_ble_eq_true rfl) ⟨rfl, by rw [(sg_pos (by omega)).trans (dg_list2 w h1 hw)]; exact hv.cong (fun i _ => by simp only [r_put, upd]; (repeat' split) <;> first | rfl | (exfalso; omega)), sz⟩

set_option maxRecDepth 100000 in
set_option maxHeartbeats 4000000 in
theorem c_J6_getChars_p3 (l : Launch) (D : va_G) (kA : Nat → ClassId) (Hs : Heap) (σ : SG) (H0 : Heap) (hg : Ag Hs H0) (w : Nat) (h1 : 100 ≤ w) (hw : w < 1000) (p v cap : Nat) (g : Nat → Int32) (hv : hp D H0 v (eB kA cap g)) (hvs : Hs.size ≤ v) (hp9 : p + 3 ≤ cap) (hcap : cap ≤ 120) : CtS l D kA Hs σ yJ6_getChars_ba4f3 cJ6_getChars_ba4f3 7 (some .int) 0 0 0 0 H0 [.int (nI w), .int (nI (p + 3)), .ref v] (fun q => q = v) (pI fun r H => r = nI p ∧ hp D H v (eB kA cap (r_put g p (sg (nI w)))) ∧ H.size = H0.size) := by
  refine CtS.of mi_J6_getChars_ba4f3 (Nat.le_of_ble_eq_true rfl) (ls0 := [(0, _), (1, _), (2, _)]) rfl hg (fun q z => z ▸ hvs) ?_
  intro Pp Ee Ss Mm Ar Bl Me Cc Z hs hnm
  have Y := Z.1
  obtain ⟨ato, zt, tt⟩ := Z.2.2.2.2.2.2.1
  obtain ⟨aoo, zo, to⟩ := Z.2.2.2.2.2.2.2.1
  have sz : H0.size = H0.size := rfl
  refine V_iload_n Y.1 1 dJ6_getChars_ba4f3_0 (rfl : _ = 1) rfl rfl ?_
  refine V_istore Y.1 (ls' := [(5, _), (0, _), (1, _), (2, _)]) dJ6_getChars_ba4f3_1 (rfl : _ = 3) (by decide) rfl ?_
  refine V_iload_n Y.1 1 dJ6_getChars_ba4f3_3 (rfl : _ = 4) rfl rfl ?_
  refine V_if_ge Y.1 (tgt := 11) dJ6_getChars_ba4f3_4 (by decide) (rfl : _ = 7) (fun _ => ?_) (fun c_n => absurd (nI_pos' (by omega)) c_n)
  refine V_iconst Y.1 (v := 0) dJ6_getChars_ba4f3_11 (rfl : _ = 12) (by decide) ?_
  refine V_istore Y.1 (ls' := [(6, _), (5, _), (0, _), (1, _), (2, _)]) dJ6_getChars_ba4f3_12 (rfl : _ = 14) (by decide) rfl ?_
  refine V_iload Y.1 0 dJ6_getChars_ba4f3_14 (rfl : _ = 16) rfl ?_
  refine V_if_ne Y.1 (tgt := 22) dJ6_getChars_ba4f3_16 (by decide) (rfl : _ = 19) (fun c_n => absurd rfl c_n) (fun _ => ?_)
  refine V_iload_n Y.1 2 dJ6_getChars_ba4f3_19 (rfl : _ = 20) rfl rfl ?_
  refine V_ineg Y.1 dJ6_getChars_ba4f3_20 (rfl : _ = 21) ?_
  refine V_istore_n Y.1 (ls' := [(0, _), (6, _), (5, _), (1, _), (2, _)]) dJ6_getChars_ba4f3_21 (rfl : _ = 22) rfl (by decide) rfl ?_
  refine V_iload_n Y.1 0 dJ6_getChars_ba4f3_22 (rfl : _ = 23) rfl rfl ?_
  refine V_bipush Y.1 (v := -100) dJ6_getChars_ba4f3_23 (rfl : _ = 25) (by decide) ?_
  refine V_icmp_gt Y.1 (tgt := 72) dJ6_getChars_ba4f3_25 (by decide) (rfl : _ = 28) (fun c_n => absurd c_n (neg_nlt (w := w) (m := 100) (by omega) (by decide) (by omega))) (fun _ => ?_)
  refine V_iload_n Y.1 0 dJ6_getChars_ba4f3_28 (rfl : _ = 29) rfl rfl ?_
  refine V_bipush Y.1 (v := 100) dJ6_getChars_ba4f3_29 (rfl : _ = 31) (by decide) ?_
  refine V_idiv Y.1 dJ6_getChars_ba4f3_31 (rfl : _ = 32) (by decide) ?_
  refine V_nm (v := -(nI (w / 100))) (neg_div (w := w) (d := 100) (by omega) (by decide) (by decide)) ?_
  refine V_istore_n Y.1 (ls' := [(3, _), (0, _), (6, _), (5, _), (1, _), (2, _)]) dJ6_getChars_ba4f3_32 (rfl : _ = 33) rfl (by decide) rfl ?_
  refine V_iload_n Y.1 0 dJ6_getChars_ba4f3_33 (rfl : _ = 34) rfl rfl ?_
  refine V_bipush Y.1 (v := 100) dJ6_getChars_ba4f3_34 (rfl : _ = 36) (by decide) ?_
  refine V_imul Y.1 dJ6_getChars_ba4f3_36 (rfl : _ = 37) ?_
  refine V_iload_n Y.1 1 dJ6_getChars_ba4f3_37 (rfl : _ = 38) rfl rfl ?_
  refine V_isub Y.1 dJ6_getChars_ba4f3_38 (rfl : _ = 39) ?_
  refine V_nm (v := nI (w % 100)) (neg_rem100 (w := w) (by omega)) ?_
  refine V_istore Y.1 (ls' := [(4, _), (3, _), (0, _), (6, _), (5, _), (1, _), (2, _)]) dJ6_getChars_ba4f3_39 (rfl : _ = 41) (by decide) rfl ?_
  refine V_iload_n Y.1 1 dJ6_getChars_ba4f3_41 (rfl : _ = 42) rfl rfl ?_
  refine V_istore_n Y.1 (ls' := [(0, _), (4, _), (3, _), (6, _), (5, _), (1, _), (2, _)]) dJ6_getChars_ba4f3_42 (rfl : _ = 43) rfl (by decide) rfl ?_
  refine V_aload_n Y.1 6 dJ6_getChars_ba4f3_43 (rfl : _ = 44) rfl rfl ?_
  refine V_iinc Y.1 (v := nI (p + 2)) (ls' := [(5, _), (0, _), (4, _), (3, _), (6, _), (1, _), (2, _)]) 4 dJ6_getChars_ba4f3_44 (rfl : _ = 47) rfl (by rw [show Int32.ofInt (-1) = -1 from rfl]; exact pk_m1 _) (by decide) rfl ?_
  refine V_iload Y.1 0 dJ6_getChars_ba4f3_47 (rfl : _ = 49) rfl ?_
  refine V_gets Y zo (tm 1024 (by decide +kernel) (by decide +kernel)) dJ6_getChars_ba4f3_49 (rfl : _ = 52) ?_
  refine V_iload Y.1 2 dJ6_getChars_ba4f3_52 (rfl : _ = 54) rfl ?_
  refine V_baldT Y (v := (.int (nI (48 + (w % 100) % 10)))) to (vp_in_nI (by omega) (by decide)) (by rw [nI_clamp (by omega)]) dJ6_getChars_ba4f3_54 (rfl : _ = 55) ?_
  refine V_bast Y.1 hv (Or.inl rfl) (vp_in_nI (by omega) (by omega)) (ch_nb (by omega)) dJ6_getChars_ba4f3_55 (rfl : _ = 56) (fun H55_34 h_new o_55 => ?_)
  have hv := h_new
  have sz : Array.size H55_34 = H0.size := o_55.1.trans sz
  clear h_new
  rw [nI_clamp (by omega)] at hv
  refine V_aload_n Y.1 6 dJ6_getChars_ba4f3_56 (rfl : _ = 57) rfl rfl ?_
  refine V_iinc Y.1 (v := nI (p + 1)) (ls' := [(5, _), (0, _), (4, _), (3, _), (6, _), (1, _), (2, _)]) 0 dJ6_getChars_ba4f3_57 (rfl : _ = 60) rfl (by rw [show Int32.ofInt (-1) = -1 from rfl]; exact pk_m1 _) (by decide) rfl ?_
  refine V_iload Y.1 0 dJ6_getChars_ba4f3_60 (rfl : _ = 62) rfl ?_
  refine V_gets Y zt (tm 1026 (by decide +kernel) (by decide +kernel)) dJ6_getChars_ba4f3_62 (rfl : _ = 65) ?_
  refine V_iload Y.1 2 dJ6_getChars_ba4f3_65 (rfl : _ = 67) rfl ?_
  refine V_baldT Y (v := (.int (nI (48 + (w % 100) / 10)))) tt (vp_in_nI (by omega) (by decide)) (by rw [nI_clamp (by omega)]) dJ6_getChars_ba4f3_67 (rfl : _ = 68) ?_
  refine V_bast Y.1 hv (Or.inl rfl) (vp_in_nI (by omega) (by omega)) (ch_nb (by omega)) dJ6_getChars_ba4f3_68 (rfl : _ = 69) (fun H68_45 h_new o_68 => ?_)
  have hv := h_new
  have sz : Array.size H68_45 = H0.size := o_68.1.trans sz
  clear h_new
  rw [nI_clamp (by omega)] at hv
  refine V_goto Y.1 (tgt := 22) dJ6_getChars_ba4f3_69 (by decide) ?_
  refine V_iload_n Y.1 1 dJ6_getChars_ba4f3_22 (rfl : _ = 23) rfl rfl ?_
  refine V_bipush Y.1 (v := -100) dJ6_getChars_ba4f3_23 (rfl : _ = 25) (by decide) ?_
  refine V_icmp_gt Y.1 (tgt := 72) dJ6_getChars_ba4f3_25 (by decide) (rfl : _ = 28) (fun _ => ?_) (fun c_n => absurd (neg_lt (w := (w / 100)) (m := 100) (by omega) (by decide) (by omega)) c_n)
  refine V_aload_n Y.1 6 dJ6_getChars_ba4f3_72 (rfl : _ = 73) rfl rfl ?_
  refine V_iinc Y.1 (v := nI (p + 0)) (ls' := [(5, _), (0, _), (4, _), (3, _), (6, _), (1, _), (2, _)]) 0 dJ6_getChars_ba4f3_73 (rfl : _ = 76) rfl (by rw [show Int32.ofInt (-1) = -1 from rfl]; exact pk_m1 _) (by decide) rfl ?_
  refine V_iload Y.1 0 dJ6_getChars_ba4f3_76 (rfl : _ = 78) rfl ?_
  refine V_gets Y zo (tm 1024 (by decide +kernel) (by decide +kernel)) dJ6_getChars_ba4f3_78 (rfl : _ = 81) ?_
  refine V_iload_n Y.1 1 dJ6_getChars_ba4f3_81 (rfl : _ = 82) rfl rfl ?_
  refine V_ineg Y.1 dJ6_getChars_ba4f3_82 (rfl : _ = 83) ?_
  refine V_nm (v := nI (w / 100)) Int32.neg_neg ?_
  refine V_baldT Y (v := (.int (nI (48 + (w / 100) % 10)))) to (vp_in_nI (by omega) (by decide)) (by rw [nI_clamp (by omega)]) dJ6_getChars_ba4f3_83 (rfl : _ = 84) ?_
  refine V_bast Y.1 hv (Or.inl rfl) (vp_in_nI (by omega) (by omega)) (ch_nb (by omega)) dJ6_getChars_ba4f3_84 (rfl : _ = 85) (fun H84_62 h_new o_84 => ?_)
  have hv := h_new
  have sz : Array.size H84_62 = H0.size := o_84.1.trans sz
  clear h_new
  rw [nI_clamp (by omega)] at hv
  refine V_iload_n Y.1 1 dJ6_getChars_ba4f3_85 (rfl : _ = 86) rfl rfl ?_
  refine V_bipush Y.1 (v := -9) dJ6_getChars_ba4f3_86 (rfl : _ = 88) (by decide) ?_
  refine V_icmp_ge Y.1 (tgt := 104) dJ6_getChars_ba4f3_88 (by decide) (rfl : _ = 91) (fun _ => ?_) (fun c_n => absurd (neg_ge9 (w := (w / 100)) (by omega)) c_n)
  refine V_iload Y.1 4 dJ6_getChars_ba4f3_104 (rfl : _ = 106) rfl ?_
  refine V_if_eq Y.1 (tgt := 118) dJ6_getChars_ba4f3_106 (by decide) (rfl : _ = 109) (fun _ => ?_) (fun c_n => absurd rfl c_n)
  refine V_iload Y.1 0 dJ6_getChars_ba4f3_118 (rfl : _ = 120) rfl ?_
  exact V_ret Y.1 dJ6_getChars_ba4f3_120 rfl (Nat.le_of_ble_eq_true rfl) (Nat.le_of_ble_eq_true rfl) ⟨rfl, by rw [(sg_pos (by omega)).trans (dg_list3 w h1 hw)]; exact hv.cong (fun i _ => by simp only [r_put, upd]; (repeat' split) <;> first | rfl | (exfalso; omega)), sz⟩

set_option maxRecDepth 100000 in
set_option maxHeartbeats 4000000 in
theorem c_J6_getChars_p4 (l : Launch) (D : va_G) (kA : Nat → ClassId) (Hs : Heap) (σ : SG) (H0 : Heap) (hg : Ag Hs H0) (w : Nat) (h1 : 1000 ≤ w) (hw : w < 10000) (p v cap : Nat) (g : Nat → Int32) (hv : hp D H0 v (eB kA cap g)) (hvs : Hs.size ≤ v) (hp9 : p + 4 ≤ cap) (hcap : cap ≤ 120) : CtS l D kA Hs σ yJ6_getChars_ba4f3 cJ6_getChars_ba4f3 7 (some .int) 0 0 0 0 H0 [.int (nI w), .int (nI (p + 4)), .ref v] (fun q => q = v) (pI fun r H => r = nI p ∧ hp D H v (eB kA cap (r_put g p (sg (nI w)))) ∧ H.size = H0.size) := by
  refine CtS.of mi_J6_getChars_ba4f3 (Nat.le_of_ble_eq_true rfl) (ls0 := [(0, _), (1, _), (2, _)]) rfl hg (fun q z => z ▸ hvs) ?_
  intro Pp Ee Ss Mm Ar Bl Me Cc Z hs hnm
  have Y := Z.1
  obtain ⟨ato, zt, tt⟩ := Z.2.2.2.2.2.2.1
  obtain ⟨aoo, zo, to⟩ := Z.2.2.2.2.2.2.2.1
  have sz : H0.size = H0.size := rfl
  refine V_iload_n Y.1 1 dJ6_getChars_ba4f3_0 (rfl : _ = 1) rfl rfl ?_
  refine V_istore Y.1 (ls' := [(5, _), (0, _), (1, _), (2, _)]) dJ6_getChars_ba4f3_1 (rfl : _ = 3) (by decide) rfl ?_
  refine V_iload_n Y.1 1 dJ6_getChars_ba4f3_3 (rfl : _ = 4) rfl rfl ?_
  refine V_if_ge Y.1 (tgt := 11) dJ6_getChars_ba4f3_4 (by decide) (rfl : _ = 7) (fun _ => ?_) (fun c_n => absurd (nI_pos' (by omega)) c_n)
  refine V_iconst Y.1 (v := 0) dJ6_getChars_ba4f3_11 (rfl : _ = 12) (by decide) ?_
  refine V_istore Y.1 (ls' := [(6, _), (5, _), (0, _), (1, _), (2, _)]) dJ6_getChars_ba4f3_12 (rfl : _ = 14) (by decide) rfl ?_
  refine V_iload Y.1 0 dJ6_getChars_ba4f3_14 (rfl : _ = 16) rfl ?_
  refine V_if_ne Y.1 (tgt := 22) dJ6_getChars_ba4f3_16 (by decide) (rfl : _ = 19) (fun c_n => absurd rfl c_n) (fun _ => ?_)
  refine V_iload_n Y.1 2 dJ6_getChars_ba4f3_19 (rfl : _ = 20) rfl rfl ?_
  refine V_ineg Y.1 dJ6_getChars_ba4f3_20 (rfl : _ = 21) ?_
  refine V_istore_n Y.1 (ls' := [(0, _), (6, _), (5, _), (1, _), (2, _)]) dJ6_getChars_ba4f3_21 (rfl : _ = 22) rfl (by decide) rfl ?_
  refine V_iload_n Y.1 0 dJ6_getChars_ba4f3_22 (rfl : _ = 23) rfl rfl ?_
  refine V_bipush Y.1 (v := -100) dJ6_getChars_ba4f3_23 (rfl : _ = 25) (by decide) ?_
  refine V_icmp_gt Y.1 (tgt := 72) dJ6_getChars_ba4f3_25 (by decide) (rfl : _ = 28) (fun c_n => absurd c_n (neg_nlt (w := w) (m := 100) (by omega) (by decide) (by omega))) (fun _ => ?_)
  refine V_iload_n Y.1 0 dJ6_getChars_ba4f3_28 (rfl : _ = 29) rfl rfl ?_
  refine V_bipush Y.1 (v := 100) dJ6_getChars_ba4f3_29 (rfl : _ = 31) (by decide) ?_
  refine V_idiv Y.1 dJ6_getChars_ba4f3_31 (rfl : _ = 32) (by decide) ?_
  refine V_nm (v := -(nI (w / 100))) (neg_div (w := w) (d := 100) (by omega) (by decide) (by decide)) ?_
  refine V_istore_n Y.1 (ls' := [(3, _), (0, _), (6, _), (5, _), (1, _), (2, _)]) dJ6_getChars_ba4f3_32 (rfl : _ = 33) rfl (by decide) rfl ?_
  refine V_iload_n Y.1 0 dJ6_getChars_ba4f3_33 (rfl : _ = 34) rfl rfl ?_
  refine V_bipush Y.1 (v := 100) dJ6_getChars_ba4f3_34 (rfl : _ = 36) (by decide) ?_
  refine V_imul Y.1 dJ6_getChars_ba4f3_36 (rfl : _ = 37) ?_
  refine V_iload_n Y.1 1 dJ6_getChars_ba4f3_37 (rfl : _ = 38) rfl rfl ?_
  refine V_isub Y.1 dJ6_getChars_ba4f3_38 (rfl : _ = 39) ?_
  refine V_nm (v := nI (w % 100)) (neg_rem100 (w := w) (by omega)) ?_
  refine V_istore Y.1 (ls' := [(4, _), (3, _), (0, _), (6, _), (5, _), (1, _), (2, _)]) dJ6_getChars_ba4f3_39 (rfl : _ = 41) (by decide) rfl ?_
  refine V_iload_n Y.1 1 dJ6_getChars_ba4f3_41 (rfl : _ = 42) rfl rfl ?_
  refine V_istore_n Y.1 (ls' := [(0, _), (4, _), (3, _), (6, _), (5, _), (1, _), (2, _)]) dJ6_getChars_ba4f3_42 (rfl : _ = 43) rfl (by decide) rfl ?_
  refine V_aload_n Y.1 6 dJ6_getChars_ba4f3_43 (rfl : _ = 44) rfl rfl ?_
  refine V_iinc Y.1 (v := nI (p + 3)) (ls' := [(5, _), (0, _), (4, _), (3, _), (6, _), (1, _), (2, _)]) 4 dJ6_getChars_ba4f3_44 (rfl : _ = 47) rfl (by rw [show Int32.ofInt (-1) = -1 from rfl]; exact pk_m1 _) (by decide) rfl ?_
  refine V_iload Y.1 0 dJ6_getChars_ba4f3_47 (rfl : _ = 49) rfl ?_
  refine V_gets Y zo (tm 1024 (by decide +kernel) (by decide +kernel)) dJ6_getChars_ba4f3_49 (rfl : _ = 52) ?_
  refine V_iload Y.1 2 dJ6_getChars_ba4f3_52 (rfl : _ = 54) rfl ?_
  refine V_baldT Y (v := (.int (nI (48 + (w % 100) % 10)))) to (vp_in_nI (by omega) (by decide)) (by rw [nI_clamp (by omega)]) dJ6_getChars_ba4f3_54 (rfl : _ = 55) ?_
  refine V_bast Y.1 hv (Or.inl rfl) (vp_in_nI (by omega) (by omega)) (ch_nb (by omega)) dJ6_getChars_ba4f3_55 (rfl : _ = 56) (fun H55_34 h_new o_55 => ?_)
  have hv := h_new
  have sz : Array.size H55_34 = H0.size := o_55.1.trans sz
  clear h_new
  rw [nI_clamp (by omega)] at hv
  refine V_aload_n Y.1 6 dJ6_getChars_ba4f3_56 (rfl : _ = 57) rfl rfl ?_
  refine V_iinc Y.1 (v := nI (p + 2)) (ls' := [(5, _), (0, _), (4, _), (3, _), (6, _), (1, _), (2, _)]) 0 dJ6_getChars_ba4f3_57 (rfl : _ = 60) rfl (by rw [show Int32.ofInt (-1) = -1 from rfl]; exact pk_m1 _) (by decide) rfl ?_
  refine V_iload Y.1 0 dJ6_getChars_ba4f3_60 (rfl : _ = 62) rfl ?_
  refine V_gets Y zt (tm 1026 (by decide +kernel) (by decide +kernel)) dJ6_getChars_ba4f3_62 (rfl : _ = 65) ?_
  refine V_iload Y.1 2 dJ6_getChars_ba4f3_65 (rfl : _ = 67) rfl ?_
  refine V_baldT Y (v := (.int (nI (48 + (w % 100) / 10)))) tt (vp_in_nI (by omega) (by decide)) (by rw [nI_clamp (by omega)]) dJ6_getChars_ba4f3_67 (rfl : _ = 68) ?_
  refine V_bast Y.1 hv (Or.inl rfl) (vp_in_nI (by omega) (by omega)) (ch_nb (by omega)) dJ6_getChars_ba4f3_68 (rfl : _ = 69) (fun H68_45 h_new o_68 => ?_)
  have hv := h_new
  have sz : Array.size H68_45 = H0.size := o_68.1.trans sz
  clear h_new
  rw [nI_clamp (by omega)] at hv
  refine V_goto Y.1 (tgt := 22) dJ6_getChars_ba4f3_69 (by decide) ?_
  refine V_iload_n Y.1 1 dJ6_getChars_ba4f3_22 (rfl : _ = 23) rfl rfl ?_
  refine V_bipush Y.1 (v := -100) dJ6_getChars_ba4f3_23 (rfl : _ = 25) (by decide) ?_
  refine V_icmp_gt Y.1 (tgt := 72) dJ6_getChars_ba4f3_25 (by decide) (rfl : _ = 28) (fun _ => ?_) (fun c_n => absurd (neg_lt (w := (w / 100)) (m := 100) (by omega) (by decide) (by omega)) c_n)
  refine V_aload_n Y.1 6 dJ6_getChars_ba4f3_72 (rfl : _ = 73) rfl rfl ?_
  refine V_iinc Y.1 (v := nI (p + 1)) (ls' := [(5, _), (0, _), (4, _), (3, _), (6, _), (1, _), (2, _)]) 0 dJ6_getChars_ba4f3_73 (rfl : _ = 76) rfl (by rw [show Int32.ofInt (-1) = -1 from rfl]; exact pk_m1 _) (by decide) rfl ?_
  refine V_iload Y.1 0 dJ6_getChars_ba4f3_76 (rfl : _ = 78) rfl ?_
  refine V_gets Y zo (tm 1024 (by decide +kernel) (by decide +kernel)) dJ6_getChars_ba4f3_78 (rfl : _ = 81) ?_
  refine V_iload_n Y.1 1 dJ6_getChars_ba4f3_81 (rfl : _ = 82) rfl rfl ?_
  refine V_ineg Y.1 dJ6_getChars_ba4f3_82 (rfl : _ = 83) ?_
  refine V_nm (v := nI (w / 100)) Int32.neg_neg ?_
  refine V_baldT Y (v := (.int (nI (48 + (w / 100) % 10)))) to (vp_in_nI (by omega) (by decide)) (by rw [nI_clamp (by omega)]) dJ6_getChars_ba4f3_83 (rfl : _ = 84) ?_
  refine V_bast Y.1 hv (Or.inl rfl) (vp_in_nI (by omega) (by omega)) (ch_nb (by omega)) dJ6_getChars_ba4f3_84 (rfl : _ = 85) (fun H84_62 h_new o_84 => ?_)
  have hv := h_new
  have sz : Array.size H84_62 = H0.size := o_84.1.trans sz
  clear h_new
  rw [nI_clamp (by omega)] at hv
  refine V_iload_n Y.1 1 dJ6_getChars_ba4f3_85 (rfl : _ = 86) rfl rfl ?_
  refine V_bipush Y.1 (v := -9) dJ6_getChars_ba4f3_86 (rfl : _ = 88) (by decide) ?_
  refine V_icmp_ge Y.1 (tgt := 104) dJ6_getChars_ba4f3_88 (by decide) (rfl : _ = 91) (fun c_n => absurd c_n (neg_nge9 (w := (w / 100)) (by omega) (by omega))) (fun _ => ?_)
  refine V_aload_n Y.1 6 dJ6_getChars_ba4f3_91 (rfl : _ = 92) rfl rfl ?_
  refine V_iinc Y.1 (v := nI (p + 0)) (ls' := [(5, _), (0, _), (4, _), (3, _), (6, _), (1, _), (2, _)]) 0 dJ6_getChars_ba4f3_92 (rfl : _ = 95) rfl (by rw [show Int32.ofInt (-1) = -1 from rfl]; exact pk_m1 _) (by decide) rfl ?_
  refine V_iload Y.1 0 dJ6_getChars_ba4f3_95 (rfl : _ = 97) rfl ?_
  refine V_gets Y zt (tm 1026 (by decide +kernel) (by decide +kernel)) dJ6_getChars_ba4f3_97 (rfl : _ = 100) ?_
  refine V_iload_n Y.1 1 dJ6_getChars_ba4f3_100 (rfl : _ = 101) rfl rfl ?_
  refine V_ineg Y.1 dJ6_getChars_ba4f3_101 (rfl : _ = 102) ?_
  refine V_nm (v := nI (w / 100)) Int32.neg_neg ?_
  refine V_baldT Y (v := (.int (nI (48 + (w / 100) / 10)))) tt (vp_in_nI (by omega) (by decide)) (by rw [nI_clamp (by omega)]) dJ6_getChars_ba4f3_102 (rfl : _ = 103) ?_
  refine V_bast Y.1 hv (Or.inl rfl) (vp_in_nI (by omega) (by omega)) (ch_nb (by omega)) dJ6_getChars_ba4f3_103 (rfl : _ = 104) (fun H103_78 h_new o_103 => ?_)
  have hv := h_new
  have sz : Array.size H103_78 = H0.size := o_103.1.trans sz
  clear h_new
  rw [nI_clamp (by omega)] at hv
  refine V_iload Y.1 4 dJ6_getChars_ba4f3_104 (rfl : _ = 106) rfl ?_
  refine V_if_eq Y.1 (tgt := 118) dJ6_getChars_ba4f3_106 (by decide) (rfl : _ = 109) (fun _ => ?_) (fun c_n => absurd rfl c_n)
  refine V_iload Y.1 0 dJ6_getChars_ba4f3_118 (rfl : _ = 120) rfl ?_
  exact V_ret Y.1 dJ6_getChars_ba4f3_120 rfl (Nat.le_of_ble_eq_true rfl) (Nat.le_of_ble_eq_true rfl) ⟨rfl, by rw [(sg_pos (by omega)).trans (dg_list4 w h1 hw)]; exact hv.cong (fun i _ => by simp only [r_put, upd]; (repeat' split) <;> first | rfl | (exfalso; omega)), sz⟩

set_option maxRecDepth 100000 in
set_option maxHeartbeats 4000000 in
theorem c_J6_getChars_p5 (l : Launch) (D : va_G) (kA : Nat → ClassId) (Hs : Heap) (σ : SG) (H0 : Heap) (hg : Ag Hs H0) (w : Nat) (h1 : 10000 ≤ w) (hw : w < 100000) (p v cap : Nat) (g : Nat → Int32) (hv : hp D H0 v (eB kA cap g)) (hvs : Hs.size ≤ v) (hp9 : p + 5 ≤ cap) (hcap : cap ≤ 120) : CtS l D kA Hs σ yJ6_getChars_ba4f3 cJ6_getChars_ba4f3 7 (some .int) 0 0 0 0 H0 [.int (nI w), .int (nI (p + 5)), .ref v] (fun q => q = v) (pI fun r H => r = nI p ∧ hp D H v (eB kA cap (r_put g p (sg (nI w)))) ∧ H.size = H0.size) := by
  refine CtS.of mi_J6_getChars_ba4f3 (Nat.le_of_ble_eq_true rfl) (ls0 := [(0, _), (1, _), (2, _)]) rfl hg (fun q z => z ▸ hvs) ?_
  intro Pp Ee Ss Mm Ar Bl Me Cc Z hs hnm
  have Y := Z.1
  obtain ⟨ato, zt, tt⟩ := Z.2.2.2.2.2.2.1
  obtain ⟨aoo, zo, to⟩ := Z.2.2.2.2.2.2.2.1
  have sz : H0.size = H0.size := rfl
  refine V_iload_n Y.1 1 dJ6_getChars_ba4f3_0 (rfl : _ = 1) rfl rfl ?_
  refine V_istore Y.1 (ls' := [(5, _), (0, _), (1, _), (2, _)]) dJ6_getChars_ba4f3_1 (rfl : _ = 3) (by decide) rfl ?_
  refine V_iload_n Y.1 1 dJ6_getChars_ba4f3_3 (rfl : _ = 4) rfl rfl ?_
  refine V_if_ge Y.1 (tgt := 11) dJ6_getChars_ba4f3_4 (by decide) (rfl : _ = 7) (fun _ => ?_) (fun c_n => absurd (nI_pos' (by omega)) c_n)
  refine V_iconst Y.1 (v := 0) dJ6_getChars_ba4f3_11 (rfl : _ = 12) (by decide) ?_
  refine V_istore Y.1 (ls' := [(6, _), (5, _), (0, _), (1, _), (2, _)]) dJ6_getChars_ba4f3_12 (rfl : _ = 14) (by decide) rfl ?_
  refine V_iload Y.1 0 dJ6_getChars_ba4f3_14 (rfl : _ = 16) rfl ?_
  refine V_if_ne Y.1 (tgt := 22) dJ6_getChars_ba4f3_16 (by decide) (rfl : _ = 19) (fun c_n => absurd rfl c_n) (fun _ => ?_)
  refine V_iload_n Y.1 2 dJ6_getChars_ba4f3_19 (rfl : _ = 20) rfl rfl ?_
  refine V_ineg Y.1 dJ6_getChars_ba4f3_20 (rfl : _ = 21) ?_
  refine V_istore_n Y.1 (ls' := [(0, _), (6, _), (5, _), (1, _), (2, _)]) dJ6_getChars_ba4f3_21 (rfl : _ = 22) rfl (by decide) rfl ?_
  refine V_iload_n Y.1 0 dJ6_getChars_ba4f3_22 (rfl : _ = 23) rfl rfl ?_
  refine V_bipush Y.1 (v := -100) dJ6_getChars_ba4f3_23 (rfl : _ = 25) (by decide) ?_
  refine V_icmp_gt Y.1 (tgt := 72) dJ6_getChars_ba4f3_25 (by decide) (rfl : _ = 28) (fun c_n => absurd c_n (neg_nlt (w := w) (m := 100) (by omega) (by decide) (by omega))) (fun _ => ?_)
  refine V_iload_n Y.1 0 dJ6_getChars_ba4f3_28 (rfl : _ = 29) rfl rfl ?_
  refine V_bipush Y.1 (v := 100) dJ6_getChars_ba4f3_29 (rfl : _ = 31) (by decide) ?_
  refine V_idiv Y.1 dJ6_getChars_ba4f3_31 (rfl : _ = 32) (by decide) ?_
  refine V_nm (v := -(nI (w / 100))) (neg_div (w := w) (d := 100) (by omega) (by decide) (by decide)) ?_
  refine V_istore_n Y.1 (ls' := [(3, _), (0, _), (6, _), (5, _), (1, _), (2, _)]) dJ6_getChars_ba4f3_32 (rfl : _ = 33) rfl (by decide) rfl ?_
  refine V_iload_n Y.1 0 dJ6_getChars_ba4f3_33 (rfl : _ = 34) rfl rfl ?_
  refine V_bipush Y.1 (v := 100) dJ6_getChars_ba4f3_34 (rfl : _ = 36) (by decide) ?_
  refine V_imul Y.1 dJ6_getChars_ba4f3_36 (rfl : _ = 37) ?_
  refine V_iload_n Y.1 1 dJ6_getChars_ba4f3_37 (rfl : _ = 38) rfl rfl ?_
  refine V_isub Y.1 dJ6_getChars_ba4f3_38 (rfl : _ = 39) ?_
  refine V_nm (v := nI (w % 100)) (neg_rem100 (w := w) (by omega)) ?_
  refine V_istore Y.1 (ls' := [(4, _), (3, _), (0, _), (6, _), (5, _), (1, _), (2, _)]) dJ6_getChars_ba4f3_39 (rfl : _ = 41) (by decide) rfl ?_
  refine V_iload_n Y.1 1 dJ6_getChars_ba4f3_41 (rfl : _ = 42) rfl rfl ?_
  refine V_istore_n Y.1 (ls' := [(0, _), (4, _), (3, _), (6, _), (5, _), (1, _), (2, _)]) dJ6_getChars_ba4f3_42 (rfl : _ = 43) rfl (by decide) rfl ?_
  refine V_aload_n Y.1 6 dJ6_getChars_ba4f3_43 (rfl : _ = 44) rfl rfl ?_
  refine V_iinc Y.1 (v := nI (p + 4)) (ls' := [(5, _), (0, _), (4, _), (3, _), (6, _), (1, _), (2, _)]) 4 dJ6_getChars_ba4f3_44 (rfl : _ = 47) rfl (by rw [show Int32.ofInt (-1) = -1 from rfl]; exact pk_m1 _) (by decide) rfl ?_
  refine V_iload Y.1 0 dJ6_getChars_ba4f3_47 (rfl : _ = 49) rfl ?_
  refine V_gets Y zo (tm 1024 (by decide +kernel) (by decide +kernel)) dJ6_getChars_ba4f3_49 (rfl : _ = 52) ?_
  refine V_iload Y.1 2 dJ6_getChars_ba4f3_52 (rfl : _ = 54) rfl ?_
  refine V_baldT Y (v := (.int (nI (48 + (w % 100) % 10)))) to (vp_in_nI (by omega) (by decide)) (by rw [nI_clamp (by omega)]) dJ6_getChars_ba4f3_54 (rfl : _ = 55) ?_
  refine V_bast Y.1 hv (Or.inl rfl) (vp_in_nI (by omega) (by omega)) (ch_nb (by omega)) dJ6_getChars_ba4f3_55 (rfl : _ = 56) (fun H55_34 h_new o_55 => ?_)
  have hv := h_new
  have sz : Array.size H55_34 = H0.size := o_55.1.trans sz
  clear h_new
  rw [nI_clamp (by omega)] at hv
  refine V_aload_n Y.1 6 dJ6_getChars_ba4f3_56 (rfl : _ = 57) rfl rfl ?_
  refine V_iinc Y.1 (v := nI (p + 3)) (ls' := [(5, _), (0, _), (4, _), (3, _), (6, _), (1, _), (2, _)]) 0 dJ6_getChars_ba4f3_57 (rfl : _ = 60) rfl (by rw [show Int32.ofInt (-1) = -1 from rfl]; exact pk_m1 _) (by decide) rfl ?_
  refine V_iload Y.1 0 dJ6_getChars_ba4f3_60 (rfl : _ = 62) rfl ?_
  refine V_gets Y zt (tm 1026 (by decide +kernel) (by decide +kernel)) dJ6_getChars_ba4f3_62 (rfl : _ = 65) ?_
  refine V_iload Y.1 2 dJ6_getChars_ba4f3_65 (rfl : _ = 67) rfl ?_
  refine V_baldT Y (v := (.int (nI (48 + (w % 100) / 10)))) tt (vp_in_nI (by omega) (by decide)) (by rw [nI_clamp (by omega)]) dJ6_getChars_ba4f3_67 (rfl : _ = 68) ?_
  refine V_bast Y.1 hv (Or.inl rfl) (vp_in_nI (by omega) (by omega)) (ch_nb (by omega)) dJ6_getChars_ba4f3_68 (rfl : _ = 69) (fun H68_45 h_new o_68 => ?_)
  have hv := h_new
  have sz : Array.size H68_45 = H0.size := o_68.1.trans sz
  clear h_new
  rw [nI_clamp (by omega)] at hv
  refine V_goto Y.1 (tgt := 22) dJ6_getChars_ba4f3_69 (by decide) ?_
  refine V_iload_n Y.1 1 dJ6_getChars_ba4f3_22 (rfl : _ = 23) rfl rfl ?_
  refine V_bipush Y.1 (v := -100) dJ6_getChars_ba4f3_23 (rfl : _ = 25) (by decide) ?_
  refine V_icmp_gt Y.1 (tgt := 72) dJ6_getChars_ba4f3_25 (by decide) (rfl : _ = 28) (fun c_n => absurd c_n (neg_nlt (w := (w / 100)) (m := 100) (by omega) (by decide) (by omega))) (fun _ => ?_)
  refine V_iload_n Y.1 1 dJ6_getChars_ba4f3_28 (rfl : _ = 29) rfl rfl ?_
  refine V_bipush Y.1 (v := 100) dJ6_getChars_ba4f3_29 (rfl : _ = 31) (by decide) ?_
  refine V_idiv Y.1 dJ6_getChars_ba4f3_31 (rfl : _ = 32) (by decide) ?_
  refine V_nm (v := -(nI ((w / 100) / 100))) (neg_div (w := (w / 100)) (d := 100) (by omega) (by decide) (by decide)) ?_
  refine V_istore_n Y.1 (ls' := [(3, _), (5, _), (0, _), (4, _), (6, _), (1, _), (2, _)]) dJ6_getChars_ba4f3_32 (rfl : _ = 33) rfl (by decide) rfl ?_
  refine V_iload_n Y.1 0 dJ6_getChars_ba4f3_33 (rfl : _ = 34) rfl rfl ?_
  refine V_bipush Y.1 (v := 100) dJ6_getChars_ba4f3_34 (rfl : _ = 36) (by decide) ?_
  refine V_imul Y.1 dJ6_getChars_ba4f3_36 (rfl : _ = 37) ?_
  refine V_iload_n Y.1 2 dJ6_getChars_ba4f3_37 (rfl : _ = 38) rfl rfl ?_
  refine V_isub Y.1 dJ6_getChars_ba4f3_38 (rfl : _ = 39) ?_
  refine V_nm (v := nI ((w / 100) % 100)) (neg_rem100 (w := (w / 100)) (by omega)) ?_
  refine V_istore Y.1 (ls' := [(4, _), (3, _), (5, _), (0, _), (6, _), (1, _), (2, _)]) dJ6_getChars_ba4f3_39 (rfl : _ = 41) (by decide) rfl ?_
  refine V_iload_n Y.1 1 dJ6_getChars_ba4f3_41 (rfl : _ = 42) rfl rfl ?_
  refine V_istore_n Y.1 (ls' := [(0, _), (4, _), (3, _), (5, _), (6, _), (1, _), (2, _)]) dJ6_getChars_ba4f3_42 (rfl : _ = 43) rfl (by decide) rfl ?_
  refine V_aload_n Y.1 6 dJ6_getChars_ba4f3_43 (rfl : _ = 44) rfl rfl ?_
  refine V_iinc Y.1 (v := nI (p + 2)) (ls' := [(5, _), (0, _), (4, _), (3, _), (6, _), (1, _), (2, _)]) 3 dJ6_getChars_ba4f3_44 (rfl : _ = 47) rfl (by rw [show Int32.ofInt (-1) = -1 from rfl]; exact pk_m1 _) (by decide) rfl ?_
  refine V_iload Y.1 0 dJ6_getChars_ba4f3_47 (rfl : _ = 49) rfl ?_
  refine V_gets Y zo (tm 1024 (by decide +kernel) (by decide +kernel)) dJ6_getChars_ba4f3_49 (rfl : _ = 52) ?_
  refine V_iload Y.1 2 dJ6_getChars_ba4f3_52 (rfl : _ = 54) rfl ?_
  refine V_baldT Y (v := (.int (nI (48 + ((w / 100) % 100) % 10)))) to (vp_in_nI (by omega) (by decide)) (by rw [nI_clamp (by omega)]) dJ6_getChars_ba4f3_54 (rfl : _ = 55) ?_
  refine V_bast Y.1 hv (Or.inl rfl) (vp_in_nI (by omega) (by omega)) (ch_nb (by omega)) dJ6_getChars_ba4f3_55 (rfl : _ = 56) (fun H55_74 h_new o_55 => ?_)
  have hv := h_new
  have sz : Array.size H55_74 = H0.size := o_55.1.trans sz
  clear h_new
  rw [nI_clamp (by omega)] at hv
  refine V_aload_n Y.1 6 dJ6_getChars_ba4f3_56 (rfl : _ = 57) rfl rfl ?_
  refine V_iinc Y.1 (v := nI (p + 1)) (ls' := [(5, _), (0, _), (4, _), (3, _), (6, _), (1, _), (2, _)]) 0 dJ6_getChars_ba4f3_57 (rfl : _ = 60) rfl (by rw [show Int32.ofInt (-1) = -1 from rfl]; exact pk_m1 _) (by decide) rfl ?_
  refine V_iload Y.1 0 dJ6_getChars_ba4f3_60 (rfl : _ = 62) rfl ?_
  refine V_gets Y zt (tm 1026 (by decide +kernel) (by decide +kernel)) dJ6_getChars_ba4f3_62 (rfl : _ = 65) ?_
  refine V_iload Y.1 2 dJ6_getChars_ba4f3_65 (rfl : _ = 67) rfl ?_
  refine V_baldT Y (v := (.int (nI (48 + ((w / 100) % 100) / 10)))) tt (vp_in_nI (by omega) (by decide)) (by rw [nI_clamp (by omega)]) dJ6_getChars_ba4f3_67 (rfl : _ = 68) ?_
  refine V_bast Y.1 hv (Or.inl rfl) (vp_in_nI (by omega) (by omega)) (ch_nb (by omega)) dJ6_getChars_ba4f3_68 (rfl : _ = 69) (fun H68_85 h_new o_68 => ?_)
  have hv := h_new
  have sz : Array.size H68_85 = H0.size := o_68.1.trans sz
  clear h_new
  rw [nI_clamp (by omega)] at hv
  refine V_goto Y.1 (tgt := 22) dJ6_getChars_ba4f3_69 (by decide) ?_
  refine V_iload_n Y.1 1 dJ6_getChars_ba4f3_22 (rfl : _ = 23) rfl rfl ?_
  refine V_bipush Y.1 (v := -100) dJ6_getChars_ba4f3_23 (rfl : _ = 25) (by decide) ?_
  refine V_icmp_gt Y.1 (tgt := 72) dJ6_getChars_ba4f3_25 (by decide) (rfl : _ = 28) (fun _ => ?_) (fun c_n => absurd (neg_lt (w := (w / 100 / 100)) (m := 100) (by omega) (by decide) (by omega)) c_n)
  refine V_aload_n Y.1 6 dJ6_getChars_ba4f3_72 (rfl : _ = 73) rfl rfl ?_
  refine V_iinc Y.1 (v := nI (p + 0)) (ls' := [(5, _), (0, _), (4, _), (3, _), (6, _), (1, _), (2, _)]) 0 dJ6_getChars_ba4f3_73 (rfl : _ = 76) rfl (by rw [show Int32.ofInt (-1) = -1 from rfl]; exact pk_m1 _) (by decide) rfl ?_
  refine V_iload Y.1 0 dJ6_getChars_ba4f3_76 (rfl : _ = 78) rfl ?_
  refine V_gets Y zo (tm 1024 (by decide +kernel) (by decide +kernel)) dJ6_getChars_ba4f3_78 (rfl : _ = 81) ?_
  refine V_iload_n Y.1 1 dJ6_getChars_ba4f3_81 (rfl : _ = 82) rfl rfl ?_
  refine V_ineg Y.1 dJ6_getChars_ba4f3_82 (rfl : _ = 83) ?_
  refine V_nm (v := nI (w / 100 / 100)) Int32.neg_neg ?_
  refine V_baldT Y (v := (.int (nI (48 + (w / 100 / 100) % 10)))) to (vp_in_nI (by omega) (by decide)) (by rw [nI_clamp (by omega)]) dJ6_getChars_ba4f3_83 (rfl : _ = 84) ?_
  refine V_bast Y.1 hv (Or.inl rfl) (vp_in_nI (by omega) (by omega)) (ch_nb (by omega)) dJ6_getChars_ba4f3_84 (rfl : _ = 85) (fun H84_102 h_new o_84 => ?_)
  have hv := h_new
  have sz : Array.size H84_102 = H0.size := o_84.1.trans sz
  clear h_new
  rw [nI_clamp (by omega)] at hv
  refine V_iload_n Y.1 1 dJ6_getChars_ba4f3_85 (rfl : _ = 86) rfl rfl ?_
  refine V_bipush Y.1 (v := -9) dJ6_getChars_ba4f3_86 (rfl : _ = 88) (by decide) ?_
  refine V_icmp_ge Y.1 (tgt := 104) dJ6_getChars_ba4f3_88 (by decide) (rfl : _ = 91) (fun _ => ?_) (fun c_n => absurd (neg_ge9 (w := (w / 100 / 100)) (by omega)) c_n)
  refine V_iload Y.1 4 dJ6_getChars_ba4f3_104 (rfl : _ = 106) rfl ?_
  refine V_if_eq Y.1 (tgt := 118) dJ6_getChars_ba4f3_106 (by decide) (rfl : _ = 109) (fun _ => ?_) (fun c_n => absurd rfl c_n)
  refine V_iload Y.1 0 dJ6_getChars_ba4f3_118 (rfl : _ = 120) rfl ?_
  exact V_ret Y.1 dJ6_getChars_ba4f3_120 rfl (Nat.le_of_ble_eq_true rfl) (Nat.le_of_ble_eq_true rfl) ⟨rfl, by rw [(sg_pos (by omega)).trans (dg_list5 w h1 hw)]; exact hv.cong (fun i _ => by simp only [r_put, upd]; (repeat' split) <;> first | rfl | (exfalso; omega)), sz⟩

set_option maxRecDepth 100000 in
set_option maxHeartbeats 4000000 in
theorem c_J6_getChars_n1 (l : Launch) (D : va_G) (kA : Nat → ClassId) (Hs : Heap) (σ : SG) (H0 : Heap) (hg : Ag Hs H0) (w : Nat) (hw : w < 10) (h0 : 0 < w) (p v cap : Nat) (g : Nat → Int32) (hv : hp D H0 v (eB kA cap g)) (hvs : Hs.size ≤ v) (hp9 : p + 2 ≤ cap) (hcap : cap ≤ 120) : CtS l D kA Hs σ yJ6_getChars_ba4f3 cJ6_getChars_ba4f3 7 (some .int) 0 0 0 0 H0 [.int (-(nI w)), .int (nI (p + 2)), .ref v] (fun q => q = v) (pI fun r H => r = nI p ∧ hp D H v (eB kA cap (r_put g p (sg (-(nI w))))) ∧ H.size = H0.size) := by
  refine CtS.of mi_J6_getChars_ba4f3 (Nat.le_of_ble_eq_true rfl) (ls0 := [(0, _), (1, _), (2, _)]) rfl hg (fun q z => z ▸ hvs) ?_
  intro Pp Ee Ss Mm Ar Bl Me Cc Z hs hnm
  have Y := Z.1
  obtain ⟨ato, zt, tt⟩ := Z.2.2.2.2.2.2.1
  obtain ⟨aoo, zo, to⟩ := Z.2.2.2.2.2.2.2.1
  have sz : H0.size = H0.size := rfl
  refine V_iload_n Y.1 1 dJ6_getChars_ba4f3_0 (rfl : _ = 1) rfl rfl ?_
  refine V_istore Y.1 (ls' := [(5, _), (0, _), (1, _), (2, _)]) dJ6_getChars_ba4f3_1 (rfl : _ = 3) (by decide) rfl ?_
  refine V_iload_n Y.1 1 dJ6_getChars_ba4f3_3 (rfl : _ = 4) rfl rfl ?_
  refine V_if_ge Y.1 (tgt := 11) dJ6_getChars_ba4f3_4 (by decide) (rfl : _ = 7) (fun c_n => absurd c_n (by rw [Int32.le_iff_toInt_le, nI_neg (by omega)]; simp; omega)) (fun _ => ?_)
  refine V_iconst Y.1 (v := 1) dJ6_getChars_ba4f3_7 (rfl : _ = 8) (by decide) ?_
  refine V_goto Y.1 (tgt := 12) dJ6_getChars_ba4f3_8 (by decide) ?_
  refine V_istore Y.1 (ls' := [(6, _), (5, _), (0, _), (1, _), (2, _)]) dJ6_getChars_ba4f3_12 (rfl : _ = 14) (by decide) rfl ?_
  refine V_iload Y.1 0 dJ6_getChars_ba4f3_14 (rfl : _ = 16) rfl ?_
  refine V_if_ne Y.1 (tgt := 22) dJ6_getChars_ba4f3_16 (by decide) (rfl : _ = 19) (fun _ => ?_) (fun c_n => absurd c_n (by decide))
  refine V_iload_n Y.1 2 dJ6_getChars_ba4f3_22 (rfl : _ = 23) rfl rfl ?_
  refine V_bipush Y.1 (v := -100) dJ6_getChars_ba4f3_23 (rfl : _ = 25) (by decide) ?_
  refine V_icmp_gt Y.1 (tgt := 72) dJ6_getChars_ba4f3_25 (by decide) (rfl : _ = 28) (fun _ => ?_) (fun c_n => absurd (neg_lt (w := w) (m := 100) (by omega) (by decide) (by omega)) c_n)
  refine V_aload_n Y.1 4 dJ6_getChars_ba4f3_72 (rfl : _ = 73) rfl rfl ?_
  refine V_iinc Y.1 (v := nI (p + 1)) (ls' := [(5, _), (6, _), (0, _), (1, _), (2, _)]) 1 dJ6_getChars_ba4f3_73 (rfl : _ = 76) rfl (by rw [show Int32.ofInt (-1) = -1 from rfl]; exact pk_m1 _) (by decide) rfl ?_
  refine V_iload Y.1 0 dJ6_getChars_ba4f3_76 (rfl : _ = 78) rfl ?_
  refine V_gets Y zo (tm 1024 (by decide +kernel) (by decide +kernel)) dJ6_getChars_ba4f3_78 (rfl : _ = 81) ?_
  refine V_iload_n Y.1 2 dJ6_getChars_ba4f3_81 (rfl : _ = 82) rfl rfl ?_
  refine V_ineg Y.1 dJ6_getChars_ba4f3_82 (rfl : _ = 83) ?_
  refine V_nm (v := nI w) Int32.neg_neg ?_
  refine V_baldT Y (v := (.int (nI (48 + w % 10)))) to (vp_in_nI (by omega) (by decide)) (by rw [nI_clamp (by omega)]) dJ6_getChars_ba4f3_83 (rfl : _ = 84) ?_
  refine V_bast Y.1 hv (Or.inl rfl) (vp_in_nI (by omega) (by omega)) (ch_nb (by omega)) dJ6_getChars_ba4f3_84 (rfl : _ = 85) (fun H84_20 h_new o_84 => ?_)
  have hv := h_new
  have sz : Array.size H84_20 = H0.size := o_84.1.trans sz
  clear h_new
  rw [nI_clamp (by omega)] at hv
  refine V_iload_n Y.1 2 dJ6_getChars_ba4f3_85 (rfl : _ = 86) rfl rfl ?_
  refine V_bipush Y.1 (v := -9) dJ6_getChars_ba4f3_86 (rfl : _ = 88) (by decide) ?_
  refine V_icmp_ge Y.1 (tgt := 104) dJ6_getChars_ba4f3_88 (by decide) (rfl : _ = 91) (fun _ => ?_) (fun c_n => absurd (neg_ge9 (w := w) (by omega)) c_n)
  refine V_iload Y.1 1 dJ6_getChars_ba4f3_104 (rfl : _ = 106) rfl ?_
  refine V_if_eq Y.1 (tgt := 118) dJ6_getChars_ba4f3_106 (by decide) (rfl : _ = 109) (fun c_n => absurd c_n (by decide)) (fun _ => ?_)
  refine V_aload_n Y.1 4 dJ6_getChars_ba4f3_109 (rfl : _ = 110) rfl rfl ?_
  refine V_iinc Y.1 (v := nI (p + 0)) (ls' := [(5, _), (6, _), (0, _), (1, _), (2, _)]) 0 dJ6_getChars_ba4f3_110 (rfl : _ = 113) rfl (by rw [show Int32.ofInt (-1) = -1 from rfl]; exact pk_m1 _) (by decide) rfl ?_
  refine V_iload Y.1 0 dJ6_getChars_ba4f3_113 (rfl : _ = 115) rfl ?_
  refine V_bipush Y.1 (v := 45) dJ6_getChars_ba4f3_115 (rfl : _ = 117) (by decide) ?_
  refine V_bast Y.1 hv (Or.inl rfl) (vp_in_nI (by omega) (by omega)) (show narrow .byte (.int 45) = .int 45 by decide) dJ6_getChars_ba4f3_117 (rfl : _ = 118) (fun H117_34 h_new o_117 => ?_)
  have hv := h_new
  have sz : Array.size H117_34 = H0.size := o_117.1.trans sz
  clear h_new
  rw [nI_clamp (by omega)] at hv
  refine V_iload Y.1 0 dJ6_getChars_ba4f3_118 (rfl : _ = 120) rfl ?_
  exact V_ret Y.1 dJ6_getChars_ba4f3_120 rfl (Nat.le_of_ble_eq_true rfl) (Nat.le_of_ble_eq_true rfl) ⟨rfl, by rw [(sg_neg h0 (by omega)).trans (congrArg (45 :: ·) (dg_list1 w hw))]; exact hv.cong (fun i _ => by simp only [r_put, upd]; (repeat' split) <;> first | rfl | (exfalso; omega)), sz⟩

set_option maxRecDepth 100000 in
set_option maxHeartbeats 4000000 in
theorem c_J6_getChars_n2 (l : Launch) (D : va_G) (kA : Nat → ClassId) (Hs : Heap) (σ : SG) (H0 : Heap) (hg : Ag Hs H0) (w : Nat) (h1 : 10 ≤ w) (hw : w < 100) (h0 : 0 < w) (p v cap : Nat) (g : Nat → Int32) (hv : hp D H0 v (eB kA cap g)) (hvs : Hs.size ≤ v) (hp9 : p + 3 ≤ cap) (hcap : cap ≤ 120) : CtS l D kA Hs σ yJ6_getChars_ba4f3 cJ6_getChars_ba4f3 7 (some .int) 0 0 0 0 H0 [.int (-(nI w)), .int (nI (p + 3)), .ref v] (fun q => q = v) (pI fun r H => r = nI p ∧ hp D H v (eB kA cap (r_put g p (sg (-(nI w))))) ∧ H.size = H0.size) := by
  refine CtS.of mi_J6_getChars_ba4f3 (Nat.le_of_ble_eq_true rfl) (ls0 := [(0, _), (1, _), (2, _)]) rfl hg (fun q z => z ▸ hvs) ?_
  intro Pp Ee Ss Mm Ar Bl Me Cc Z hs hnm
  have Y := Z.1
  obtain ⟨ato, zt, tt⟩ := Z.2.2.2.2.2.2.1
  obtain ⟨aoo, zo, to⟩ := Z.2.2.2.2.2.2.2.1
  have sz : H0.size = H0.size := rfl
  refine V_iload_n Y.1 1 dJ6_getChars_ba4f3_0 (rfl : _ = 1) rfl rfl ?_
  refine V_istore Y.1 (ls' := [(5, _), (0, _), (1, _), (2, _)]) dJ6_getChars_ba4f3_1 (rfl : _ = 3) (by decide) rfl ?_
  refine V_iload_n Y.1 1 dJ6_getChars_ba4f3_3 (rfl : _ = 4) rfl rfl ?_
  refine V_if_ge Y.1 (tgt := 11) dJ6_getChars_ba4f3_4 (by decide) (rfl : _ = 7) (fun c_n => absurd c_n (by rw [Int32.le_iff_toInt_le, nI_neg (by omega)]; simp; omega)) (fun _ => ?_)
  refine V_iconst Y.1 (v := 1) dJ6_getChars_ba4f3_7 (rfl : _ = 8) (by decide) ?_
  refine V_goto Y.1 (tgt := 12) dJ6_getChars_ba4f3_8 (by decide) ?_
  refine V_istore Y.1 (ls' := [(6, _), (5, _), (0, _), (1, _), (2, _)]) dJ6_getChars_ba4f3_12 (rfl : _ = 14) (by decide) rfl ?_
  refine V_iload Y.1 0 dJ6_getChars_ba4f3_14 (rfl : _ = 16) rfl ?_
  refine V_if_ne Y.1 (tgt := 22) dJ6_getChars_ba4f3_16 (by decide) (rfl : _ = 19) (fun _ => ?_) (fun c_n => absurd c_n (by decide))
  refine V_iload_n Y.1 2 dJ6_getChars_ba4f3_22 (rfl : _ = 23) rfl rfl ?_
  refine V_bipush Y.1 (v := -100) dJ6_getChars_ba4f3_23 (rfl : _ = 25) (by decide) ?_
  refine V_icmp_gt Y.1 (tgt := 72) dJ6_getChars_ba4f3_25 (by decide) (rfl : _ = 28) (fun _ => ?_) (fun c_n => absurd (neg_lt (w := w) (m := 100) (by omega) (by decide) (by omega)) c_n)
  refine V_aload_n Y.1 4 dJ6_getChars_ba4f3_72 (rfl : _ = 73) rfl rfl ?_
  refine V_iinc Y.1 (v := nI (p + 2)) (ls' := [(5, _), (6, _), (0, _), (1, _), (2, _)]) 1 dJ6_getChars_ba4f3_73 (rfl : _ = 76) rfl (by rw [show Int32.ofInt (-1) = -1 from rfl]; exact pk_m1 _) (by decide) rfl ?_
  refine V_iload Y.1 0 dJ6_getChars_ba4f3_76 (rfl : _ = 78) rfl ?_
  refine V_gets Y zo (tm 1024 (by decide +kernel) (by decide +kernel)) dJ6_getChars_ba4f3_78 (rfl : _ = 81) ?_
  refine V_iload_n Y.1 2 dJ6_getChars_ba4f3_81 (rfl : _ = 82) rfl rfl ?_
  refine V_ineg Y.1 dJ6_getChars_ba4f3_82 (rfl : _ = 83) ?_
  refine V_nm (v := nI w) Int32.neg_neg ?_
  refine V_baldT Y (v := (.int (nI (48 + w % 10)))) to (vp_in_nI (by omega) (by decide)) (by rw [nI_clamp (by omega)]) dJ6_getChars_ba4f3_83 (rfl : _ = 84) ?_
  refine V_bast Y.1 hv (Or.inl rfl) (vp_in_nI (by omega) (by omega)) (ch_nb (by omega)) dJ6_getChars_ba4f3_84 (rfl : _ = 85) (fun H84_20 h_new o_84 => ?_)
  have hv := h_new
  have sz : Array.size H84_20 = H0.size := o_84.1.trans sz
  clear h_new
  rw [nI_clamp (by omega)] at hv
  refine V_iload_n Y.1 2 dJ6_getChars_ba4f3_85 (rfl : _ = 86) rfl rfl ?_
  refine V_bipush Y.1 (v := -9) dJ6_getChars_ba4f3_86 (rfl : _ = 88) (by decide) ?_
  refine V_icmp_ge Y.1 (tgt := 104) dJ6_getChars_ba4f3_88 (by decide) (rfl : _ = 91) (fun c_n => absurd c_n (neg_nge9 (w := w) (by omega) (by omega))) (fun _ => ?_)
  refine V_aload_n Y.1 4 dJ6_getChars_ba4f3_91 (rfl : _ = 92) rfl rfl ?_
  refine V_iinc Y.1 (v := nI (p + 1)) (ls' := [(5, _), (6, _), (0, _), (1, _), (2, _)]) 0 dJ6_getChars_ba4f3_92 (rfl : _ = 95) rfl (by rw [show Int32.ofInt (-1) = -1 from rfl]; exact pk_m1 _) (by decide) rfl ?_
  refine V_iload Y.1 0 dJ6_getChars_ba4f3_95 (rfl : _ = 97) rfl ?_
  refine V_gets Y zt (tm 1026 (by decide +kernel) (by decide +kernel)) dJ6_getChars_ba4f3_97 (rfl : _ = 100) ?_
  refine V_iload_n Y.1 2 dJ6_getChars_ba4f3_100 (rfl : _ = 101) rfl rfl ?_
  refine V_ineg Y.1 dJ6_getChars_ba4f3_101 (rfl : _ = 102) ?_
  refine V_nm (v := nI w) Int32.neg_neg ?_
  refine V_baldT Y (v := (.int (nI (48 + w / 10)))) tt (vp_in_nI (by omega) (by decide)) (by rw [nI_clamp (by omega)]) dJ6_getChars_ba4f3_102 (rfl : _ = 103) ?_
  refine V_bast Y.1 hv (Or.inl rfl) (vp_in_nI (by omega) (by omega)) (ch_nb (by omega)) dJ6_getChars_ba4f3_103 (rfl : _ = 104) (fun H103_36 h_new o_103 => ?_)
  have hv := h_new
  have sz : Array.size H103_36 = H0.size := o_103.1.trans sz
  clear h_new
  rw [nI_clamp (by omega)] at hv
  refine V_iload Y.1 1 dJ6_getChars_ba4f3_104 (rfl : _ = 106) rfl ?_
  refine V_if_eq Y.1 (tgt := 118) dJ6_getChars_ba4f3_106 (by decide) (rfl : _ = 109) (fun c_n => absurd c_n (by decide)) (fun _ => ?_)
  refine V_aload_n Y.1 4 dJ6_getChars_ba4f3_109 (rfl : _ = 110) rfl rfl ?_
  refine V_iinc Y.1 (v := nI (p + 0)) (ls' := [(5, _), (6, _), (0, _), (1, _), (2, _)]) 0 dJ6_getChars_ba4f3_110 (rfl : _ = 113) rfl (by rw [show Int32.ofInt (-1) = -1 from rfl]; exact pk_m1 _) (by decide) rfl ?_
  refine V_iload Y.1 0 dJ6_getChars_ba4f3_113 (rfl : _ = 115) rfl ?_
  refine V_bipush Y.1 (v := 45) dJ6_getChars_ba4f3_115 (rfl : _ = 117) (by decide) ?_
  refine V_bast Y.1 hv (Or.inl rfl) (vp_in_nI (by omega) (by omega)) (show narrow .byte (.int 45) = .int 45 by decide) dJ6_getChars_ba4f3_117 (rfl : _ = 118) (fun H117_47 h_new o_117 => ?_)
  have hv := h_new
  have sz : Array.size H117_47 = H0.size := o_117.1.trans sz
  clear h_new
  rw [nI_clamp (by omega)] at hv
  refine V_iload Y.1 0 dJ6_getChars_ba4f3_118 (rfl : _ = 120) rfl ?_
  exact V_ret Y.1 dJ6_getChars_ba4f3_120 rfl (Nat.le_of_ble_eq_true rfl) (Nat.le_of_ble_eq_true rfl) ⟨rfl, by rw [(sg_neg h0 (by omega)).trans (congrArg (45 :: ·) (dg_list2 w h1 hw))]; exact hv.cong (fun i _ => by simp only [r_put, upd]; (repeat' split) <;> first | rfl | (exfalso; omega)), sz⟩

set_option maxRecDepth 100000 in
set_option maxHeartbeats 4000000 in
theorem c_J6_getChars_n3 (l : Launch) (D : va_G) (kA : Nat → ClassId) (Hs : Heap) (σ : SG) (H0 : Heap) (hg : Ag Hs H0) (w : Nat) (h1 : 100 ≤ w) (hw : w < 1000) (h0 : 0 < w) (p v cap : Nat) (g : Nat → Int32) (hv : hp D H0 v (eB kA cap g)) (hvs : Hs.size ≤ v) (hp9 : p + 4 ≤ cap) (hcap : cap ≤ 120) : CtS l D kA Hs σ yJ6_getChars_ba4f3 cJ6_getChars_ba4f3 7 (some .int) 0 0 0 0 H0 [.int (-(nI w)), .int (nI (p + 4)), .ref v] (fun q => q = v) (pI fun r H => r = nI p ∧ hp D H v (eB kA cap (r_put g p (sg (-(nI w))))) ∧ H.size = H0.size) := by
  refine CtS.of mi_J6_getChars_ba4f3 (Nat.le_of_ble_eq_true rfl) (ls0 := [(0, _), (1, _), (2, _)]) rfl hg (fun q z => z ▸ hvs) ?_
  intro Pp Ee Ss Mm Ar Bl Me Cc Z hs hnm
  have Y := Z.1
  obtain ⟨ato, zt, tt⟩ := Z.2.2.2.2.2.2.1
  obtain ⟨aoo, zo, to⟩ := Z.2.2.2.2.2.2.2.1
  have sz : H0.size = H0.size := rfl
  refine V_iload_n Y.1 1 dJ6_getChars_ba4f3_0 (rfl : _ = 1) rfl rfl ?_
  refine V_istore Y.1 (ls' := [(5, _), (0, _), (1, _), (2, _)]) dJ6_getChars_ba4f3_1 (rfl : _ = 3) (by decide) rfl ?_
  refine V_iload_n Y.1 1 dJ6_getChars_ba4f3_3 (rfl : _ = 4) rfl rfl ?_
  refine V_if_ge Y.1 (tgt := 11) dJ6_getChars_ba4f3_4 (by decide) (rfl : _ = 7) (fun c_n => absurd c_n (by rw [Int32.le_iff_toInt_le, nI_neg (by omega)]; simp; omega)) (fun _ => ?_)
  refine V_iconst Y.1 (v := 1) dJ6_getChars_ba4f3_7 (rfl : _ = 8) (by decide) ?_
  refine V_goto Y.1 (tgt := 12) dJ6_getChars_ba4f3_8 (by decide) ?_
  refine V_istore Y.1 (ls' := [(6, _), (5, _), (0, _), (1, _), (2, _)]) dJ6_getChars_ba4f3_12 (rfl : _ = 14) (by decide) rfl ?_
  refine V_iload Y.1 0 dJ6_getChars_ba4f3_14 (rfl : _ = 16) rfl ?_
  refine V_if_ne Y.1 (tgt := 22) dJ6_getChars_ba4f3_16 (by decide) (rfl : _ = 19) (fun _ => ?_) (fun c_n => absurd c_n (by decide))
  refine V_iload_n Y.1 2 dJ6_getChars_ba4f3_22 (rfl : _ = 23) rfl rfl ?_
  refine V_bipush Y.1 (v := -100) dJ6_getChars_ba4f3_23 (rfl : _ = 25) (by decide) ?_
  refine V_icmp_gt Y.1 (tgt := 72) dJ6_getChars_ba4f3_25 (by decide) (rfl : _ = 28) (fun c_n => absurd c_n (neg_nlt (w := w) (m := 100) (by omega) (by decide) (by omega))) (fun _ => ?_)
  refine V_iload_n Y.1 2 dJ6_getChars_ba4f3_28 (rfl : _ = 29) rfl rfl ?_
  refine V_bipush Y.1 (v := 100) dJ6_getChars_ba4f3_29 (rfl : _ = 31) (by decide) ?_
  refine V_idiv Y.1 dJ6_getChars_ba4f3_31 (rfl : _ = 32) (by decide) ?_
  refine V_nm (v := -(nI (w / 100))) (neg_div (w := w) (d := 100) (by omega) (by decide) (by decide)) ?_
  refine V_istore_n Y.1 (ls' := [(3, _), (6, _), (5, _), (0, _), (1, _), (2, _)]) dJ6_getChars_ba4f3_32 (rfl : _ = 33) rfl (by decide) rfl ?_
  refine V_iload_n Y.1 0 dJ6_getChars_ba4f3_33 (rfl : _ = 34) rfl rfl ?_
  refine V_bipush Y.1 (v := 100) dJ6_getChars_ba4f3_34 (rfl : _ = 36) (by decide) ?_
  refine V_imul Y.1 dJ6_getChars_ba4f3_36 (rfl : _ = 37) ?_
  refine V_iload_n Y.1 3 dJ6_getChars_ba4f3_37 (rfl : _ = 38) rfl rfl ?_
  refine V_isub Y.1 dJ6_getChars_ba4f3_38 (rfl : _ = 39) ?_
  refine V_nm (v := nI (w % 100)) (neg_rem100 (w := w) (by omega)) ?_
  refine V_istore Y.1 (ls' := [(4, _), (3, _), (6, _), (5, _), (0, _), (1, _), (2, _)]) dJ6_getChars_ba4f3_39 (rfl : _ = 41) (by decide) rfl ?_
  refine V_iload_n Y.1 1 dJ6_getChars_ba4f3_41 (rfl : _ = 42) rfl rfl ?_
  refine V_istore_n Y.1 (ls' := [(0, _), (4, _), (3, _), (6, _), (5, _), (1, _), (2, _)]) dJ6_getChars_ba4f3_42 (rfl : _ = 43) rfl (by decide) rfl ?_
  refine V_aload_n Y.1 6 dJ6_getChars_ba4f3_43 (rfl : _ = 44) rfl rfl ?_
  refine V_iinc Y.1 (v := nI (p + 3)) (ls' := [(5, _), (0, _), (4, _), (3, _), (6, _), (1, _), (2, _)]) 4 dJ6_getChars_ba4f3_44 (rfl : _ = 47) rfl (by rw [show Int32.ofInt (-1) = -1 from rfl]; exact pk_m1 _) (by decide) rfl ?_
  refine V_iload Y.1 0 dJ6_getChars_ba4f3_47 (rfl : _ = 49) rfl ?_
  refine V_gets Y zo (tm 1024 (by decide +kernel) (by decide +kernel)) dJ6_getChars_ba4f3_49 (rfl : _ = 52) ?_
  refine V_iload Y.1 2 dJ6_getChars_ba4f3_52 (rfl : _ = 54) rfl ?_
  refine V_baldT Y (v := (.int (nI (48 + (w % 100) % 10)))) to (vp_in_nI (by omega) (by decide)) (by rw [nI_clamp (by omega)]) dJ6_getChars_ba4f3_54 (rfl : _ = 55) ?_
  refine V_bast Y.1 hv (Or.inl rfl) (vp_in_nI (by omega) (by omega)) (ch_nb (by omega)) dJ6_getChars_ba4f3_55 (rfl : _ = 56) (fun H55_32 h_new o_55 => ?_)
  have hv := h_new
  have sz : Array.size H55_32 = H0.size := o_55.1.trans sz
  clear h_new
  rw [nI_clamp (by omega)] at hv
  refine V_aload_n Y.1 6 dJ6_getChars_ba4f3_56 (rfl : _ = 57) rfl rfl ?_
  refine V_iinc Y.1 (v := nI (p + 2)) (ls' := [(5, _), (0, _), (4, _), (3, _), (6, _), (1, _), (2, _)]) 0 dJ6_getChars_ba4f3_57 (rfl : _ = 60) rfl (by rw [show Int32.ofInt (-1) = -1 from rfl]; exact pk_m1 _) (by decide) rfl ?_
  refine V_iload Y.1 0 dJ6_getChars_ba4f3_60 (rfl : _ = 62) rfl ?_
  refine V_gets Y zt (tm 1026 (by decide +kernel) (by decide +kernel)) dJ6_getChars_ba4f3_62 (rfl : _ = 65) ?_
  refine V_iload Y.1 2 dJ6_getChars_ba4f3_65 (rfl : _ = 67) rfl ?_
  refine V_baldT Y (v := (.int (nI (48 + (w % 100) / 10)))) tt (vp_in_nI (by omega) (by decide)) (by rw [nI_clamp (by omega)]) dJ6_getChars_ba4f3_67 (rfl : _ = 68) ?_
  refine V_bast Y.1 hv (Or.inl rfl) (vp_in_nI (by omega) (by omega)) (ch_nb (by omega)) dJ6_getChars_ba4f3_68 (rfl : _ = 69) (fun H68_43 h_new o_68 => ?_)
  have hv := h_new
  have sz : Array.size H68_43 = H0.size := o_68.1.trans sz
  clear h_new
  rw [nI_clamp (by omega)] at hv
  refine V_goto Y.1 (tgt := 22) dJ6_getChars_ba4f3_69 (by decide) ?_
  refine V_iload_n Y.1 1 dJ6_getChars_ba4f3_22 (rfl : _ = 23) rfl rfl ?_
  refine V_bipush Y.1 (v := -100) dJ6_getChars_ba4f3_23 (rfl : _ = 25) (by decide) ?_
  refine V_icmp_gt Y.1 (tgt := 72) dJ6_getChars_ba4f3_25 (by decide) (rfl : _ = 28) (fun _ => ?_) (fun c_n => absurd (neg_lt (w := (w / 100)) (m := 100) (by omega) (by decide) (by omega)) c_n)
  refine V_aload_n Y.1 6 dJ6_getChars_ba4f3_72 (rfl : _ = 73) rfl rfl ?_
  refine V_iinc Y.1 (v := nI (p + 1)) (ls' := [(5, _), (0, _), (4, _), (3, _), (6, _), (1, _), (2, _)]) 0 dJ6_getChars_ba4f3_73 (rfl : _ = 76) rfl (by rw [show Int32.ofInt (-1) = -1 from rfl]; exact pk_m1 _) (by decide) rfl ?_
  refine V_iload Y.1 0 dJ6_getChars_ba4f3_76 (rfl : _ = 78) rfl ?_
  refine V_gets Y zo (tm 1024 (by decide +kernel) (by decide +kernel)) dJ6_getChars_ba4f3_78 (rfl : _ = 81) ?_
  refine V_iload_n Y.1 1 dJ6_getChars_ba4f3_81 (rfl : _ = 82) rfl rfl ?_
  refine V_ineg Y.1 dJ6_getChars_ba4f3_82 (rfl : _ = 83) ?_
  refine V_nm (v := nI (w / 100)) Int32.neg_neg ?_
  refine V_baldT Y (v := (.int (nI (48 + (w / 100) % 10)))) to (vp_in_nI (by omega) (by decide)) (by rw [nI_clamp (by omega)]) dJ6_getChars_ba4f3_83 (rfl : _ = 84) ?_
  refine V_bast Y.1 hv (Or.inl rfl) (vp_in_nI (by omega) (by omega)) (ch_nb (by omega)) dJ6_getChars_ba4f3_84 (rfl : _ = 85) (fun H84_60 h_new o_84 => ?_)
  have hv := h_new
  have sz : Array.size H84_60 = H0.size := o_84.1.trans sz
  clear h_new
  rw [nI_clamp (by omega)] at hv
  refine V_iload_n Y.1 1 dJ6_getChars_ba4f3_85 (rfl : _ = 86) rfl rfl ?_
  refine V_bipush Y.1 (v := -9) dJ6_getChars_ba4f3_86 (rfl : _ = 88) (by decide) ?_
  refine V_icmp_ge Y.1 (tgt := 104) dJ6_getChars_ba4f3_88 (by decide) (rfl : _ = 91) (fun _ => ?_) (fun c_n => absurd (neg_ge9 (w := (w / 100)) (by omega)) c_n)
  refine V_iload Y.1 4 dJ6_getChars_ba4f3_104 (rfl : _ = 106) rfl ?_
  refine V_if_eq Y.1 (tgt := 118) dJ6_getChars_ba4f3_106 (by decide) (rfl : _ = 109) (fun c_n => absurd c_n (by decide)) (fun _ => ?_)
  refine V_aload_n Y.1 6 dJ6_getChars_ba4f3_109 (rfl : _ = 110) rfl rfl ?_
  refine V_iinc Y.1 (v := nI (p + 0)) (ls' := [(5, _), (0, _), (4, _), (3, _), (6, _), (1, _), (2, _)]) 0 dJ6_getChars_ba4f3_110 (rfl : _ = 113) rfl (by rw [show Int32.ofInt (-1) = -1 from rfl]; exact pk_m1 _) (by decide) rfl ?_
  refine V_iload Y.1 0 dJ6_getChars_ba4f3_113 (rfl : _ = 115) rfl ?_
  refine V_bipush Y.1 (v := 45) dJ6_getChars_ba4f3_115 (rfl : _ = 117) (by decide) ?_
  refine V_bast Y.1 hv (Or.inl rfl) (vp_in_nI (by omega) (by omega)) (show narrow .byte (.int 45) = .int 45 by decide) dJ6_getChars_ba4f3_117 (rfl : _ = 118) (fun H117_74 h_new o_117 => ?_)
  have hv := h_new
  have sz : Array.size H117_74 = H0.size := o_117.1.trans sz
  clear h_new
  rw [nI_clamp (by omega)] at hv
  refine V_iload Y.1 0 dJ6_getChars_ba4f3_118 (rfl : _ = 120) rfl ?_
  exact V_ret Y.1 dJ6_getChars_ba4f3_120 rfl (Nat.le_of_ble_eq_true rfl) (Nat.le_of_ble_eq_true rfl) ⟨rfl, by rw [(sg_neg h0 (by omega)).trans (congrArg (45 :: ·) (dg_list3 w h1 hw))]; exact hv.cong (fun i _ => by simp only [r_put, upd]; (repeat' split) <;> first | rfl | (exfalso; omega)), sz⟩

set_option maxRecDepth 100000 in
set_option maxHeartbeats 4000000 in
theorem c_J6_getChars_n4 (l : Launch) (D : va_G) (kA : Nat → ClassId) (Hs : Heap) (σ : SG) (H0 : Heap) (hg : Ag Hs H0) (w : Nat) (h1 : 1000 ≤ w) (hw : w < 10000) (h0 : 0 < w) (p v cap : Nat) (g : Nat → Int32) (hv : hp D H0 v (eB kA cap g)) (hvs : Hs.size ≤ v) (hp9 : p + 5 ≤ cap) (hcap : cap ≤ 120) : CtS l D kA Hs σ yJ6_getChars_ba4f3 cJ6_getChars_ba4f3 7 (some .int) 0 0 0 0 H0 [.int (-(nI w)), .int (nI (p + 5)), .ref v] (fun q => q = v) (pI fun r H => r = nI p ∧ hp D H v (eB kA cap (r_put g p (sg (-(nI w))))) ∧ H.size = H0.size) := by
  refine CtS.of mi_J6_getChars_ba4f3 (Nat.le_of_ble_eq_true rfl) (ls0 := [(0, _), (1, _), (2, _)]) rfl hg (fun q z => z ▸ hvs) ?_
  intro Pp Ee Ss Mm Ar Bl Me Cc Z hs hnm
  have Y := Z.1
  obtain ⟨ato, zt, tt⟩ := Z.2.2.2.2.2.2.1
  obtain ⟨aoo, zo, to⟩ := Z.2.2.2.2.2.2.2.1
  have sz : H0.size = H0.size := rfl
  refine V_iload_n Y.1 1 dJ6_getChars_ba4f3_0 (rfl : _ = 1) rfl rfl ?_
  refine V_istore Y.1 (ls' := [(5, _), (0, _), (1, _), (2, _)]) dJ6_getChars_ba4f3_1 (rfl : _ = 3) (by decide) rfl ?_
  refine V_iload_n Y.1 1 dJ6_getChars_ba4f3_3 (rfl : _ = 4) rfl rfl ?_
  refine V_if_ge Y.1 (tgt := 11) dJ6_getChars_ba4f3_4 (by decide) (rfl : _ = 7) (fun c_n => absurd c_n (by rw [Int32.le_iff_toInt_le, nI_neg (by omega)]; simp; omega)) (fun _ => ?_)
  refine V_iconst Y.1 (v := 1) dJ6_getChars_ba4f3_7 (rfl : _ = 8) (by decide) ?_
  refine V_goto Y.1 (tgt := 12) dJ6_getChars_ba4f3_8 (by decide) ?_
  refine V_istore Y.1 (ls' := [(6, _), (5, _), (0, _), (1, _), (2, _)]) dJ6_getChars_ba4f3_12 (rfl : _ = 14) (by decide) rfl ?_
  refine V_iload Y.1 0 dJ6_getChars_ba4f3_14 (rfl : _ = 16) rfl ?_
  refine V_if_ne Y.1 (tgt := 22) dJ6_getChars_ba4f3_16 (by decide) (rfl : _ = 19) (fun _ => ?_) (fun c_n => absurd c_n (by decide))
  refine V_iload_n Y.1 2 dJ6_getChars_ba4f3_22 (rfl : _ = 23) rfl rfl ?_
  refine V_bipush Y.1 (v := -100) dJ6_getChars_ba4f3_23 (rfl : _ = 25) (by decide) ?_
  refine V_icmp_gt Y.1 (tgt := 72) dJ6_getChars_ba4f3_25 (by decide) (rfl : _ = 28) (fun c_n => absurd c_n (neg_nlt (w := w) (m := 100) (by omega) (by decide) (by omega))) (fun _ => ?_)
  refine V_iload_n Y.1 2 dJ6_getChars_ba4f3_28 (rfl : _ = 29) rfl rfl ?_
  refine V_bipush Y.1 (v := 100) dJ6_getChars_ba4f3_29 (rfl : _ = 31) (by decide) ?_
  refine V_idiv Y.1 dJ6_getChars_ba4f3_31 (rfl : _ = 32) (by decide) ?_
  refine V_nm (v := -(nI (w / 100))) (neg_div (w := w) (d := 100) (by omega) (by decide) (by decide)) ?_
  refine V_istore_n Y.1 (ls' := [(3, _), (6, _), (5, _), (0, _), (1, _), (2, _)]) dJ6_getChars_ba4f3_32 (rfl : _ = 33) rfl (by decide) rfl ?_
  refine V_iload_n Y.1 0 dJ6_getChars_ba4f3_33 (rfl : _ = 34) rfl rfl ?_
  refine V_bipush Y.1 (v := 100) dJ6_getChars_ba4f3_34 (rfl : _ = 36) (by decide) ?_
  refine V_imul Y.1 dJ6_getChars_ba4f3_36 (rfl : _ = 37) ?_
  refine V_iload_n Y.1 3 dJ6_getChars_ba4f3_37 (rfl : _ = 38) rfl rfl ?_
  refine V_isub Y.1 dJ6_getChars_ba4f3_38 (rfl : _ = 39) ?_
  refine V_nm (v := nI (w % 100)) (neg_rem100 (w := w) (by omega)) ?_
  refine V_istore Y.1 (ls' := [(4, _), (3, _), (6, _), (5, _), (0, _), (1, _), (2, _)]) dJ6_getChars_ba4f3_39 (rfl : _ = 41) (by decide) rfl ?_
  refine V_iload_n Y.1 1 dJ6_getChars_ba4f3_41 (rfl : _ = 42) rfl rfl ?_
  refine V_istore_n Y.1 (ls' := [(0, _), (4, _), (3, _), (6, _), (5, _), (1, _), (2, _)]) dJ6_getChars_ba4f3_42 (rfl : _ = 43) rfl (by decide) rfl ?_
  refine V_aload_n Y.1 6 dJ6_getChars_ba4f3_43 (rfl : _ = 44) rfl rfl ?_
  refine V_iinc Y.1 (v := nI (p + 4)) (ls' := [(5, _), (0, _), (4, _), (3, _), (6, _), (1, _), (2, _)]) 4 dJ6_getChars_ba4f3_44 (rfl : _ = 47) rfl (by rw [show Int32.ofInt (-1) = -1 from rfl]; exact pk_m1 _) (by decide) rfl ?_
  refine V_iload Y.1 0 dJ6_getChars_ba4f3_47 (rfl : _ = 49) rfl ?_
  refine V_gets Y zo (tm 1024 (by decide +kernel) (by decide +kernel)) dJ6_getChars_ba4f3_49 (rfl : _ = 52) ?_
  refine V_iload Y.1 2 dJ6_getChars_ba4f3_52 (rfl : _ = 54) rfl ?_
  refine V_baldT Y (v := (.int (nI (48 + (w % 100) % 10)))) to (vp_in_nI (by omega) (by decide)) (by rw [nI_clamp (by omega)]) dJ6_getChars_ba4f3_54 (rfl : _ = 55) ?_
  refine V_bast Y.1 hv (Or.inl rfl) (vp_in_nI (by omega) (by omega)) (ch_nb (by omega)) dJ6_getChars_ba4f3_55 (rfl : _ = 56) (fun H55_32 h_new o_55 => ?_)
  have hv := h_new
  have sz : Array.size H55_32 = H0.size := o_55.1.trans sz
  clear h_new
  rw [nI_clamp (by omega)] at hv
  refine V_aload_n Y.1 6 dJ6_getChars_ba4f3_56 (rfl : _ = 57) rfl rfl ?_
  refine V_iinc Y.1 (v := nI (p + 3)) (ls' := [(5, _), (0, _), (4, _), (3, _), (6, _), (1, _), (2, _)]) 0 dJ6_getChars_ba4f3_57 (rfl : _ = 60) rfl (by rw [show Int32.ofInt (-1) = -1 from rfl]; exact pk_m1 _) (by decide) rfl ?_
  refine V_iload Y.1 0 dJ6_getChars_ba4f3_60 (rfl : _ = 62) rfl ?_
  refine V_gets Y zt (tm 1026 (by decide +kernel) (by decide +kernel)) dJ6_getChars_ba4f3_62 (rfl : _ = 65) ?_
  refine V_iload Y.1 2 dJ6_getChars_ba4f3_65 (rfl : _ = 67) rfl ?_
  refine V_baldT Y (v := (.int (nI (48 + (w % 100) / 10)))) tt (vp_in_nI (by omega) (by decide)) (by rw [nI_clamp (by omega)]) dJ6_getChars_ba4f3_67 (rfl : _ = 68) ?_
  refine V_bast Y.1 hv (Or.inl rfl) (vp_in_nI (by omega) (by omega)) (ch_nb (by omega)) dJ6_getChars_ba4f3_68 (rfl : _ = 69) (fun H68_43 h_new o_68 => ?_)
  have hv := h_new
  have sz : Array.size H68_43 = H0.size := o_68.1.trans sz
  clear h_new
  rw [nI_clamp (by omega)] at hv
  refine V_goto Y.1 (tgt := 22) dJ6_getChars_ba4f3_69 (by decide) ?_
  refine V_iload_n Y.1 1 dJ6_getChars_ba4f3_22 (rfl : _ = 23) rfl rfl ?_
  refine V_bipush Y.1 (v := -100) dJ6_getChars_ba4f3_23 (rfl : _ = 25) (by decide) ?_
  refine V_icmp_gt Y.1 (tgt := 72) dJ6_getChars_ba4f3_25 (by decide) (rfl : _ = 28) (fun _ => ?_) (fun c_n => absurd (neg_lt (w := (w / 100)) (m := 100) (by omega) (by decide) (by omega)) c_n)
  refine V_aload_n Y.1 6 dJ6_getChars_ba4f3_72 (rfl : _ = 73) rfl rfl ?_
  refine V_iinc Y.1 (v := nI (p + 2)) (ls' := [(5, _), (0, _), (4, _), (3, _), (6, _), (1, _), (2, _)]) 0 dJ6_getChars_ba4f3_73 (rfl : _ = 76) rfl (by rw [show Int32.ofInt (-1) = -1 from rfl]; exact pk_m1 _) (by decide) rfl ?_
  refine V_iload Y.1 0 dJ6_getChars_ba4f3_76 (rfl : _ = 78) rfl ?_
  refine V_gets Y zo (tm 1024 (by decide +kernel) (by decide +kernel)) dJ6_getChars_ba4f3_78 (rfl : _ = 81) ?_
  refine V_iload_n Y.1 1 dJ6_getChars_ba4f3_81 (rfl : _ = 82) rfl rfl ?_
  refine V_ineg Y.1 dJ6_getChars_ba4f3_82 (rfl : _ = 83) ?_
  refine V_nm (v := nI (w / 100)) Int32.neg_neg ?_
  refine V_baldT Y (v := (.int (nI (48 + (w / 100) % 10)))) to (vp_in_nI (by omega) (by decide)) (by rw [nI_clamp (by omega)]) dJ6_getChars_ba4f3_83 (rfl : _ = 84) ?_
  refine V_bast Y.1 hv (Or.inl rfl) (vp_in_nI (by omega) (by omega)) (ch_nb (by omega)) dJ6_getChars_ba4f3_84 (rfl : _ = 85) (fun H84_60 h_new o_84 => ?_)
  have hv := h_new
  have sz : Array.size H84_60 = H0.size := o_84.1.trans sz
  clear h_new
  rw [nI_clamp (by omega)] at hv
  refine V_iload_n Y.1 1 dJ6_getChars_ba4f3_85 (rfl : _ = 86) rfl rfl ?_
  refine V_bipush Y.1 (v := -9) dJ6_getChars_ba4f3_86 (rfl : _ = 88) (by decide) ?_
  refine V_icmp_ge Y.1 (tgt := 104) dJ6_getChars_ba4f3_88 (by decide) (rfl : _ = 91) (fun c_n => absurd c_n (neg_nge9 (w := (w / 100)) (by omega) (by omega))) (fun _ => ?_)
  refine V_aload_n Y.1 6 dJ6_getChars_ba4f3_91 (rfl : _ = 92) rfl rfl ?_
  refine V_iinc Y.1 (v := nI (p + 1)) (ls' := [(5, _), (0, _), (4, _), (3, _), (6, _), (1, _), (2, _)]) 0 dJ6_getChars_ba4f3_92 (rfl : _ = 95) rfl (by rw [show Int32.ofInt (-1) = -1 from rfl]; exact pk_m1 _) (by decide) rfl ?_
  refine V_iload Y.1 0 dJ6_getChars_ba4f3_95 (rfl : _ = 97) rfl ?_
  refine V_gets Y zt (tm 1026 (by decide +kernel) (by decide +kernel)) dJ6_getChars_ba4f3_97 (rfl : _ = 100) ?_
  refine V_iload_n Y.1 1 dJ6_getChars_ba4f3_100 (rfl : _ = 101) rfl rfl ?_
  refine V_ineg Y.1 dJ6_getChars_ba4f3_101 (rfl : _ = 102) ?_
  refine V_nm (v := nI (w / 100)) Int32.neg_neg ?_
  refine V_baldT Y (v := (.int (nI (48 + (w / 100) / 10)))) tt (vp_in_nI (by omega) (by decide)) (by rw [nI_clamp (by omega)]) dJ6_getChars_ba4f3_102 (rfl : _ = 103) ?_
  refine V_bast Y.1 hv (Or.inl rfl) (vp_in_nI (by omega) (by omega)) (ch_nb (by omega)) dJ6_getChars_ba4f3_103 (rfl : _ = 104) (fun H103_76 h_new o_103 => ?_)
  have hv := h_new
  have sz : Array.size H103_76 = H0.size := o_103.1.trans sz
  clear h_new
  rw [nI_clamp (by omega)] at hv
  refine V_iload Y.1 4 dJ6_getChars_ba4f3_104 (rfl : _ = 106) rfl ?_
  refine V_if_eq Y.1 (tgt := 118) dJ6_getChars_ba4f3_106 (by decide) (rfl : _ = 109) (fun c_n => absurd c_n (by decide)) (fun _ => ?_)
  refine V_aload_n Y.1 6 dJ6_getChars_ba4f3_109 (rfl : _ = 110) rfl rfl ?_
  refine V_iinc Y.1 (v := nI (p + 0)) (ls' := [(5, _), (0, _), (4, _), (3, _), (6, _), (1, _), (2, _)]) 0 dJ6_getChars_ba4f3_110 (rfl : _ = 113) rfl (by rw [show Int32.ofInt (-1) = -1 from rfl]; exact pk_m1 _) (by decide) rfl ?_
  refine V_iload Y.1 0 dJ6_getChars_ba4f3_113 (rfl : _ = 115) rfl ?_
  refine V_bipush Y.1 (v := 45) dJ6_getChars_ba4f3_115 (rfl : _ = 117) (by decide) ?_
  refine V_bast Y.1 hv (Or.inl rfl) (vp_in_nI (by omega) (by omega)) (show narrow .byte (.int 45) = .int 45 by decide) dJ6_getChars_ba4f3_117 (rfl : _ = 118) (fun H117_87 h_new o_117 => ?_)
  have hv := h_new
  have sz : Array.size H117_87 = H0.size := o_117.1.trans sz
  clear h_new
  rw [nI_clamp (by omega)] at hv
  refine V_iload Y.1 0 dJ6_getChars_ba4f3_118 (rfl : _ = 120) rfl ?_
  exact V_ret Y.1 dJ6_getChars_ba4f3_120 rfl (Nat.le_of_ble_eq_true rfl) (Nat.le_of_ble_eq_true rfl) ⟨rfl, by rw [(sg_neg h0 (by omega)).trans (congrArg (45 :: ·) (dg_list4 w h1 hw))]; exact hv.cong (fun i _ => by simp only [r_put, upd]; (repeat' split) <;> first | rfl | (exfalso; omega)), sz⟩

set_option maxRecDepth 100000 in
set_option maxHeartbeats 4000000 in
theorem c_J6_getChars_n5 (l : Launch) (D : va_G) (kA : Nat → ClassId) (Hs : Heap) (σ : SG) (H0 : Heap) (hg : Ag Hs H0) (w : Nat) (h1 : 10000 ≤ w) (hw : w < 100000) (h0 : 0 < w) (p v cap : Nat) (g : Nat → Int32) (hv : hp D H0 v (eB kA cap g)) (hvs : Hs.size ≤ v) (hp9 : p + 6 ≤ cap) (hcap : cap ≤ 120) : CtS l D kA Hs σ yJ6_getChars_ba4f3 cJ6_getChars_ba4f3 7 (some .int) 0 0 0 0 H0 [.int (-(nI w)), .int (nI (p + 6)), .ref v] (fun q => q = v) (pI fun r H => r = nI p ∧ hp D H v (eB kA cap (r_put g p (sg (-(nI w))))) ∧ H.size = H0.size) := by
  refine CtS.of mi_J6_getChars_ba4f3 (Nat.le_of_ble_eq_true rfl) (ls0 := [(0, _), (1, _), (2, _)]) rfl hg (fun q z => z ▸ hvs) ?_
  intro Pp Ee Ss Mm Ar Bl Me Cc Z hs hnm
  have Y := Z.1
  obtain ⟨ato, zt, tt⟩ := Z.2.2.2.2.2.2.1
  obtain ⟨aoo, zo, to⟩ := Z.2.2.2.2.2.2.2.1
  have sz : H0.size = H0.size := rfl
  refine V_iload_n Y.1 1 dJ6_getChars_ba4f3_0 (rfl : _ = 1) rfl rfl ?_
  refine V_istore Y.1 (ls' := [(5, _), (0, _), (1, _), (2, _)]) dJ6_getChars_ba4f3_1 (rfl : _ = 3) (by decide) rfl ?_
  refine V_iload_n Y.1 1 dJ6_getChars_ba4f3_3 (rfl : _ = 4) rfl rfl ?_
  refine V_if_ge Y.1 (tgt := 11) dJ6_getChars_ba4f3_4 (by decide) (rfl : _ = 7) (fun c_n => absurd c_n (by rw [Int32.le_iff_toInt_le, nI_neg (by omega)]; simp; omega)) (fun _ => ?_)
  refine V_iconst Y.1 (v := 1) dJ6_getChars_ba4f3_7 (rfl : _ = 8) (by decide) ?_
  refine V_goto Y.1 (tgt := 12) dJ6_getChars_ba4f3_8 (by decide) ?_
  refine V_istore Y.1 (ls' := [(6, _), (5, _), (0, _), (1, _), (2, _)]) dJ6_getChars_ba4f3_12 (rfl : _ = 14) (by decide) rfl ?_
  refine V_iload Y.1 0 dJ6_getChars_ba4f3_14 (rfl : _ = 16) rfl ?_
  refine V_if_ne Y.1 (tgt := 22) dJ6_getChars_ba4f3_16 (by decide) (rfl : _ = 19) (fun _ => ?_) (fun c_n => absurd c_n (by decide))
  refine V_iload_n Y.1 2 dJ6_getChars_ba4f3_22 (rfl : _ = 23) rfl rfl ?_
  refine V_bipush Y.1 (v := -100) dJ6_getChars_ba4f3_23 (rfl : _ = 25) (by decide) ?_
  refine V_icmp_gt Y.1 (tgt := 72) dJ6_getChars_ba4f3_25 (by decide) (rfl : _ = 28) (fun c_n => absurd c_n (neg_nlt (w := w) (m := 100) (by omega) (by decide) (by omega))) (fun _ => ?_)
  refine V_iload_n Y.1 2 dJ6_getChars_ba4f3_28 (rfl : _ = 29) rfl rfl ?_
  refine V_bipush Y.1 (v := 100) dJ6_getChars_ba4f3_29 (rfl : _ = 31) (by decide) ?_
  refine V_idiv Y.1 dJ6_getChars_ba4f3_31 (rfl : _ = 32) (by decide) ?_
  refine V_nm (v := -(nI (w / 100))) (neg_div (w := w) (d := 100) (by omega) (by decide) (by decide)) ?_
  refine V_istore_n Y.1 (ls' := [(3, _), (6, _), (5, _), (0, _), (1, _), (2, _)]) dJ6_getChars_ba4f3_32 (rfl : _ = 33) rfl (by decide) rfl ?_
  refine V_iload_n Y.1 0 dJ6_getChars_ba4f3_33 (rfl : _ = 34) rfl rfl ?_
  refine V_bipush Y.1 (v := 100) dJ6_getChars_ba4f3_34 (rfl : _ = 36) (by decide) ?_
  refine V_imul Y.1 dJ6_getChars_ba4f3_36 (rfl : _ = 37) ?_
  refine V_iload_n Y.1 3 dJ6_getChars_ba4f3_37 (rfl : _ = 38) rfl rfl ?_
  refine V_isub Y.1 dJ6_getChars_ba4f3_38 (rfl : _ = 39) ?_
  refine V_nm (v := nI (w % 100)) (neg_rem100 (w := w) (by omega)) ?_
  refine V_istore Y.1 (ls' := [(4, _), (3, _), (6, _), (5, _), (0, _), (1, _), (2, _)]) dJ6_getChars_ba4f3_39 (rfl : _ = 41) (by decide) rfl ?_
  refine V_iload_n Y.1 1 dJ6_getChars_ba4f3_41 (rfl : _ = 42) rfl rfl ?_
  refine V_istore_n Y.1 (ls' := [(0, _), (4, _), (3, _), (6, _), (5, _), (1, _), (2, _)]) dJ6_getChars_ba4f3_42 (rfl : _ = 43) rfl (by decide) rfl ?_
  refine V_aload_n Y.1 6 dJ6_getChars_ba4f3_43 (rfl : _ = 44) rfl rfl ?_
  refine V_iinc Y.1 (v := nI (p + 5)) (ls' := [(5, _), (0, _), (4, _), (3, _), (6, _), (1, _), (2, _)]) 4 dJ6_getChars_ba4f3_44 (rfl : _ = 47) rfl (by rw [show Int32.ofInt (-1) = -1 from rfl]; exact pk_m1 _) (by decide) rfl ?_
  refine V_iload Y.1 0 dJ6_getChars_ba4f3_47 (rfl : _ = 49) rfl ?_
  refine V_gets Y zo (tm 1024 (by decide +kernel) (by decide +kernel)) dJ6_getChars_ba4f3_49 (rfl : _ = 52) ?_
  refine V_iload Y.1 2 dJ6_getChars_ba4f3_52 (rfl : _ = 54) rfl ?_
  refine V_baldT Y (v := (.int (nI (48 + (w % 100) % 10)))) to (vp_in_nI (by omega) (by decide)) (by rw [nI_clamp (by omega)]) dJ6_getChars_ba4f3_54 (rfl : _ = 55) ?_
  refine V_bast Y.1 hv (Or.inl rfl) (vp_in_nI (by omega) (by omega)) (ch_nb (by omega)) dJ6_getChars_ba4f3_55 (rfl : _ = 56) (fun H55_32 h_new o_55 => ?_)
  have hv := h_new
  have sz : Array.size H55_32 = H0.size := o_55.1.trans sz
  clear h_new
  rw [nI_clamp (by omega)] at hv
  refine V_aload_n Y.1 6 dJ6_getChars_ba4f3_56 (rfl : _ = 57) rfl rfl ?_
  refine V_iinc Y.1 (v := nI (p + 4)) (ls' := [(5, _), (0, _), (4, _), (3, _), (6, _), (1, _), (2, _)]) 0 dJ6_getChars_ba4f3_57 (rfl : _ = 60) rfl (by rw [show Int32.ofInt (-1) = -1 from rfl]; exact pk_m1 _) (by decide) rfl ?_
  refine V_iload Y.1 0 dJ6_getChars_ba4f3_60 (rfl : _ = 62) rfl ?_
  refine V_gets Y zt (tm 1026 (by decide +kernel) (by decide +kernel)) dJ6_getChars_ba4f3_62 (rfl : _ = 65) ?_
  refine V_iload Y.1 2 dJ6_getChars_ba4f3_65 (rfl : _ = 67) rfl ?_
  refine V_baldT Y (v := (.int (nI (48 + (w % 100) / 10)))) tt (vp_in_nI (by omega) (by decide)) (by rw [nI_clamp (by omega)]) dJ6_getChars_ba4f3_67 (rfl : _ = 68) ?_
  refine V_bast Y.1 hv (Or.inl rfl) (vp_in_nI (by omega) (by omega)) (ch_nb (by omega)) dJ6_getChars_ba4f3_68 (rfl : _ = 69) (fun H68_43 h_new o_68 => ?_)
  have hv := h_new
  have sz : Array.size H68_43 = H0.size := o_68.1.trans sz
  clear h_new
  rw [nI_clamp (by omega)] at hv
  refine V_goto Y.1 (tgt := 22) dJ6_getChars_ba4f3_69 (by decide) ?_
  refine V_iload_n Y.1 1 dJ6_getChars_ba4f3_22 (rfl : _ = 23) rfl rfl ?_
  refine V_bipush Y.1 (v := -100) dJ6_getChars_ba4f3_23 (rfl : _ = 25) (by decide) ?_
  refine V_icmp_gt Y.1 (tgt := 72) dJ6_getChars_ba4f3_25 (by decide) (rfl : _ = 28) (fun c_n => absurd c_n (neg_nlt (w := (w / 100)) (m := 100) (by omega) (by decide) (by omega))) (fun _ => ?_)
  refine V_iload_n Y.1 1 dJ6_getChars_ba4f3_28 (rfl : _ = 29) rfl rfl ?_
  refine V_bipush Y.1 (v := 100) dJ6_getChars_ba4f3_29 (rfl : _ = 31) (by decide) ?_
  refine V_idiv Y.1 dJ6_getChars_ba4f3_31 (rfl : _ = 32) (by decide) ?_
  refine V_nm (v := -(nI ((w / 100) / 100))) (neg_div (w := (w / 100)) (d := 100) (by omega) (by decide) (by decide)) ?_
  refine V_istore_n Y.1 (ls' := [(3, _), (5, _), (0, _), (4, _), (6, _), (1, _), (2, _)]) dJ6_getChars_ba4f3_32 (rfl : _ = 33) rfl (by decide) rfl ?_
  refine V_iload_n Y.1 0 dJ6_getChars_ba4f3_33 (rfl : _ = 34) rfl rfl ?_
  refine V_bipush Y.1 (v := 100) dJ6_getChars_ba4f3_34 (rfl : _ = 36) (by decide) ?_
  refine V_imul Y.1 dJ6_getChars_ba4f3_36 (rfl : _ = 37) ?_
  refine V_iload_n Y.1 2 dJ6_getChars_ba4f3_37 (rfl : _ = 38) rfl rfl ?_
  refine V_isub Y.1 dJ6_getChars_ba4f3_38 (rfl : _ = 39) ?_
  refine V_nm (v := nI ((w / 100) % 100)) (neg_rem100 (w := (w / 100)) (by omega)) ?_
  refine V_istore Y.1 (ls' := [(4, _), (3, _), (5, _), (0, _), (6, _), (1, _), (2, _)]) dJ6_getChars_ba4f3_39 (rfl : _ = 41) (by decide) rfl ?_
  refine V_iload_n Y.1 1 dJ6_getChars_ba4f3_41 (rfl : _ = 42) rfl rfl ?_
  refine V_istore_n Y.1 (ls' := [(0, _), (4, _), (3, _), (5, _), (6, _), (1, _), (2, _)]) dJ6_getChars_ba4f3_42 (rfl : _ = 43) rfl (by decide) rfl ?_
  refine V_aload_n Y.1 6 dJ6_getChars_ba4f3_43 (rfl : _ = 44) rfl rfl ?_
  refine V_iinc Y.1 (v := nI (p + 3)) (ls' := [(5, _), (0, _), (4, _), (3, _), (6, _), (1, _), (2, _)]) 3 dJ6_getChars_ba4f3_44 (rfl : _ = 47) rfl (by rw [show Int32.ofInt (-1) = -1 from rfl]; exact pk_m1 _) (by decide) rfl ?_
  refine V_iload Y.1 0 dJ6_getChars_ba4f3_47 (rfl : _ = 49) rfl ?_
  refine V_gets Y zo (tm 1024 (by decide +kernel) (by decide +kernel)) dJ6_getChars_ba4f3_49 (rfl : _ = 52) ?_
  refine V_iload Y.1 2 dJ6_getChars_ba4f3_52 (rfl : _ = 54) rfl ?_
  refine V_baldT Y (v := (.int (nI (48 + ((w / 100) % 100) % 10)))) to (vp_in_nI (by omega) (by decide)) (by rw [nI_clamp (by omega)]) dJ6_getChars_ba4f3_54 (rfl : _ = 55) ?_
  refine V_bast Y.1 hv (Or.inl rfl) (vp_in_nI (by omega) (by omega)) (ch_nb (by omega)) dJ6_getChars_ba4f3_55 (rfl : _ = 56) (fun H55_72 h_new o_55 => ?_)
  have hv := h_new
  have sz : Array.size H55_72 = H0.size := o_55.1.trans sz
  clear h_new
  rw [nI_clamp (by omega)] at hv
  refine V_aload_n Y.1 6 dJ6_getChars_ba4f3_56 (rfl : _ = 57) rfl rfl ?_
  refine V_iinc Y.1 (v := nI (p + 2)) (ls' := [(5, _), (0, _), (4, _), (3, _), (6, _), (1, _), (2, _)]) 0 dJ6_getChars_ba4f3_57 (rfl : _ = 60) rfl (by rw [show Int32.ofInt (-1) = -1 from rfl]; exact pk_m1 _) (by decide) rfl ?_
  refine V_iload Y.1 0 dJ6_getChars_ba4f3_60 (rfl : _ = 62) rfl ?_
  refine V_gets Y zt (tm 1026 (by decide +kernel) (by decide +kernel)) dJ6_getChars_ba4f3_62 (rfl : _ = 65) ?_
  refine V_iload Y.1 2 dJ6_getChars_ba4f3_65 (rfl : _ = 67) rfl ?_
  refine V_baldT Y (v := (.int (nI (48 + ((w / 100) % 100) / 10)))) tt (vp_in_nI (by omega) (by decide)) (by rw [nI_clamp (by omega)]) dJ6_getChars_ba4f3_67 (rfl : _ = 68) ?_
  refine V_bast Y.1 hv (Or.inl rfl) (vp_in_nI (by omega) (by omega)) (ch_nb (by omega)) dJ6_getChars_ba4f3_68 (rfl : _ = 69) (fun H68_83 h_new o_68 => ?_)
  have hv := h_new
  have sz : Array.size H68_83 = H0.size := o_68.1.trans sz
  clear h_new
  rw [nI_clamp (by omega)] at hv
  refine V_goto Y.1 (tgt := 22) dJ6_getChars_ba4f3_69 (by decide) ?_
  refine V_iload_n Y.1 1 dJ6_getChars_ba4f3_22 (rfl : _ = 23) rfl rfl ?_
  refine V_bipush Y.1 (v := -100) dJ6_getChars_ba4f3_23 (rfl : _ = 25) (by decide) ?_
  refine V_icmp_gt Y.1 (tgt := 72) dJ6_getChars_ba4f3_25 (by decide) (rfl : _ = 28) (fun _ => ?_) (fun c_n => absurd (neg_lt (w := (w / 100 / 100)) (m := 100) (by omega) (by decide) (by omega)) c_n)
  refine V_aload_n Y.1 6 dJ6_getChars_ba4f3_72 (rfl : _ = 73) rfl rfl ?_
  refine V_iinc Y.1 (v := nI (p + 1)) (ls' := [(5, _), (0, _), (4, _), (3, _), (6, _), (1, _), (2, _)]) 0 dJ6_getChars_ba4f3_73 (rfl : _ = 76) rfl (by rw [show Int32.ofInt (-1) = -1 from rfl]; exact pk_m1 _) (by decide) rfl ?_
  refine V_iload Y.1 0 dJ6_getChars_ba4f3_76 (rfl : _ = 78) rfl ?_
  refine V_gets Y zo (tm 1024 (by decide +kernel) (by decide +kernel)) dJ6_getChars_ba4f3_78 (rfl : _ = 81) ?_
  refine V_iload_n Y.1 1 dJ6_getChars_ba4f3_81 (rfl : _ = 82) rfl rfl ?_
  refine V_ineg Y.1 dJ6_getChars_ba4f3_82 (rfl : _ = 83) ?_
  refine V_nm (v := nI (w / 100 / 100)) Int32.neg_neg ?_
  refine V_baldT Y (v := (.int (nI (48 + (w / 100 / 100) % 10)))) to (vp_in_nI (by omega) (by decide)) (by rw [nI_clamp (by omega)]) dJ6_getChars_ba4f3_83 (rfl : _ = 84) ?_
  refine V_bast Y.1 hv (Or.inl rfl) (vp_in_nI (by omega) (by omega)) (ch_nb (by omega)) dJ6_getChars_ba4f3_84 (rfl : _ = 85) (fun H84_100 h_new o_84 => ?_)
  have hv := h_new
  have sz : Array.size H84_100 = H0.size := o_84.1.trans sz
  clear h_new
  rw [nI_clamp (by omega)] at hv
  refine V_iload_n Y.1 1 dJ6_getChars_ba4f3_85 (rfl : _ = 86) rfl rfl ?_
  refine V_bipush Y.1 (v := -9) dJ6_getChars_ba4f3_86 (rfl : _ = 88) (by decide) ?_
  refine V_icmp_ge Y.1 (tgt := 104) dJ6_getChars_ba4f3_88 (by decide) (rfl : _ = 91) (fun _ => ?_) (fun c_n => absurd (neg_ge9 (w := (w / 100 / 100)) (by omega)) c_n)
  refine V_iload Y.1 4 dJ6_getChars_ba4f3_104 (rfl : _ = 106) rfl ?_
  refine V_if_eq Y.1 (tgt := 118) dJ6_getChars_ba4f3_106 (by decide) (rfl : _ = 109) (fun c_n => absurd c_n (by decide)) (fun _ => ?_)
  refine V_aload_n Y.1 6 dJ6_getChars_ba4f3_109 (rfl : _ = 110) rfl rfl ?_
  refine V_iinc Y.1 (v := nI (p + 0)) (ls' := [(5, _), (0, _), (4, _), (3, _), (6, _), (1, _), (2, _)]) 0 dJ6_getChars_ba4f3_110 (rfl : _ = 113) rfl (by rw [show Int32.ofInt (-1) = -1 from rfl]; exact pk_m1 _) (by decide) rfl ?_
  refine V_iload Y.1 0 dJ6_getChars_ba4f3_113 (rfl : _ = 115) rfl ?_
  refine V_bipush Y.1 (v := 45) dJ6_getChars_ba4f3_115 (rfl : _ = 117) (by decide) ?_
  refine V_bast Y.1 hv (Or.inl rfl) (vp_in_nI (by omega) (by omega)) (show narrow .byte (.int 45) = .int 45 by decide) dJ6_getChars_ba4f3_117 (rfl : _ = 118) (fun H117_114 h_new o_117 => ?_)
  have hv := h_new
  have sz : Array.size H117_114 = H0.size := o_117.1.trans sz
  clear h_new
  rw [nI_clamp (by omega)] at hv
  refine V_iload Y.1 0 dJ6_getChars_ba4f3_118 (rfl : _ = 120) rfl ?_
  exact V_ret Y.1 dJ6_getChars_ba4f3_120 rfl (Nat.le_of_ble_eq_true rfl) (Nat.le_of_ble_eq_true rfl) ⟨rfl, by rw [(sg_neg h0 (by omega)).trans (congrArg (45 :: ·) (dg_list5 w h1 hw))]; exact hv.cong (fun i _ => by simp only [r_put, upd]; (repeat' split) <;> first | rfl | (exfalso; omega)), sz⟩

set_option maxRecDepth 100000 in
set_option maxHeartbeats 4000000 in
theorem c_J6_getChars_ba4f3 (l : Launch) (D : va_G) (kA : Nat → ClassId) (Hs : Heap) (σ : SG) (H0 : Heap) (hg : Ag Hs H0) (x : Int32) (h1 : -100000 < x.toInt) (h2 : x.toInt < 100000) (p v cap : Nat) (g : Nat → Int32) (hv : hp D H0 v (eB kA cap g)) (hvs : Hs.size ≤ v) (hp9 : p + (sg x).length ≤ cap) (hcap : cap ≤ 120) : CtS l D kA Hs σ yJ6_getChars_ba4f3 cJ6_getChars_ba4f3 7 (some .int) 0 0 0 0 H0 [.int x, .int (nI (p + (sg x).length)), .ref v] (fun q => q = v) (pI fun r H => r = nI p ∧ hp D H v (eB kA cap (r_put g p (sg x))) ∧ H.size = H0.size) := by
  have key : ∀ w : Nat, w < 100000 → (dg 5 w).length = if w < 10 then 1 else if w < 100 then 2 else if w < 1000 then 3 else if w < 10000 then 4 else 5 := fun w hw => dg_lenx hw
  by_cases hx : x < 0
  · obtain ⟨w, hw, rfl⟩ := x_neg hx h1
    have e := sg_neg hw.1 (show w < 2 ^ 31 by omega)
    have el : (sg (-(nI w))).length = (if w < 10 then 1 else if w < 100 then 2 else if w < 1000 then 3 else if w < 10000 then 4 else 5) + 1 := by rw [e, List.length_cons, key w hw.2]
    rw [el] at hp9 ⊢
    by_cases g1 : w < 10
    · rw [if_pos g1] at hp9 ⊢; exact c_J6_getChars_n1 l D kA Hs σ H0 hg w g1 hw.1 p v cap g hv hvs hp9 hcap
    · rw [if_neg g1] at hp9 ⊢
      by_cases g2 : w < 100
      · rw [if_pos g2] at hp9 ⊢; exact c_J6_getChars_n2 l D kA Hs σ H0 hg w (by omega) g2 hw.1 p v cap g hv hvs hp9 hcap
      · rw [if_neg g2] at hp9 ⊢
        by_cases g3 : w < 1000
        · rw [if_pos g3] at hp9 ⊢; exact c_J6_getChars_n3 l D kA Hs σ H0 hg w (by omega) g3 hw.1 p v cap g hv hvs hp9 hcap
        · rw [if_neg g3] at hp9 ⊢
          by_cases g4 : w < 10000
          · rw [if_pos g4] at hp9 ⊢; exact c_J6_getChars_n4 l D kA Hs σ H0 hg w (by omega) g4 hw.1 p v cap g hv hvs hp9 hcap
          · rw [if_neg g4] at hp9 ⊢
            exact c_J6_getChars_n5 l D kA Hs σ H0 hg w (by omega) (by omega) hw.1 p v cap g hv hvs hp9 hcap
  · obtain ⟨w, hw, rfl⟩ := nI_of hx
    rw [nI_toInt hw] at h2
    have el : (sg (nI w)).length = (if w < 10 then 1 else if w < 100 then 2 else if w < 1000 then 3 else if w < 10000 then 4 else 5) := by rw [sg_pos hw, key w (by omega)]
    rw [el] at hp9 ⊢
    by_cases g1 : w < 10
    · rw [if_pos g1] at hp9 ⊢; exact c_J6_getChars_p1 l D kA Hs σ H0 hg w g1 p v cap g hv hvs hp9 hcap
    · rw [if_neg g1] at hp9 ⊢
      by_cases g2 : w < 100
      · rw [if_pos g2] at hp9 ⊢; exact c_J6_getChars_p2 l D kA Hs σ H0 hg w (by omega) g2 p v cap g hv hvs hp9 hcap
      · rw [if_neg g2] at hp9 ⊢
        by_cases g3 : w < 1000
        · rw [if_pos g3] at hp9 ⊢; exact c_J6_getChars_p3 l D kA Hs σ H0 hg w (by omega) g3 p v cap g hv hvs hp9 hcap
        · rw [if_neg g3] at hp9 ⊢
          by_cases g4 : w < 10000
          · rw [if_pos g4] at hp9 ⊢; exact c_J6_getChars_p4 l D kA Hs σ H0 hg w (by omega) g4 p v cap g hv hvs hp9 hcap
          · rw [if_neg g4] at hp9 ⊢
            exact c_J6_getChars_p5 l D kA Hs σ H0 hg w (by omega) (by omega) p v cap g hv hvs hp9 hcap

set_option maxRecDepth 100000 in
set_option maxHeartbeats 4000000 in
theorem c_J5_append_c97b9 (l : Launch) (D : va_G) (kA : Nat → ClassId) (Hs : Heap) (σ : SG) (H0 : Heap) (hg : Ag Hs H0) (b v cap n : Nat) (g : Nat → Int32) (x : Int32) (h1 : -100000 < x.toInt) (h2 : x.toInt < 100000) (hk : n + (sg x).length ≤ cap) (hS : Sb D kA H0 b v cap n g) (hbs : Hs.size ≤ b) (hvs : Hs.size ≤ v) : CtS l D kA Hs σ yJ5_append_c97b9 cJ5_append_c97b9 4 (some (.object "java/lang/AbstractStringBuilder")) 4 94 0 0 H0 [.ref b, .int x] (fun q => q = b ∨ q = v) (pR fun r H => r = b ∧ Sb D kA H b v cap (n + (sg x).length) (r_put g n (sg x)) ∧ H.size = H0.size) := by
  refine CtS.of mi_J5_append_c97b9 (Nat.le_of_ble_eq_true rfl) (ls0 := [(0, _), (1, _)]) rfl hg (fun q z => z.elim (fun e => e ▸ hbs) (fun e => e ▸ hvs)) ?_
  intro Pp Ee Ss Mm Ar Bl Me Cc Z hs hnm
  have Y := Z.1
  obtain ⟨⟨ml, hb⟩, hv, hne, hn, hcap, hfb⟩ := hS
  have sz : H0.size = H0.size := rfl
  refine V_aload_n Y.1 0 dJ5_append_c97b9_0 (rfl : _ = 1) rfl rfl ?_
  refine V_get Y.1 fi_J5_79 hb rfl dJ5_append_c97b9_1 (rfl : _ = 4) ?_
  refine V_istore_n Y.1 (ls' := [(2, _), (0, _), (1, _)]) dJ5_append_c97b9_4 (rfl : _ = 5) rfl (by decide) rfl ?_
  refine V_iload_n Y.1 0 dJ5_append_c97b9_5 (rfl : _ = 6) rfl rfl ?_
  refine V_iload_n Y.1 2 dJ5_append_c97b9_6 (rfl : _ = 7) rfl rfl ?_
  refine V_cP Y (rS Y (c_J6_stringSize_0f7a4 l D kA _ x h1 h2) mi_J6_stringSize_0f7a4 si_J5_245 rfl rfl (Nat.le_of_ble_eq_true rfl) ⟨Nat.le_of_ble_eq_true rfl, Nat.le_of_ble_eq_true rfl⟩ (Nat.le_of_ble_eq_true rfl) (Nat.le_of_ble_eq_true rfl) dJ5_append_c97b9_7) (rfl : _ = 10) ?_
  refine V_iadd Y.1 dJ5_append_c97b9_10 (rfl : _ = 11) ?_
  refine V_nm (v := nI (n + (sg x).length)) (nI_add _ _) ?_
  refine V_istore_n Y.1 (ls' := [(3, _), (2, _), (0, _), (1, _)]) dJ5_append_c97b9_11 (rfl : _ = 12) rfl (by decide) rfl ?_
  refine V_aload_n Y.1 2 dJ5_append_c97b9_12 (rfl : _ = 13) rfl rfl ?_
  refine V_iload_n Y.1 0 dJ5_append_c97b9_13 (rfl : _ = 14) rfl rfl ?_
  refine V_cV Y (sVp Z (c_J5_ensure_k l D kA Hs σ _ hg b v cap n g (n + (sg x).length) hk ⟨⟨ml, hb⟩, hv, hne, hn, hcap, hfb⟩) mi_J5_ensureCapacityInternal_d00df vp_J5_100 rfl hb rfl rfl (Nat.le_of_ble_eq_true rfl) ⟨Nat.le_of_ble_eq_true rfl, Nat.le_of_ble_eq_true rfl⟩ (Nat.le_of_ble_eq_true rfl) (Nat.le_of_ble_eq_true rfl) dJ5_append_c97b9_14) (fun _ z => z.elim) (rfl : _ = 17) (fun H14_11 hq_14 o_14 => ?_)
  have hq9 := hq_14.symm
  subst hq9
  refine V_aload_n Y.1 2 dJ5_append_c97b9_17 (rfl : _ = 18) rfl rfl ?_
  refine V_cP Y (sV Z (c_J5_isLatin1_aae02 l D kA Hs σ _ hg b _ _ n _ ⟨⟨_, hb⟩, hv, hne, by omega, hcap, hfb⟩) mi_J5_isLatin1_aae02 vi_J5_83 rfl hb rfl rfl (Nat.le_of_ble_eq_true rfl) ⟨Nat.le_of_ble_eq_true rfl, Nat.le_of_ble_eq_true rfl⟩ (Nat.le_of_ble_eq_true rfl) (Nat.le_of_ble_eq_true rfl) dJ5_append_c97b9_18) (rfl : _ = 21) ?_
  refine V_if_eq Y.1 (tgt := 37) dJ5_append_c97b9_21 (by decide) (rfl : _ = 24) (fun c_n => absurd c_n (by decide)) (fun _ => ?_)
  refine V_iload_n Y.1 3 dJ5_append_c97b9_24 (rfl : _ = 25) rfl rfl ?_
  refine V_iload_n Y.1 0 dJ5_append_c97b9_25 (rfl : _ = 26) rfl rfl ?_
  refine V_aload_n Y.1 2 dJ5_append_c97b9_26 (rfl : _ = 27) rfl rfl ?_
  refine V_get Y.1 fi_J5_15 hb rfl dJ5_append_c97b9_27 (rfl : _ = 30) ?_
  refine V_cI Y (sS Z (c_J6_getChars_ba4f3 l D kA Hs σ _ hg x h1 h2 n v cap g hv hvs hk hcap) mi_J6_getChars_ba4f3 si_J5_248 rfl rfl (Nat.le_of_ble_eq_true rfl) ⟨Nat.le_of_ble_eq_true rfl, Nat.le_of_ble_eq_true rfl⟩ (Nat.le_of_ble_eq_true rfl) (Nat.le_of_ble_eq_true rfl) dJ5_append_c97b9_30) (fun q z => Or.inl (Or.inr z)) (rfl : _ = 33) (fun v_30 H30_21 hq_30 o_30 => ?_)
  obtain ⟨-, hv, sz⟩ := hq_30
  have hb := hb.off o_30 hne
  refine V_pop Y.1 dJ5_append_c97b9_33 (rfl : _ = 34) rfl ?_
  refine V_goto Y.1 (tgt := 48) dJ5_append_c97b9_34 (by decide) ?_
  refine V_aload_n Y.1 2 dJ5_append_c97b9_48 (rfl : _ = 49) rfl rfl ?_
  refine V_iload_n Y.1 0 dJ5_append_c97b9_49 (rfl : _ = 50) rfl rfl ?_
  refine V_put Y.1 fi_J5_79 fw_J4 rfl rfl hb (Or.inl (Or.inl rfl)) rfl rfl (Nat.le_of_ble_eq_true rfl) dJ5_append_c97b9_50 (rfl : _ = 53) (fun H50_28 h_new o_50 => ?_)
  have hb : hp D _ _ (.inr (1, [_, _, _, _])) := h_new
  have hv := hv.sto o_50 (by omega)
  have sz : Array.size H50_28 = H0.size := o_50.1.trans sz
  clear h_new
  refine V_aload_n Y.1 2 dJ5_append_c97b9_53 (rfl : _ = 54) rfl rfl ?_
  exact V_retR Y.1 dJ5_append_c97b9_54 (Or.inl ⟨_, rfl⟩) (Nat.le_of_ble_eq_true rfl) (Nat.le_of_ble_eq_true rfl) ⟨rfl, ⟨⟨_, hb⟩, hv, hne, hk, hcap, fb_put _ (sg_ch x) hfb⟩, sz⟩

set_option maxRecDepth 100000 in
set_option maxHeartbeats 4000000 in
theorem c_J4_append_bf812 (l : Launch) (D : va_G) (kA : Nat → ClassId) (Hs : Heap) (σ : SG) (H0 : Heap) (hg : Ag Hs H0) (b v cap n : Nat) (g : Nat → Int32) (x : Int32) (h1 : -100000 < x.toInt) (h2 : x.toInt < 100000) (hk : n + (sg x).length ≤ cap) (hS : Sb D kA H0 b v cap n g) (hbs : Hs.size ≤ b) (hvs : Hs.size ≤ v) : CtS l D kA Hs σ yJ4_append_bf812 cJ4_append_bf812 2 (some (.object "java/lang/StringBuilder")) 5 117 0 0 H0 [.ref b, .int x] (fun q => q = b ∨ q = v) (pR fun r H => r = b ∧ Sb D kA H b v cap (n + (sg x).length) (r_put g n (sg x)) ∧ H.size = H0.size) := by
  refine CtS.of mi_J4_append_bf812 (Nat.le_of_ble_eq_true rfl) (ls0 := [(0, _), (1, _)]) rfl hg (fun q z => z.elim (fun e => e ▸ hbs) (fun e => e ▸ hvs)) ?_
  intro Pp Ee Ss Mm Ar Bl Me Cc Z hs hnm
  have Y := Z.1
  have hS0 := hS
  obtain ⟨⟨ml, hb⟩, hv, hne, hn, hcap, hfb⟩ := hS0
  have sz : H0.size = H0.size := rfl
  refine V_aload_n Y.1 0 dJ4_append_bf812_0 (rfl : _ = 1) rfl rfl ?_
  refine V_iload_n Y.1 1 dJ4_append_bf812_1 (rfl : _ = 2) rfl rfl ?_
  refine V_cR Y (sSU Z (c_J5_append_c97b9 l D kA Hs σ _ hg b v cap n g x h1 h2 hk hS hbs hvs) mi_J5_append_c97b9 su_J4_53 rfl hb rfl rfl (Nat.le_of_ble_eq_true rfl) ⟨Nat.le_of_ble_eq_true rfl, Nat.le_of_ble_eq_true rfl⟩ (Nat.le_of_ble_eq_true rfl) (Nat.le_of_ble_eq_true rfl) dJ4_append_bf812_2) (fun q z => Or.inl z) (rfl : _ = 5) (fun v_2 H2_2 hq_2 o_2 => ?_)
  obtain ⟨-, hS9, sz9⟩ := hq_2
  refine V_pop Y.1 dJ4_append_bf812_5 (rfl : _ = 6) rfl ?_
  refine V_aload_n Y.1 0 dJ4_append_bf812_6 (rfl : _ = 7) rfl rfl ?_
  exact V_retR Y.1 dJ4_append_bf812_7 (Or.inl ⟨_, rfl⟩) (Nat.le_of_ble_eq_true rfl) (Nat.le_of_ble_eq_true rfl) ⟨rfl, hS9, sz9⟩
