/-! StringBuilder: calls of the superclass's methods, of its private ones; its state; chars. -/
def Su (own : String) (idx : Nat) (y : MethodName) : Prop := Cond.methodLink own idx y ∈ T0 ∧ Cond.sameMethod y.cls y.cls y.name y.desc ∈ T0 ∧ Cond.superclass own y.cls ∈ T0 ∧ Cond.instanceMethod y ∈ T0 ∧ y.name ≠ "<init>"
def Vp (own : String) (idx : Nat) (C : String) (y z : MethodName) : Prop := Cond.methodLink own idx y ∈ T0 ∧ Cond.instanceMethod y ∈ T0 ∧ Cond.privateMethod y ∈ wX ∧ Cond.selects C z z ∈ T0 ∧ z.cls = y.cls ∧ (y.cls ≠ "java/lang/invoke/MethodHandle" ∧ y.cls ≠ "java/lang/invoke/VarHandle")
theorem sel_priv {C : String} {y z : MethodName} {s : State} {args : Array Value} (hcls : z.cls = y.cls) (hsel : (Cond.selects C z z).before args s = true) (hpriv : (Cond.privateMethod y).before args s = true) (hinst : (Cond.instanceMethod y).before args s = true) (hy : y.cls ≠ "java/lang/invoke/MethodHandle" ∧ y.cls ≠ "java/lang/invoke/VarHandle") : (Cond.selects C y y).before args s = true := by
  obtain ⟨c2, r2, m2, q1, q2, q3, q4, kP, hkP, hkPi⟩ := Cond.selects_spec hsel
  obtain ⟨mk, methM, hnamed, hmethM, -, -⟩ := Cond.instanceMethod_spec hinst
  have hfound : s.methodFound? y.cls y.name y.desc = some mk := State.methodFound?_of_named hnamed hy
  have e1 : mk.cls = m2.cls := Option.some.inj ((findClass_of_methodNamed hnamed).symm.trans (by rw [← hcls]; exact findClass_of_methodNamed q3))
  have hsel : selectMethod {} s.vm c2 mk = .method mk := selectMethod_private hmethM (Cond.privateMethod_at hpriv mk methM hnamed hmethM)
  have hk : s.vm.classes[mk.cls]? = some kP := by rw [e1]; exact hkP
  simp only [Cond.before, Cond.holds, Cond.value, q1, hfound, hnamed, hsel, hk]
  simp
  exact hkPi
section VSB
variable {p : Program} {l : Launch} {e : Env} {R : Room} {s : State} {m : MethodId} {args : Array Value} {below : List Frame} {meth : Method} {c : Code} {nL : Nat} {A A1 : Nat → Prop} {Q : State → Prop} {H : Heap} {k n pc pc' : Nat} {ls ls' : List (Nat × Value)} {st rest : List Value}
variable {cc : ByteArray} {own : String} {D : va_G} {kA : Nat → ClassId} {ret : Option FieldType} {Hs : Heap} {σ : SG}
variable {y z : MethodName} {bytes : ByteArray} {mL : Nat} {rt : Option FieldType} {fr lc mc ms nn idx : Nat} {av : List Value} {Post : Option Value → Heap → Prop} {PX : String → Heap → Prop}
theorem sVp (Z : Ys p s m args meth c cc nL ret own D kA A Hs σ) {b ci : Nat} {fs bs : List Value} {C : String} {T : u_T} {N : Nat} (hC : CtS l D kA Hs σ y bytes mL rt fr lc mc ms H (.ref b :: bs) A1 Post) (hM : Mi y bytes mL rt nn) (hs : Vp own idx C y z) (hc : vwCl[ci]? = some (C, T, N)) (hb : hp D H b (.inr (ci, fs))) (hst : st = bs.reverse ++ .ref b :: rest) (hn : bs.length = nn) (hcat : (rest.map fun v => v.category).sum ≤ 8) (hR : fr + 1 ≤ R.frames ∧ 8 + (mL + 11) + lc ≤ R.locals) (hk : k + mc ≤ R.cells) (hn2 : n + ms ≤ R.slots) (hd : decode cc pc = .ok (.invokevirtual idx, 3)) :
    Rn p l e R s m args below meth c nL H k n pc ls st mc ms rest A1 Post := fun lsA locs hl =>
  ⟨_, va_runV Z.1.1.1 hC ⟨room_c Z.1.1 hM hs.1 hR, Z.1.1.1.2.2.2.2 _ hs.2.1, sel_priv hs.2.2.2.2.1 (Z.1.1.1.2.2.2.2 _ hs.2.2.2.1) (Ex.use Z.2.2.2.2.2.2.2.2.2.2 hs.2.2.1) (Z.1.1.1.2.2.2.2 _ hs.2.1) hs.2.2.2.2.2⟩ ⟨qPreS.blind, rcv Z.1.1 hc hb, pre_s Z⟩ rfl hn hl.1 hst (lv_room hcat) hd ⟨hk, hn2⟩⟩
theorem sSU (Z : Ys p s m args meth c cc nL ret own D kA A Hs σ) {b ci : Nat} {fs bs : List Value} {C : String} {T : u_T} {N : Nat} (hC : CtS l D kA Hs σ y bytes mL rt fr lc mc ms H (.ref b :: bs) A1 Post) (hM : Mi y bytes mL rt nn) (hs : Su own idx y) (hc : vwCl[ci]? = some (C, T, N)) (hb : hp D H b (.inr (ci, fs))) (hst : st = bs.reverse ++ .ref b :: rest) (hn : bs.length = nn) (hcat : (rest.map fun v => v.category).sum ≤ 8) (hR : fr + 1 ≤ R.frames ∧ 8 + (mL + 11) + lc ≤ R.locals) (hk : k + mc ≤ R.cells) (hn2 : n + ms ≤ R.slots) (hd : decode cc pc = .ok (.invokespecial idx, 3)) :
    Rn p l e R s m args below meth c nL H k n pc ls st mc ms rest A1 Post := fun lsA locs hl => by
  obtain ⟨hS9, hfc, kC, hkC, hkind⟩ := Z.1.1.2.1.1 ci _ hc
  refine ⟨_, va_runSU ⟨hfc, kC, hkC, hkind⟩ Z.1.1.1 hC ⟨⟨rfl, rfl, hR.1, hR.2, fun w hw a' U hW => ?_, List.mem_cons_self⟩, Z.1.1.1.2.2.2.2 _ hs.1, Z.1.1.1.2.2.2.2 _ hs.2.1, Z.1.1.1.2.2.2.2 _ hs.2.2.1, Z.1.1.1.2.2.2.2 _ hs.2.2.2.1, Z.1.1.1.2.2.2.2 _ hM.2.1, Z.1.1.1.2.2.2.2 _ hM.1, hs.2.2.2.2, fun sig h => ?_⟩ ⟨qPreS.blind, rcv Z.1.1 hc hb, pre_s Z⟩ rfl hn hl.1 hst (lv_room hcat) hd ⟨hk, hn2⟩⟩
  · rcases List.mem_cons.mp hw with rfl | h
    · exact word_at hW (T0_good _ hM.1) (Z.1.1.1.2.2.2.2 _ hM.1)
    · exact word_at hW (T0_good _ h) (Z.1.1.1.2.2.2.2 _ h)
  · have h5 := hM.2.2.2.2
    rw [h] at h5
    exact (Option.some.inj h5).symm
end VSB
def Sb (D : va_G) (kA : Nat → ClassId) (H : Heap) (b v cap n : Nat) (g : Nat → Int32) : Prop :=
  (∃ ml : Int32, hp D H b (eO 1 [.ref v, .int 0, .int ml, .int (nI n)])) ∧ hp D H v (eB kA cap g) ∧ b ≠ v ∧ n ≤ cap ∧ cap ≤ 120 ∧ ∀ j, fits .byte (.int (g j)) = true
theorem Sb.off {D : va_G} {kA : Nat → ClassId} {H H1 : Heap} {b v cap n : Nat} {g : Nat → Int32} {F : Nat → Prop} (h : Sb D kA H b v cap n g) (o : off F H H1) (h1 : ¬ F b) (h2 : ¬ F v) : Sb D kA H1 b v cap n g := by
  obtain ⟨⟨ml, hb⟩, hv, r⟩ := h
  exact ⟨⟨ml, hb.off o h1⟩, hv.off o h2, r⟩
theorem shl_0 (x : Int32) : x <<< ((0 : Int32) &&& 31) = x := by
  rw [show (0 : Int32) &&& 31 = 0 from rfl]
  simp
theorem nI_sub_le {a b : Nat} (ha : a < 2 ^ 30) (hb : b < 2 ^ 30) : nI a - nI b ≤ 0 ↔ a ≤ b := by
  rw [Int32.le_iff_toInt_le, pk_sub_toInt ha hb, show (0 : Int32).toInt = 0 from by decide]
  omega
theorem nI_ne {a b : Nat} (ha : a < 2 ^ 31) (hb : b < 2 ^ 31) (h : a ≠ b) : ¬ nI a = nI b := fun e => h (by
  have := congrArg Int32.toInt e
  rw [nI_toInt ha, nI_toInt hb] at this
  omega)
theorem ch_i2b {n : Nat} (h : n < 128) : (nI n).toInt8.toInt32 = nI n := by
  have g : ∀ t : Fin 128, (nI t.1).toInt8.toInt32 = nI t.1 := by decide +kernel
  exact g ⟨n, h⟩
theorem ch_255 {n : Nat} (h : n < 128) : nI n &&& 255 = nI n := by
  have g : ∀ t : Fin 128, nI t.1 &&& 255 = nI t.1 := by decide +kernel
  exact g ⟨n, h⟩
theorem ch_nb {n : Nat} (h : n < 128) : narrow .byte (.int (nI n)) = .int (nI n) := by
  have g : ∀ t : Fin 128, narrow .byte (.int (nI t.1)) = .int (nI t.1) := by decide +kernel
  exact g ⟨n, h⟩
theorem ch_fb {n : Nat} (h : n < 128) : fits .byte (.int (nI n)) = true := by
  have g : ∀ t : Fin 128, fits .byte (.int (nI t.1)) = true := by decide +kernel
  exact g ⟨n, h⟩
theorem fb_upd {g : Nat → Int32} {n c : Nat} (hc : c < 128) (h : ∀ j, fits .byte (.int (g j)) = true) : ∀ j, fits .byte (.int (upd g n (nI c) j)) = true := fun j => by
  unfold upd
  split
  · exact ch_fb hc
  · exact h j
theorem vi_J5_83 : Vi RJ5 83 RJ4 yJ5_isLatin1_aae02 := ⟨(tm 1016 (by decide +kernel) (by decide +kernel)), (tm 1017 (by decide +kernel) (by decide +kernel)), (tm 1019 (by decide +kernel) (by decide +kernel))⟩
theorem vp_J5_100 : Vp RJ5 100 RJ4 yJ5_ensureCapacityInternal_d00df yJ5_isLatin1_aae02 := ⟨(tm 987 (by decide +kernel) (by decide +kernel)), (tm 989 (by decide +kernel) (by decide +kernel)), by decide +kernel, (tm 1019 (by decide +kernel) (by decide +kernel)), rfl, by decide +kernel⟩
theorem vp_J5_104 : Vp RJ5 104 RJ4 yJ5_newCapacity_0f7a4 yJ5_isLatin1_aae02 := ⟨(tm 991 (by decide +kernel) (by decide +kernel)), (tm 993 (by decide +kernel) (by decide +kernel)), by decide +kernel, (tm 1019 (by decide +kernel) (by decide +kernel)), rfl, by decide +kernel⟩
theorem su_J4_343 : Su RJ4 343 yJ5_length_8abf5 := ⟨(tm 1142 (by decide +kernel) (by decide +kernel)), (tm 1138 (by decide +kernel) (by decide +kernel)), (tm 225 (by decide +kernel) (by decide +kernel)), (tm 1137 (by decide +kernel) (by decide +kernel)), by decide +kernel⟩
theorem su_J4_333 : Su RJ4 333 yJ5_setLength_d00df := ⟨(tm 1194 (by decide +kernel) (by decide +kernel)), (tm 1505 (by decide +kernel) (by decide +kernel)), (tm 225 (by decide +kernel) (by decide +kernel)), (tm 1195 (by decide +kernel) (by decide +kernel)), by decide +kernel⟩
theorem su_J4_329 : Su RJ4 329 yJ5_charAt_5068e := ⟨(tm 1282 (by decide +kernel) (by decide +kernel)), (tm 1508 (by decide +kernel) (by decide +kernel)), (tm 225 (by decide +kernel) (by decide +kernel)), (tm 1283 (by decide +kernel) (by decide +kernel)), by decide +kernel⟩
theorem su_J4_50 : Su RJ4 50 yJ5_append_3fe6f := ⟨(tm 1247 (by decide +kernel) (by decide +kernel)), (tm 1506 (by decide +kernel) (by decide +kernel)), (tm 225 (by decide +kernel) (by decide +kernel)), (tm 1248 (by decide +kernel) (by decide +kernel)), by decide +kernel⟩
theorem su_J4_53 : Su RJ4 53 yJ5_append_c97b9 := ⟨(tm 981 (by decide +kernel) (by decide +kernel)), (tm 1497 (by decide +kernel) (by decide +kernel)), (tm 225 (by decide +kernel) (by decide +kernel)), (tm 982 (by decide +kernel) (by decide +kernel)), by decide +kernel⟩
set_option maxRecDepth 100000 in
set_option maxHeartbeats 4000000 in
theorem c_J5_init_d00df (l : Launch) (D : va_G) (kA : Nat → ClassId) (Hs : Heap) (σ : SG) (H0 : Heap) (hg : Ag Hs H0) (b : Nat) (fs : List Value) (h0 : hp D H0 b (eO 1 fs)) (hf : fs = [.null, .int 0, .int 0, .int 0]) (hbs : Hs.size ≤ b) : CtS l D kA Hs σ yJ5_init_d00df cJ5_init_d00df 2 none 1 24 1 16 H0 [.ref b, .int (nI 16)] (blk b 1) (pV fun H => Sb D kA H b H0.size 16 0 (fun _ => 0) ∧ H.size = H0.size + 1) := by
  refine CtS.of mi_J5_init_d00df (Nat.le_of_ble_eq_true rfl) (ls0 := [(0, _), (1, _)]) rfl hg (fun q z => Nat.le_trans hbs z.1) ?_
  intro Pp Ee Ss Mm Ar Bl Me Cc Z hs hnm
  have Y := Z.1
  subst hf
  have hb := h0
  have hlt := hb.lt
  have sz : H0.size = H0.size := rfl
  refine V_aload_n Y.1 0 dJ5_init_d00df_0 (rfl : _ = 1) rfl rfl ?_
  refine V_objInit Y.1 ow_J5_3 dJ5_init_d00df_1 (rfl : _ = 4) (Nat.le_of_ble_eq_true rfl) (Nat.le_of_ble_eq_true rfl) (Nat.le_of_ble_eq_true rfl) (Nat.le_of_ble_eq_true rfl) ?_
  refine V_gets Y Z.2.2.2.2.1 (tm 203 (by decide +kernel) (by decide +kernel)) dJ5_init_d00df_4 (rfl : _ = 7) ?_
  refine V_if_eq Y.1 (tgt := 25) dJ5_init_d00df_7 (by decide) (rfl : _ = 10) (fun c_n => absurd c_n (by decide)) (fun _ => ?_)
  refine V_aload_n Y.1 0 dJ5_init_d00df_10 (rfl : _ = 11) rfl rfl ?_
  refine V_iload_n Y.1 1 dJ5_init_d00df_11 (rfl : _ = 12) rfl rfl ?_
  refine V_newB Y.1 (N := 16) ac_byte (by decide) (by decide) (Nat.le_of_ble_eq_true rfl) (Nat.le_of_ble_eq_true rfl) (Nat.le_of_ble_eq_true rfl) dJ5_init_d00df_12 (rfl : _ = 14) (fun H12_6 q_12 eq_12 z_12 h_new o_12 => ?_)
  have e_q12 : q_12 = H0.size := eq_12.trans sz
  have sz : Array.size H12_6 = H0.size + 1 := by rw [z_12, e_q12]
  have hb := hb.off o_12 id
  have hv := h_new
  have e_v := e_q12
  refine V_put Y.1 fi_J5_15 fw_J4 rfl rfl hb (Or.inl ⟨by omega, by omega⟩) rfl rfl (Nat.le_of_ble_eq_true rfl) dJ5_init_d00df_14 (rfl : _ = 17) (fun H14_12 h_new o_14 => ?_)
  have hb : hp D _ _ (.inr (1, [_, _, _, _])) := h_new
  have hv := hv.sto o_14 (by omega)
  have sz : Array.size H14_12 = H0.size + 1 := o_14.1.trans sz
  clear h_new
  refine V_aload_n Y.1 0 dJ5_init_d00df_17 (rfl : _ = 18) rfl rfl ?_
  refine V_iconst Y.1 (v := 0) dJ5_init_d00df_18 (rfl : _ = 19) (by decide) ?_
  refine V_put Y.1 fi_J5_22 fw_J4 rfl rfl hb (Or.inl ⟨by omega, by omega⟩) rfl rfl (Nat.le_of_ble_eq_true rfl) dJ5_init_d00df_19 (rfl : _ = 22) (fun H19_19 h_new o_19 => ?_)
  have hb : hp D _ _ (.inr (1, [_, _, _, _])) := h_new
  have hv := hv.sto o_19 (by omega)
  have sz : Array.size H19_19 = H0.size + 1 := o_19.1.trans sz
  clear h_new
  refine V_goto Y.1 (tgt := 38) dJ5_init_d00df_22 (by decide) ?_
  exact V_retV Y.1 dJ5_init_d00df_38 (Nat.le_of_ble_eq_true rfl) (Nat.le_of_ble_eq_true rfl) ⟨⟨⟨_, by rw [e_v] at hb; exact hb⟩, by rw [e_v] at hv; exact hv, by omega, Nat.zero_le _, by decide, fun _ => rfl⟩, sz⟩

set_option maxRecDepth 100000 in
set_option maxHeartbeats 4000000 in
theorem c_J4_init_da8c8 (l : Launch) (D : va_G) (kA : Nat → ClassId) (Hs : Heap) (σ : SG) (H0 : Heap) (hg : Ag Hs H0) (b : Nat) (fs : List Value) (h0 : hp D H0 b (eO 1 fs)) (hf : fs = [.null, .int 0, .int 0, .int 0]) (hbs : Hs.size ≤ b) : CtS l D kA Hs σ yJ4_init_da8c8 cJ4_init_da8c8 1 none 2 45 1 16 H0 [.ref b] (blk b 1) (pV fun H => Sb D kA H b H0.size 16 0 (fun _ => 0) ∧ H.size = H0.size + 1) := by
  refine CtS.of mi_J4_init_da8c8 (Nat.le_of_ble_eq_true rfl) (ls0 := [(0, _)]) rfl hg (fun q z => Nat.le_trans hbs z.1) ?_
  intro Pp Ee Ss Mm Ar Bl Me Cc Z hs hnm
  have Y := Z.1
  have sz : H0.size = H0.size := rfl
  refine V_aload_n Y.1 0 dJ4_init_da8c8_0 (rfl : _ = 1) rfl rfl ?_
  refine V_bipush Y.1 (v := 16) dJ4_init_da8c8_1 (rfl : _ = 3) (by decide) ?_
  refine V_cV Y (sI Z (c_J5_init_d00df l D kA Hs σ _ hg b fs h0 hf hbs) mi_J5_init_d00df ii_J4_1 rfl rfl (Nat.le_of_ble_eq_true rfl) ⟨Nat.le_of_ble_eq_true rfl, Nat.le_of_ble_eq_true rfl⟩ (Nat.le_of_ble_eq_true rfl) (Nat.le_of_ble_eq_true rfl) dJ4_init_da8c8_3) (fun q hq => Or.inl (blk_sub (by omega) (by omega) q hq)) (rfl : _ = 6) (fun H3_2 hq_3 o_3 => ?_)
  exact V_retV Y.1 dJ4_init_da8c8_6 (Nat.le_of_ble_eq_true rfl) (Nat.le_of_ble_eq_true rfl) hq_3

set_option maxRecDepth 100000 in
set_option maxHeartbeats 4000000 in
theorem c_J5_length_8abf5 (l : Launch) (D : va_G) (kA : Nat → ClassId) (Hs : Heap) (σ : SG) (H0 : Heap) (hg : Ag Hs H0) (b v cap n : Nat) (g : Nat → Int32) (hS : Sb D kA H0 b v cap n g) : CtS l D kA Hs σ yJ5_length_8abf5 cJ5_length_8abf5 1 (some .int) 0 0 0 0 H0 [.ref b] (nof) (pI fun v9 H => v9 = nI n ∧ H = H0) := by
  refine CtS.of mi_J5_length_8abf5 (Nat.le_of_ble_eq_true rfl) (ls0 := [(0, _)]) rfl hg (fun _ z => z.elim) ?_
  intro Pp Ee Ss Mm Ar Bl Me Cc Z hs hnm
  have Y := Z.1
  obtain ⟨⟨ml, hb⟩, hv, hne, hn, hcap, hfb⟩ := hS
  have sz : H0.size = H0.size := rfl
  refine V_aload_n Y.1 0 dJ5_length_8abf5_0 (rfl : _ = 1) rfl rfl ?_
  refine V_get Y.1 fi_J5_79 hb rfl dJ5_length_8abf5_1 (rfl : _ = 4) ?_
  exact V_ret Y.1 dJ5_length_8abf5_4 rfl (Nat.le_of_ble_eq_true rfl) (Nat.le_of_ble_eq_true rfl) ⟨rfl, rfl⟩

set_option maxRecDepth 100000 in
set_option maxHeartbeats 4000000 in
theorem c_J4_length_8abf5 (l : Launch) (D : va_G) (kA : Nat → ClassId) (Hs : Heap) (σ : SG) (H0 : Heap) (hg : Ag Hs H0) (b v cap n : Nat) (g : Nat → Int32) (hS : Sb D kA H0 b v cap n g) : CtS l D kA Hs σ yJ4_length_8abf5 cJ4_length_8abf5 1 (some .int) 1 20 0 0 H0 [.ref b] (nof) (pI fun v9 H => v9 = nI n ∧ H = H0) := by
  refine CtS.of mi_J4_length_8abf5 (Nat.le_of_ble_eq_true rfl) (ls0 := [(0, _)]) rfl hg (fun _ z => z.elim) ?_
  intro Pp Ee Ss Mm Ar Bl Me Cc Z hs hnm
  have Y := Z.1
  have hS0 := hS
  obtain ⟨⟨ml, hb⟩, hv, hne, hn, hcap, hfb⟩ := hS0
  have sz : H0.size = H0.size := rfl
  refine V_aload_n Y.1 0 dJ4_length_8abf5_0 (rfl : _ = 1) rfl rfl ?_
  refine V_cP Y (sSU Z (c_J5_length_8abf5 l D kA Hs σ _ hg b v cap n g hS) mi_J5_length_8abf5 su_J4_343 rfl hb rfl rfl (Nat.le_of_ble_eq_true rfl) ⟨Nat.le_of_ble_eq_true rfl, Nat.le_of_ble_eq_true rfl⟩ (Nat.le_of_ble_eq_true rfl) (Nat.le_of_ble_eq_true rfl) dJ4_length_8abf5_1) (rfl : _ = 4) ?_
  exact V_ret Y.1 dJ4_length_8abf5_4 rfl (Nat.le_of_ble_eq_true rfl) (Nat.le_of_ble_eq_true rfl) ⟨rfl, rfl⟩

set_option maxRecDepth 100000 in
set_option maxHeartbeats 4000000 in
theorem c_J5_isLatin1_aae02 (l : Launch) (D : va_G) (kA : Nat → ClassId) (Hs : Heap) (σ : SG) (H0 : Heap) (hg : Ag Hs H0) (b v cap n : Nat) (g : Nat → Int32) (hS : Sb D kA H0 b v cap n g) : CtS l D kA Hs σ yJ5_isLatin1_aae02 cJ5_isLatin1_aae02 1 (some .boolean) 0 0 0 0 H0 [.ref b] (nof) (pI fun v9 H => v9 = 1 ∧ H = H0) := by
  refine CtS.of mi_J5_isLatin1_aae02 (Nat.le_of_ble_eq_true rfl) (ls0 := [(0, _)]) rfl hg (fun _ z => z.elim) ?_
  intro Pp Ee Ss Mm Ar Bl Me Cc Z hs hnm
  have Y := Z.1
  obtain ⟨⟨ml, hb⟩, hv, hne, hn, hcap, hfb⟩ := hS
  have sz : H0.size = H0.size := rfl
  refine V_gets Y Z.2.2.2.2.1 (tm 203 (by decide +kernel) (by decide +kernel)) dJ5_isLatin1_aae02_0 (rfl : _ = 3) ?_
  refine V_if_eq Y.1 (tgt := 17) dJ5_isLatin1_aae02_3 (by decide) (rfl : _ = 6) (fun c_n => absurd c_n (by decide)) (fun _ => ?_)
  refine V_aload_n Y.1 0 dJ5_isLatin1_aae02_6 (rfl : _ = 7) rfl rfl ?_
  refine V_get Y.1 fi_J5_22 hb rfl dJ5_isLatin1_aae02_7 (rfl : _ = 10) ?_
  refine V_if_ne Y.1 (tgt := 17) dJ5_isLatin1_aae02_10 (by decide) (rfl : _ = 13) (fun c_n => absurd rfl c_n) (fun _ => ?_)
  refine V_iconst Y.1 (v := 1) dJ5_isLatin1_aae02_13 (rfl : _ = 14) (by decide) ?_
  refine V_goto Y.1 (tgt := 18) dJ5_isLatin1_aae02_14 (by decide) ?_
  exact V_ret Y.1 dJ5_isLatin1_aae02_18 rfl (Nat.le_of_ble_eq_true rfl) (Nat.le_of_ble_eq_true rfl) ⟨rfl, rfl⟩

set_option maxRecDepth 100000 in
set_option maxHeartbeats 4000000 in
theorem c_J8_newLength_cabcc (l : Launch) (D : va_G) (kA : Nat → ClassId) (H0 : Heap) (c : Nat) (hc : c < 2 ^ 20)  : Ct l D kA yJ8_newLength_cabcc cJ8_newLength_cabcc 4 (some .int) 1 24 0 0 H0 [.int (nI c), .int (nI 1), .int (nI (c + 2))] (nof) (pI fun v9 H => v9 = nI (c + (c + 2)) ∧ H = H0) := by
  refine Ct.of mi_J8_newLength_cabcc (Nat.le_of_ble_eq_true rfl) (ls0 := [(0, _), (1, _), (2, _)]) rfl ?_
  intro Pp Ee Ss Mm Ar Bl Me Cc Y hs hnm
  have sz : H0.size = H0.size := rfl
  refine V_iload_n Y.1 0 dJ8_newLength_cabcc_0 (rfl : _ = 1) rfl rfl ?_
  refine V_iload_n Y.1 1 dJ8_newLength_cabcc_1 (rfl : _ = 2) rfl rfl ?_
  refine V_iload_n Y.1 2 dJ8_newLength_cabcc_2 (rfl : _ = 3) rfl rfl ?_
  refine V_mmax Y.1 mw_J8_194 (Nat.le_of_ble_eq_true rfl) (Nat.le_of_ble_eq_true rfl) (Nat.le_of_ble_eq_true rfl) (Nat.le_of_ble_eq_true rfl) dJ8_newLength_cabcc_3 (rfl : _ = 6) ?_
  refine V_nm (v := nI (c + 2)) (by rw [mx_nI (by omega) (by omega), Nat.max_eq_right (by omega)]) ?_
  refine V_iadd Y.1 dJ8_newLength_cabcc_6 (rfl : _ = 7) ?_
  refine V_nm (v := nI (c + (c + 2))) (nI_add _ _) ?_
  refine V_istore_n Y.1 (ls' := [(3, _), (0, _), (1, _), (2, _)]) dJ8_newLength_cabcc_7 (rfl : _ = 8) rfl (by decide) rfl ?_
  refine V_iconst Y.1 (v := 0) dJ8_newLength_cabcc_8 (rfl : _ = 9) (by decide) ?_
  refine V_iload_n Y.1 0 dJ8_newLength_cabcc_9 (rfl : _ = 10) rfl rfl ?_
  refine V_icmp_ge Y.1 (tgt := 21) dJ8_newLength_cabcc_10 (by decide) (rfl : _ = 13) (fun c_n => absurd c_n (fun q => absurd ((nI_leI (b := 0) (by omega) (by omega)).mp q) (by omega))) (fun _ => ?_)
  refine V_iload_n Y.1 0 dJ8_newLength_cabcc_13 (rfl : _ = 14) rfl rfl ?_
  refine V_ldc Y.1 cn_J8_200 dJ8_newLength_cabcc_14 (rfl : _ = 16) ?_
  refine V_icmp_gt Y.1 (tgt := 21) dJ8_newLength_cabcc_16 (by decide) (rfl : _ = 19) (fun c_n => absurd c_n (by show ¬ nI 2147483639 < nI (c + (c + 2)); exact nI_nlt (by omega) (by decide))) (fun _ => ?_)
  refine V_iload_n Y.1 0 dJ8_newLength_cabcc_19 (rfl : _ = 20) rfl rfl ?_
  exact V_ret Y.1 dJ8_newLength_cabcc_20 rfl (Nat.le_of_ble_eq_true rfl) (Nat.le_of_ble_eq_true rfl) ⟨rfl, rfl⟩

set_option maxRecDepth 100000 in
set_option maxHeartbeats 4000000 in
theorem c_J5_newCapacity_0f7a4 (l : Launch) (D : va_G) (kA : Nat → ClassId) (Hs : Heap) (σ : SG) (H0 : Heap) (hg : Ag Hs H0) (b v cap n : Nat) (g : Nat → Int32) (hS : Sb D kA H0 b v cap n g) : CtS l D kA Hs σ yJ5_newCapacity_0f7a4 cJ5_newCapacity_0f7a4 6 (some .int) 2 47 0 0 H0 [.ref b, .int (nI (cap + 1))] (nof) (pI fun v9 H => v9 = nI (cap + (cap + 2)) ∧ H = H0) := by
  refine CtS.of mi_J5_newCapacity_0f7a4 (Nat.le_of_ble_eq_true rfl) (ls0 := [(0, _), (1, _)]) rfl hg (fun _ z => z.elim) ?_
  intro Pp Ee Ss Mm Ar Bl Me Cc Z hs hnm
  have Y := Z.1
  obtain ⟨⟨ml, hb⟩, hv, hne, hn, hcap, hfb⟩ := hS
  have sz : H0.size = H0.size := rfl
  refine V_aload_n Y.1 0 dJ5_newCapacity_0f7a4_0 (rfl : _ = 1) rfl rfl ?_
  refine V_get Y.1 fi_J5_15 hb rfl dJ5_newCapacity_0f7a4_1 (rfl : _ = 4) ?_
  refine V_alen Y.1 (v := nI cap) (t0 := 4) hv rfl rfl dJ5_newCapacity_0f7a4_4 (rfl : _ = 5) ?_
  refine V_istore_n Y.1 (ls' := [(2, _), (0, _), (1, _)]) dJ5_newCapacity_0f7a4_5 (rfl : _ = 6) rfl (by decide) rfl ?_
  refine V_iload_n Y.1 2 dJ5_newCapacity_0f7a4_6 (rfl : _ = 7) rfl rfl ?_
  refine V_aload_n Y.1 1 dJ5_newCapacity_0f7a4_7 (rfl : _ = 8) rfl rfl ?_
  refine V_get Y.1 fi_J5_22 hb rfl dJ5_newCapacity_0f7a4_8 (rfl : _ = 11) ?_
  refine V_ishl Y.1 dJ5_newCapacity_0f7a4_11 (rfl : _ = 12) ?_
  refine V_nm (v := nI (cap + 1)) (shl_0 _) ?_
  refine V_istore_n Y.1 (ls' := [(3, _), (2, _), (0, _), (1, _)]) dJ5_newCapacity_0f7a4_12 (rfl : _ = 13) rfl (by decide) rfl ?_
  refine V_iload_n Y.1 0 dJ5_newCapacity_0f7a4_13 (rfl : _ = 14) rfl rfl ?_
  refine V_iload_n Y.1 1 dJ5_newCapacity_0f7a4_14 (rfl : _ = 15) rfl rfl ?_
  refine V_isub Y.1 dJ5_newCapacity_0f7a4_15 (rfl : _ = 16) ?_
  refine V_nm (v := nI 1) (by rw [pk_sub (by omega)]; congr 1; omega) ?_
  refine V_istore Y.1 (ls' := [(4, _), (3, _), (2, _), (0, _), (1, _)]) dJ5_newCapacity_0f7a4_16 (rfl : _ = 18) (by decide) rfl ?_
  refine V_iload_n Y.1 2 dJ5_newCapacity_0f7a4_18 (rfl : _ = 19) rfl rfl ?_
  refine V_iload Y.1 0 dJ5_newCapacity_0f7a4_19 (rfl : _ = 21) rfl ?_
  refine V_iload_n Y.1 2 dJ5_newCapacity_0f7a4_21 (rfl : _ = 22) rfl rfl ?_
  refine V_iconst Y.1 (v := 2) dJ5_newCapacity_0f7a4_22 (rfl : _ = 23) (by decide) ?_
  refine V_aload_n Y.1 3 dJ5_newCapacity_0f7a4_23 (rfl : _ = 24) rfl rfl ?_
  refine V_get Y.1 fi_J5_22 hb rfl dJ5_newCapacity_0f7a4_24 (rfl : _ = 27) ?_
  refine V_ishl Y.1 dJ5_newCapacity_0f7a4_27 (rfl : _ = 28) ?_
  refine V_nm (v := nI 2) (shl_0 _) ?_
  refine V_iadd Y.1 dJ5_newCapacity_0f7a4_28 (rfl : _ = 29) ?_
  refine V_nm (v := nI (cap + 2)) (nI_add _ _) ?_
  refine V_cP Y (rS Y (c_J8_newLength_cabcc l D kA _ cap (by omega)) mi_J8_newLength_cabcc si_J5_114 rfl rfl (Nat.le_of_ble_eq_true rfl) ⟨Nat.le_of_ble_eq_true rfl, Nat.le_of_ble_eq_true rfl⟩ (Nat.le_of_ble_eq_true rfl) (Nat.le_of_ble_eq_true rfl) dJ5_newCapacity_0f7a4_29) (rfl : _ = 32) ?_
  refine V_istore Y.1 (ls' := [(5, _), (4, _), (3, _), (2, _), (0, _), (1, _)]) dJ5_newCapacity_0f7a4_32 (rfl : _ = 34) (by decide) rfl ?_
  refine V_iload Y.1 0 dJ5_newCapacity_0f7a4_34 (rfl : _ = 36) rfl ?_
  refine V_ldc Y.1 cn_J5_39 dJ5_newCapacity_0f7a4_36 (rfl : _ = 38) ?_
  refine V_icmp_ne Y.1 (tgt := 51) dJ5_newCapacity_0f7a4_38 (by decide) (rfl : _ = 41) (fun _ => ?_) (fun c_n => absurd c_n (by show ¬ nI (cap + (cap + 2)) = nI 2147483647; exact nI_ne (by omega) (by decide) (by omega)))
  refine V_iload Y.1 0 dJ5_newCapacity_0f7a4_51 (rfl : _ = 53) rfl ?_
  refine V_aload_n Y.1 4 dJ5_newCapacity_0f7a4_53 (rfl : _ = 54) rfl rfl ?_
  refine V_get Y.1 fi_J5_22 hb rfl dJ5_newCapacity_0f7a4_54 (rfl : _ = 57) ?_
  refine V_ishr Y.1 dJ5_newCapacity_0f7a4_57 (rfl : _ = 58) ?_
  refine V_nm (v := nI (cap + (cap + 2))) (shr_0 _) ?_
  exact V_ret Y.1 dJ5_newCapacity_0f7a4_58 rfl (Nat.le_of_ble_eq_true rfl) (Nat.le_of_ble_eq_true rfl) ⟨rfl, rfl⟩

set_option maxRecDepth 100000 in
set_option maxHeartbeats 4000000 in
theorem c_J7_copyOf_9075b (l : Launch) (D : va_G) (kA : Nat → ClassId) (H0 : Heap) (v cap m : Nat) (g : Nat → Int32) (hv : hp D H0 v (eB kA cap g)) (hfb : ∀ j, fits .byte (.int (g j)) = true) (hm : cap < m) (hm2 : m ≤ 200)  : Ct l D kA yJ7_copyOf_9075b cJ7_copyOf_9075b 3 (some (.array .byte)) 1 48 1 200 H0 [.ref v, .int (nI m)] (nof) (pR fun r H => r = H0.size ∧ hp D H r (eB kA m (va_cpy g (fun _ => 0) 0 0 cap)) ∧ H.size = H0.size + 1) := by
  refine Ct.of mi_J7_copyOf_9075b (Nat.le_of_ble_eq_true rfl) (ls0 := [(0, _), (1, _)]) rfl ?_
  intro Pp Ee Ss Mm Ar Bl Me Cc Y hs hnm
  have hlt := hv.lt
  have sz : H0.size = H0.size := rfl
  refine V_iload_n Y.1 1 dJ7_copyOf_9075b_0 (rfl : _ = 1) rfl rfl ?_
  refine V_aload_n Y.1 0 dJ7_copyOf_9075b_1 (rfl : _ = 2) rfl rfl ?_
  refine V_alen Y.1 (v := nI cap) (t0 := 4) hv rfl rfl dJ7_copyOf_9075b_2 (rfl : _ = 3) ?_
  refine V_icmp_ne Y.1 (tgt := 14) dJ7_copyOf_9075b_3 (by decide) (rfl : _ = 6) (fun _ => ?_) (fun c_n => absurd c_n (nI_ne (by omega) (by omega) (by omega)))
  refine V_iload_n Y.1 1 dJ7_copyOf_9075b_14 (rfl : _ = 15) rfl rfl ?_
  refine V_newB Y.1 (N := m) ac_byte (nI_pos (by omega)) (nI_clamp (by omega)) (by omega) (Nat.le_of_ble_eq_true rfl) (show 0 + m ≤ 200 by omega) dJ7_copyOf_9075b_15 (rfl : _ = 17) (fun H15_5 q_15 eq_15 z_15 h_new o_15 => ?_)
  have e_q15 : q_15 = H0.size := eq_15.trans sz
  have sz : Array.size H15_5 = H0.size + 1 := by rw [z_15, e_q15]
  have hv := hv.off o_15 id
  have hw := h_new
  refine V_widen (k' := 1) (n' := 200) (by omega) (by omega) ?_
  refine V_astore_n Y.1 (ls' := [(2, _), (0, _), (1, _)]) dJ7_copyOf_9075b_17 (rfl : _ = 18) rfl (by decide) rfl ?_
  refine V_aload_n Y.1 1 dJ7_copyOf_9075b_18 (rfl : _ = 19) rfl rfl ?_
  refine V_iconst Y.1 (v := 0) dJ7_copyOf_9075b_19 (rfl : _ = 20) (by decide) ?_
  refine V_aload_n Y.1 0 dJ7_copyOf_9075b_20 (rfl : _ = 21) rfl rfl ?_
  refine V_iconst Y.1 (v := 0) dJ7_copyOf_9075b_21 (rfl : _ = 22) (by decide) ?_
  refine V_aload_n Y.1 1 dJ7_copyOf_9075b_22 (rfl : _ = 23) rfl rfl ?_
  refine V_alen Y.1 (v := nI cap) (t0 := 4) hv rfl rfl dJ7_copyOf_9075b_23 (rfl : _ = 24) ?_
  refine V_iload_n Y.1 2 dJ7_copyOf_9075b_24 (rfl : _ = 25) rfl rfl ?_
  refine V_mmin Y.1 mw_J7_304 (Nat.le_of_ble_eq_true rfl) (Nat.le_of_ble_eq_true rfl) (Nat.le_of_ble_eq_true rfl) (Nat.le_of_ble_eq_true rfl) dJ7_copyOf_9075b_25 (rfl : _ = 28) ?_
  refine V_nm (v := nI cap) (by rw [mn_nI (by omega) (by omega), Nat.min_eq_left (by omega)]) ?_
  refine V_copy Y.1 aw_J7_150 (sp := 0) (dp := 0) (N := cap) hv hw rfl rfl (Or.inr (by omega)) rfl rfl rfl (by omega) (by omega) (by omega) (by omega) (fun i _ => hfb _) (Nat.le_of_ble_eq_true rfl) (Nat.le_of_ble_eq_true rfl) dJ7_copyOf_9075b_28 (rfl : _ = 31) (fun H28_21 h_new o_28 => ?_)
  have hw := h_new
  have hv := hv.sto o_28 (by omega)
  have sz : Array.size H28_21 = H0.size + 1 := o_28.1.trans sz
  clear h_new
  refine V_aload_n Y.1 0 dJ7_copyOf_9075b_31 (rfl : _ = 32) rfl rfl ?_
  exact V_retR Y.1 dJ7_copyOf_9075b_32 (Or.inr ⟨_, rfl⟩) (Nat.le_of_ble_eq_true rfl) (Nat.le_of_ble_eq_true rfl) ⟨e_q15, hw, sz⟩

set_option maxRecDepth 100000 in
set_option maxHeartbeats 4000000 in
theorem c_J5_ensure_k (l : Launch) (D : va_G) (kA : Nat → ClassId) (Hs : Heap) (σ : SG) (H0 : Heap) (hg : Ag Hs H0) (b v cap n : Nat) (g : Nat → Int32) (k : Nat) (hk : k ≤ cap) (hS : Sb D kA H0 b v cap n g) : CtS l D kA Hs σ yJ5_ensureCapacityInternal_d00df cJ5_ensureCapacityInternal_d00df 3 none 3 72 0 0 H0 [.ref b, .int (nI k)] (nof) (pV fun H => H = H0) := by
  refine CtS.of mi_J5_ensureCapacityInternal_d00df (Nat.le_of_ble_eq_true rfl) (ls0 := [(0, _), (1, _)]) rfl hg (fun _ z => z.elim) ?_
  intro Pp Ee Ss Mm Ar Bl Me Cc Z hs hnm
  have Y := Z.1
  obtain ⟨⟨ml, hb⟩, hv, hne, hn, hcap, hfb⟩ := hS
  have sz : H0.size = H0.size := rfl
  refine V_aload_n Y.1 0 dJ5_ensureCapacityInternal_d00df_0 (rfl : _ = 1) rfl rfl ?_
  refine V_get Y.1 fi_J5_15 hb rfl dJ5_ensureCapacityInternal_d00df_1 (rfl : _ = 4) ?_
  refine V_alen Y.1 (v := nI cap) (t0 := 4) hv rfl rfl dJ5_ensureCapacityInternal_d00df_4 (rfl : _ = 5) ?_
  refine V_aload_n Y.1 0 dJ5_ensureCapacityInternal_d00df_5 (rfl : _ = 6) rfl rfl ?_
  refine V_get Y.1 fi_J5_22 hb rfl dJ5_ensureCapacityInternal_d00df_6 (rfl : _ = 9) ?_
  refine V_ishr Y.1 dJ5_ensureCapacityInternal_d00df_9 (rfl : _ = 10) ?_
  refine V_nm (v := nI cap) (shr_0 _) ?_
  refine V_istore_n Y.1 (ls' := [(2, _), (0, _), (1, _)]) dJ5_ensureCapacityInternal_d00df_10 (rfl : _ = 11) rfl (by decide) rfl ?_
  refine V_iload_n Y.1 2 dJ5_ensureCapacityInternal_d00df_11 (rfl : _ = 12) rfl rfl ?_
  refine V_iload_n Y.1 0 dJ5_ensureCapacityInternal_d00df_12 (rfl : _ = 13) rfl rfl ?_
  refine V_isub Y.1 dJ5_ensureCapacityInternal_d00df_13 (rfl : _ = 14) ?_
  refine V_if_le Y.1 (tgt := 38) dJ5_ensureCapacityInternal_d00df_14 (by decide) (rfl : _ = 17) (fun _ => ?_) (fun c_n => absurd ((nI_sub_le (by omega) (by omega)).mpr hk) c_n)
  exact V_retV Y.1 dJ5_ensureCapacityInternal_d00df_38 (Nat.le_of_ble_eq_true rfl) (Nat.le_of_ble_eq_true rfl) rfl

set_option maxRecDepth 100000 in
set_option maxHeartbeats 4000000 in
theorem c_J5_ensure_g (l : Launch) (D : va_G) (kA : Nat → ClassId) (Hs : Heap) (σ : SG) (H0 : Heap) (hg : Ag Hs H0) (b v cap n : Nat) (g : Nat → Int32) (hcn : cap = n) (hn9 : n ≤ 59) (hS : Sb D kA H0 b v cap n g) (hbs : Hs.size ≤ b) : CtS l D kA Hs σ yJ5_ensureCapacityInternal_d00df cJ5_ensureCapacityInternal_d00df 3 none 3 72 1 200 H0 [.ref b, .int (nI (cap + 1))] (fun q => q = b) (pV fun H => Sb D kA H b H0.size (cap + (cap + 2)) n (va_cpy g (fun _ => 0) 0 0 cap) ∧ H.size = H0.size + 1) := by
  refine CtS.of mi_J5_ensureCapacityInternal_d00df (Nat.le_of_ble_eq_true rfl) (ls0 := [(0, _), (1, _)]) rfl hg (fun q z => z ▸ hbs) ?_
  intro Pp Ee Ss Mm Ar Bl Me Cc Z hs hnm
  have Y := Z.1
  obtain ⟨⟨ml, hb⟩, hv, hne, hn, hcap, hfb⟩ := hS
  have sz : H0.size = H0.size := rfl
  refine V_aload_n Y.1 0 dJ5_ensureCapacityInternal_d00df_0 (rfl : _ = 1) rfl rfl ?_
  refine V_get Y.1 fi_J5_15 hb rfl dJ5_ensureCapacityInternal_d00df_1 (rfl : _ = 4) ?_
  refine V_alen Y.1 (v := nI cap) (t0 := 4) hv rfl rfl dJ5_ensureCapacityInternal_d00df_4 (rfl : _ = 5) ?_
  refine V_aload_n Y.1 0 dJ5_ensureCapacityInternal_d00df_5 (rfl : _ = 6) rfl rfl ?_
  refine V_get Y.1 fi_J5_22 hb rfl dJ5_ensureCapacityInternal_d00df_6 (rfl : _ = 9) ?_
  refine V_ishr Y.1 dJ5_ensureCapacityInternal_d00df_9 (rfl : _ = 10) ?_
  refine V_nm (v := nI cap) (shr_0 _) ?_
  refine V_istore_n Y.1 (ls' := [(2, _), (0, _), (1, _)]) dJ5_ensureCapacityInternal_d00df_10 (rfl : _ = 11) rfl (by decide) rfl ?_
  refine V_iload_n Y.1 2 dJ5_ensureCapacityInternal_d00df_11 (rfl : _ = 12) rfl rfl ?_
  refine V_iload_n Y.1 0 dJ5_ensureCapacityInternal_d00df_12 (rfl : _ = 13) rfl rfl ?_
  refine V_isub Y.1 dJ5_ensureCapacityInternal_d00df_13 (rfl : _ = 14) ?_
  refine V_if_le Y.1 (tgt := 38) dJ5_ensureCapacityInternal_d00df_14 (by decide) (rfl : _ = 17) (fun c_n => absurd c_n (fun q => absurd ((nI_sub_le (by omega) (by omega)).mp q) (by omega))) (fun _ => ?_)
  refine V_aload_n Y.1 1 dJ5_ensureCapacityInternal_d00df_17 (rfl : _ = 18) rfl rfl ?_
  refine V_aload_n Y.1 1 dJ5_ensureCapacityInternal_d00df_18 (rfl : _ = 19) rfl rfl ?_
  refine V_get Y.1 fi_J5_15 hb rfl dJ5_ensureCapacityInternal_d00df_19 (rfl : _ = 22) ?_
  refine V_aload_n Y.1 1 dJ5_ensureCapacityInternal_d00df_22 (rfl : _ = 23) rfl rfl ?_
  refine V_iload_n Y.1 2 dJ5_ensureCapacityInternal_d00df_23 (rfl : _ = 24) rfl rfl ?_
  refine V_cP Y (sVp Z (c_J5_newCapacity_0f7a4 l D kA Hs σ _ hg b v cap n g ⟨⟨ml, hb⟩, hv, hne, hn, hcap, hfb⟩) mi_J5_newCapacity_0f7a4 vp_J5_104 rfl hb rfl rfl (Nat.le_of_ble_eq_true rfl) ⟨Nat.le_of_ble_eq_true rfl, Nat.le_of_ble_eq_true rfl⟩ (Nat.le_of_ble_eq_true rfl) (Nat.le_of_ble_eq_true rfl) dJ5_ensureCapacityInternal_d00df_24) (rfl : _ = 27) ?_
  refine V_aload_n Y.1 1 dJ5_ensureCapacityInternal_d00df_27 (rfl : _ = 28) rfl rfl ?_
  refine V_get Y.1 fi_J5_22 hb rfl dJ5_ensureCapacityInternal_d00df_28 (rfl : _ = 31) ?_
  refine V_ishl Y.1 dJ5_ensureCapacityInternal_d00df_31 (rfl : _ = 32) ?_
  refine V_nm (v := nI (cap + (cap + 2))) (shl_0 _) ?_
  refine V_cR Y (rS Y (c_J7_copyOf_9075b l D kA _ v cap (cap + (cap + 2)) g hv hfb (by omega) (by omega)) mi_J7_copyOf_9075b si_J5_108 rfl rfl (Nat.le_of_ble_eq_true rfl) ⟨Nat.le_of_ble_eq_true rfl, Nat.le_of_ble_eq_true rfl⟩ (Nat.le_of_ble_eq_true rfl) (Nat.le_of_ble_eq_true rfl) dJ5_ensureCapacityInternal_d00df_32) (fun _ z => z.elim) (rfl : _ = 35) (fun v_32 H32_22 hq_32 o_32 => ?_)
  obtain ⟨e32, hw, sz32⟩ := hq_32
  have hlt := hv.lt
  have hbl := hb.lt
  have hb := hb.off o_32 id
  have hv := hv.off o_32 id
  have sz : Array.size H32_22 = H0.size + 1 := sz32
  refine V_put Y.1 fi_J5_15 fw_J4 rfl rfl hb (Or.inl rfl) rfl rfl (Nat.le_of_ble_eq_true rfl) dJ5_ensureCapacityInternal_d00df_35 (rfl : _ = 38) (fun H35_29 h_new o_35 => ?_)
  have hb : hp D _ _ (.inr (1, [_, _, _, _])) := h_new
  have hv := hv.sto o_35 (by omega)
  have sz : Array.size H35_29 = H0.size + 1 := o_35.1.trans sz
  clear h_new
  exact V_retV Y.1 dJ5_ensureCapacityInternal_d00df_38 (Nat.le_of_ble_eq_true rfl) (Nat.le_of_ble_eq_true rfl) ⟨⟨⟨ml, by rw [e32] at hb; exact hb⟩, by rw [← e32]; exact hw.sto o_35 (by omega), by omega, by omega, by omega, fun j => by unfold va_cpy; split <;> first | exact hfb _ | rfl⟩, by rw [o_35.1]; exact sz32⟩

set_option maxRecDepth 100000 in
set_option maxHeartbeats 4000000 in
theorem c_J1_canEncode_fc78d (l : Launch) (D : va_G) (kA : Nat → ClassId) (H0 : Heap) (c : Nat) (hc : c < 128)  : Ct l D kA yJ1_canEncode_fc78d cJ1_canEncode_fc78d 1 (some .boolean) 0 0 0 0 H0 [.int (nI c)] (nof) (pI fun v9 H => v9 = 1 ∧ H = H0) := by
  refine Ct.of mi_J1_canEncode_fc78d (Nat.le_of_ble_eq_true rfl) (ls0 := [(0, _)]) rfl ?_
  intro Pp Ee Ss Mm Ar Bl Me Cc Y hs hnm
  have sz : H0.size = H0.size := rfl
  refine V_iload_n Y.1 0 dJ1_canEncode_fc78d_0 (rfl : _ = 1) rfl rfl ?_
  refine V_sipush Y.1 (v := 255) dJ1_canEncode_fc78d_1 (rfl : _ = 4) (by decide) ?_
  refine V_icmp_gt Y.1 (tgt := 11) dJ1_canEncode_fc78d_4 (by decide) (rfl : _ = 7) (fun c_n => absurd c_n (by show ¬ nI 255 < nI c; exact nI_nlt (by omega) (by decide))) (fun _ => ?_)
  refine V_iconst Y.1 (v := 1) dJ1_canEncode_fc78d_7 (rfl : _ = 8) (by decide) ?_
  refine V_goto Y.1 (tgt := 12) dJ1_canEncode_fc78d_8 (by decide) ?_
  exact V_ret Y.1 dJ1_canEncode_fc78d_12 rfl (Nat.le_of_ble_eq_true rfl) (Nat.le_of_ble_eq_true rfl) ⟨rfl, rfl⟩

set_option maxRecDepth 100000 in
set_option maxHeartbeats 4000000 in
theorem c_J5_append_k (l : Launch) (D : va_G) (kA : Nat → ClassId) (Hs : Heap) (σ : SG) (H0 : Heap) (hg : Ag Hs H0) (b v cap n : Nat) (g : Nat → Int32) (c : Nat) (hc : c < 128) (hk : n + 1 ≤ cap) (hS : Sb D kA H0 b v cap n g) (hbs : Hs.size ≤ b) (hvs : Hs.size ≤ v) : CtS l D kA Hs σ yJ5_append_3fe6f cJ5_append_3fe6f 2 (some (.object "java/lang/AbstractStringBuilder")) 4 94 0 0 H0 [.ref b, .int (nI c)] (fun q => q = b ∨ q = v) (pR fun r H => r = b ∧ Sb D kA H b v cap (n + 1) (upd g n (nI c)) ∧ H.size = H0.size) := by
  refine CtS.of mi_J5_append_3fe6f (Nat.le_of_ble_eq_true rfl) (ls0 := [(0, _), (1, _)]) rfl hg (fun q z => z.elim (fun e => e ▸ hbs) (fun e => e ▸ hvs)) ?_
  intro Pp Ee Ss Mm Ar Bl Me Cc Z hs hnm
  have Y := Z.1
  obtain ⟨⟨ml, hb⟩, hv, hne, hn, hcap, hfb⟩ := hS
  have sz : H0.size = H0.size := rfl
  refine V_aload_n Y.1 0 dJ5_append_3fe6f_0 (rfl : _ = 1) rfl rfl ?_
  refine V_aload_n Y.1 0 dJ5_append_3fe6f_1 (rfl : _ = 2) rfl rfl ?_
  refine V_get Y.1 fi_J5_79 hb rfl dJ5_append_3fe6f_2 (rfl : _ = 5) ?_
  refine V_iconst Y.1 (v := 1) dJ5_append_3fe6f_5 (rfl : _ = 6) (by decide) ?_
  refine V_iadd Y.1 dJ5_append_3fe6f_6 (rfl : _ = 7) ?_
  refine V_nm (v := nI (n + 1)) (nI_1 _) ?_
  refine V_cV Y (sVp Z (c_J5_ensure_k l D kA Hs σ _ hg b v cap n g (n + 1) hk ⟨⟨ml, hb⟩, hv, hne, hn, hcap, hfb⟩) mi_J5_ensureCapacityInternal_d00df vp_J5_100 rfl hb rfl rfl (Nat.le_of_ble_eq_true rfl) ⟨Nat.le_of_ble_eq_true rfl, Nat.le_of_ble_eq_true rfl⟩ (Nat.le_of_ble_eq_true rfl) (Nat.le_of_ble_eq_true rfl) dJ5_append_3fe6f_7) (fun _ z => z.elim) (rfl : _ = 10) (fun H7_6 hq_7 o_7 => ?_)
  have hq9 := hq_7.symm
  subst hq9
  refine V_aload_n Y.1 0 dJ5_append_3fe6f_10 (rfl : _ = 11) rfl rfl ?_
  refine V_cP Y (sV Z (c_J5_isLatin1_aae02 l D kA Hs σ _ hg b _ _ n _ ⟨⟨_, hb⟩, hv, hne, by omega, hcap, hfb⟩) mi_J5_isLatin1_aae02 vi_J5_83 rfl hb rfl rfl (Nat.le_of_ble_eq_true rfl) ⟨Nat.le_of_ble_eq_true rfl, Nat.le_of_ble_eq_true rfl⟩ (Nat.le_of_ble_eq_true rfl) (Nat.le_of_ble_eq_true rfl) dJ5_append_3fe6f_11) (rfl : _ = 14) ?_
  refine V_if_eq Y.1 (tgt := 45) dJ5_append_3fe6f_14 (by decide) (rfl : _ = 17) (fun c_n => absurd c_n (by decide)) (fun _ => ?_)
  refine V_iload_n Y.1 1 dJ5_append_3fe6f_17 (rfl : _ = 18) rfl rfl ?_
  refine V_cP Y (rS Y (c_J1_canEncode_fc78d l D kA _ c hc) mi_J1_canEncode_fc78d si_J5_191 rfl rfl (Nat.le_of_ble_eq_true rfl) ⟨Nat.le_of_ble_eq_true rfl, Nat.le_of_ble_eq_true rfl⟩ (Nat.le_of_ble_eq_true rfl) (Nat.le_of_ble_eq_true rfl) dJ5_append_3fe6f_18) (rfl : _ = 21) ?_
  refine V_if_eq Y.1 (tgt := 45) dJ5_append_3fe6f_21 (by decide) (rfl : _ = 24) (fun c_n => absurd c_n (by decide)) (fun _ => ?_)
  refine V_aload_n Y.1 0 dJ5_append_3fe6f_24 (rfl : _ = 25) rfl rfl ?_
  refine V_get Y.1 fi_J5_15 hb rfl dJ5_append_3fe6f_25 (rfl : _ = 28) ?_
  refine V_aload_n Y.1 0 dJ5_append_3fe6f_28 (rfl : _ = 29) rfl rfl ?_
  refine V_dup Y.1 dJ5_append_3fe6f_29 (rfl : _ = 30) rfl ?_
  refine V_get Y.1 fi_J5_79 hb rfl dJ5_append_3fe6f_30 (rfl : _ = 33) ?_
  refine V_dup_x1 Y.1 dJ5_append_3fe6f_33 (rfl : _ = 34) rfl rfl ?_
  refine V_iconst Y.1 (v := 1) dJ5_append_3fe6f_34 (rfl : _ = 35) (by decide) ?_
  refine V_iadd Y.1 dJ5_append_3fe6f_35 (rfl : _ = 36) ?_
  refine V_nm (v := nI (n + 1)) (nI_1 _) ?_
  refine V_put Y.1 fi_J5_79 fw_J4 rfl rfl hb (Or.inl (Or.inl rfl)) rfl rfl (Nat.le_of_ble_eq_true rfl) dJ5_append_3fe6f_36 (rfl : _ = 39) (fun H36_24 h_new o_36 => ?_)
  have hb : hp D _ _ (.inr (1, [_, _, _, _])) := h_new
  have hv := hv.sto o_36 (by omega)
  have sz : Array.size H36_24 = H0.size := o_36.1.trans sz
  clear h_new
  refine V_iload_n Y.1 1 dJ5_append_3fe6f_39 (rfl : _ = 40) rfl rfl ?_
  refine V_i2b Y.1 (v := nI c) dJ5_append_3fe6f_40 (rfl : _ = 41) (ch_i2b hc) ?_
  refine V_bast Y.1 hv (Or.inl (Or.inr rfl)) (vp_in_nI (by omega) (by omega)) (ch_nb hc) dJ5_append_3fe6f_41 (rfl : _ = 42) (fun H41_31 h_new o_41 => ?_)
  have hv := h_new
  have hb := hb.sto o_41 (by omega)
  have sz : Array.size H41_31 = H0.size := o_41.1.trans sz
  clear h_new
  rw [nI_clamp (by omega)] at hv
  refine V_goto Y.1 (tgt := 75) dJ5_append_3fe6f_42 (by decide) ?_
  refine V_aload_n Y.1 0 dJ5_append_3fe6f_75 (rfl : _ = 76) rfl rfl ?_
  exact V_retR Y.1 dJ5_append_3fe6f_76 (Or.inl ⟨_, rfl⟩) (Nat.le_of_ble_eq_true rfl) (Nat.le_of_ble_eq_true rfl) ⟨rfl, ⟨⟨_, hb⟩, hv, hne, hk, hcap, fb_upd hc hfb⟩, sz⟩

set_option maxRecDepth 100000 in
set_option maxHeartbeats 4000000 in
theorem c_J5_append_g (l : Launch) (D : va_G) (kA : Nat → ClassId) (Hs : Heap) (σ : SG) (H0 : Heap) (hg : Ag Hs H0) (b v cap n : Nat) (g : Nat → Int32) (c : Nat) (hc : c < 128) (hcn : cap = n) (hn9 : n ≤ 59) (hS : Sb D kA H0 b v cap n g) (hbs : Hs.size ≤ b) : CtS l D kA Hs σ yJ5_append_3fe6f cJ5_append_3fe6f 2 (some (.object "java/lang/AbstractStringBuilder")) 4 94 1 200 H0 [.ref b, .int (nI c)] (fun q => q = b) (pR fun r H => r = b ∧ Sb D kA H b H0.size (cap + (cap + 2)) (n + 1) (upd (va_cpy g (fun _ => 0) 0 0 cap) n (nI c)) ∧ H.size = H0.size + 1) := by
  refine CtS.of mi_J5_append_3fe6f (Nat.le_of_ble_eq_true rfl) (ls0 := [(0, _), (1, _)]) rfl hg (fun q z => z ▸ hbs) ?_
  intro Pp Ee Ss Mm Ar Bl Me Cc Z hs hnm
  have Y := Z.1
  obtain ⟨⟨ml, hb⟩, hv, hne, hn, hcap, hfb⟩ := hS
  have sz : H0.size = H0.size := rfl
  refine V_aload_n Y.1 0 dJ5_append_3fe6f_0 (rfl : _ = 1) rfl rfl ?_
  refine V_aload_n Y.1 0 dJ5_append_3fe6f_1 (rfl : _ = 2) rfl rfl ?_
  refine V_get Y.1 fi_J5_79 hb rfl dJ5_append_3fe6f_2 (rfl : _ = 5) ?_
  refine V_iconst Y.1 (v := 1) dJ5_append_3fe6f_5 (rfl : _ = 6) (by decide) ?_
  refine V_iadd Y.1 dJ5_append_3fe6f_6 (rfl : _ = 7) ?_
  refine V_nm (v := nI (cap + 1)) (by rw [hcn]; exact nI_1 _) ?_
  refine V_cV Y (sVp Z (c_J5_ensure_g l D kA Hs σ _ hg b v cap n g hcn hn9 ⟨⟨ml, hb⟩, hv, hne, hn, hcap, hfb⟩ hbs) mi_J5_ensureCapacityInternal_d00df vp_J5_100 rfl hb rfl rfl (Nat.le_of_ble_eq_true rfl) ⟨Nat.le_of_ble_eq_true rfl, Nat.le_of_ble_eq_true rfl⟩ (Nat.le_of_ble_eq_true rfl) (Nat.le_of_ble_eq_true rfl) dJ5_append_3fe6f_7) (fun q z => Or.inl z) (rfl : _ = 10) (fun H7_6 hq_7 o_7 => ?_)
  clear hfb hcap hn hne
  obtain ⟨⟨⟨ml1, hb⟩, hv, hne, hn, hcap, hfb⟩, sz⟩ := hq_7
  have hg := hg.keep o_7 (fun q z => z ▸ hbs)
  have sz : Array.size H7_6 = H0.size + 1 := sz
  refine V_aload_n Y.1 0 dJ5_append_3fe6f_10 (rfl : _ = 11) rfl rfl ?_
  refine V_cP Y (sV Z (c_J5_isLatin1_aae02 l D kA Hs σ _ hg b _ _ n _ ⟨⟨_, hb⟩, hv, hne, by omega, hcap, hfb⟩) mi_J5_isLatin1_aae02 vi_J5_83 rfl hb rfl rfl (Nat.le_of_ble_eq_true rfl) ⟨Nat.le_of_ble_eq_true rfl, Nat.le_of_ble_eq_true rfl⟩ (Nat.le_of_ble_eq_true rfl) (Nat.le_of_ble_eq_true rfl) dJ5_append_3fe6f_11) (rfl : _ = 14) ?_
  refine V_if_eq Y.1 (tgt := 45) dJ5_append_3fe6f_14 (by decide) (rfl : _ = 17) (fun c_n => absurd c_n (by decide)) (fun _ => ?_)
  refine V_iload_n Y.1 1 dJ5_append_3fe6f_17 (rfl : _ = 18) rfl rfl ?_
  refine V_cP Y (rS Y (c_J1_canEncode_fc78d l D kA _ c hc) mi_J1_canEncode_fc78d si_J5_191 rfl rfl (Nat.le_of_ble_eq_true rfl) ⟨Nat.le_of_ble_eq_true rfl, Nat.le_of_ble_eq_true rfl⟩ (Nat.le_of_ble_eq_true rfl) (Nat.le_of_ble_eq_true rfl) dJ5_append_3fe6f_18) (rfl : _ = 21) ?_
  refine V_if_eq Y.1 (tgt := 45) dJ5_append_3fe6f_21 (by decide) (rfl : _ = 24) (fun c_n => absurd c_n (by decide)) (fun _ => ?_)
  refine V_aload_n Y.1 0 dJ5_append_3fe6f_24 (rfl : _ = 25) rfl rfl ?_
  refine V_get Y.1 fi_J5_15 hb rfl dJ5_append_3fe6f_25 (rfl : _ = 28) ?_
  refine V_aload_n Y.1 0 dJ5_append_3fe6f_28 (rfl : _ = 29) rfl rfl ?_
  refine V_dup Y.1 dJ5_append_3fe6f_29 (rfl : _ = 30) rfl ?_
  refine V_get Y.1 fi_J5_79 hb rfl dJ5_append_3fe6f_30 (rfl : _ = 33) ?_
  refine V_dup_x1 Y.1 dJ5_append_3fe6f_33 (rfl : _ = 34) rfl rfl ?_
  refine V_iconst Y.1 (v := 1) dJ5_append_3fe6f_34 (rfl : _ = 35) (by decide) ?_
  refine V_iadd Y.1 dJ5_append_3fe6f_35 (rfl : _ = 36) ?_
  refine V_nm (v := nI (n + 1)) (nI_1 _) ?_
  refine V_put Y.1 fi_J5_79 fw_J4 rfl rfl hb (Or.inl rfl) rfl rfl (Nat.le_of_ble_eq_true rfl) dJ5_append_3fe6f_36 (rfl : _ = 39) (fun H36_26 h_new o_36 => ?_)
  have hb : hp D _ _ (.inr (1, [_, _, _, _])) := h_new
  have hv := hv.sto o_36 (by omega)
  have sz : Array.size H36_26 = H0.size + 1 := o_36.1.trans sz
  clear h_new
  refine V_iload_n Y.1 1 dJ5_append_3fe6f_39 (rfl : _ = 40) rfl rfl ?_
  refine V_i2b Y.1 (v := nI c) dJ5_append_3fe6f_40 (rfl : _ = 41) (ch_i2b hc) ?_
  refine V_bast Y.1 hv (Or.inr (by show H0.size ≤ _; omega)) (vp_in_nI (by omega) (by omega)) (ch_nb hc) dJ5_append_3fe6f_41 (rfl : _ = 42) (fun H41_33 h_new o_41 => ?_)
  have hv := h_new
  have hb := hb.sto o_41 (by omega)
  have sz : Array.size H41_33 = H0.size + 1 := o_41.1.trans sz
  clear h_new
  rw [nI_clamp (by omega)] at hv
  refine V_goto Y.1 (tgt := 75) dJ5_append_3fe6f_42 (by decide) ?_
  refine V_aload_n Y.1 0 dJ5_append_3fe6f_75 (rfl : _ = 76) rfl rfl ?_
  exact V_retR Y.1 dJ5_append_3fe6f_76 (Or.inl ⟨_, rfl⟩) (Nat.le_of_ble_eq_true rfl) (Nat.le_of_ble_eq_true rfl) ⟨rfl, ⟨⟨_, hb⟩, hv, hne, by omega, hcap, fb_upd hc hfb⟩, sz⟩

set_option maxRecDepth 100000 in
set_option maxHeartbeats 4000000 in
theorem c_J4_append_k (l : Launch) (D : va_G) (kA : Nat → ClassId) (Hs : Heap) (σ : SG) (H0 : Heap) (hg : Ag Hs H0) (b v cap n : Nat) (g : Nat → Int32) (c : Nat) (hc : c < 128) (hk : n + 1 ≤ cap) (hS : Sb D kA H0 b v cap n g) (hbs : Hs.size ≤ b) (hvs : Hs.size ≤ v) : CtS l D kA Hs σ yJ4_append_cf468 cJ4_append_cf468 2 (some (.object "java/lang/StringBuilder")) 5 115 0 0 H0 [.ref b, .int (nI c)] (fun q => q = b ∨ q = v) (pR fun r H => r = b ∧ Sb D kA H b v cap (n + 1) (upd g n (nI c)) ∧ H.size = H0.size) := by
  refine CtS.of mi_J4_append_cf468 (Nat.le_of_ble_eq_true rfl) (ls0 := [(0, _), (1, _)]) rfl hg (fun q z => z.elim (fun e => e ▸ hbs) (fun e => e ▸ hvs)) ?_
  intro Pp Ee Ss Mm Ar Bl Me Cc Z hs hnm
  have Y := Z.1
  have hS0 := hS
  obtain ⟨⟨ml, hb⟩, hv, hne, hn, hcap, hfb⟩ := hS0
  have sz : H0.size = H0.size := rfl
  refine V_aload_n Y.1 0 dJ4_append_cf468_0 (rfl : _ = 1) rfl rfl ?_
  refine V_iload_n Y.1 1 dJ4_append_cf468_1 (rfl : _ = 2) rfl rfl ?_
  refine V_cR Y (sSU Z (c_J5_append_k l D kA Hs σ _ hg b v cap n g c hc hk hS hbs hvs) mi_J5_append_3fe6f su_J4_50 rfl hb rfl rfl (Nat.le_of_ble_eq_true rfl) ⟨Nat.le_of_ble_eq_true rfl, Nat.le_of_ble_eq_true rfl⟩ (Nat.le_of_ble_eq_true rfl) (Nat.le_of_ble_eq_true rfl) dJ4_append_cf468_2) (fun q z => Or.inl z) (rfl : _ = 5) (fun v_2 H2_2 hq_2 o_2 => ?_)
  obtain ⟨-, hS9, sz9⟩ := hq_2
  refine V_pop Y.1 dJ4_append_cf468_5 (rfl : _ = 6) rfl ?_
  refine V_aload_n Y.1 0 dJ4_append_cf468_6 (rfl : _ = 7) rfl rfl ?_
  exact V_retR Y.1 dJ4_append_cf468_7 (Or.inl ⟨_, rfl⟩) (Nat.le_of_ble_eq_true rfl) (Nat.le_of_ble_eq_true rfl) ⟨rfl, hS9, sz9⟩

set_option maxRecDepth 100000 in
set_option maxHeartbeats 4000000 in
theorem c_J4_append_g (l : Launch) (D : va_G) (kA : Nat → ClassId) (Hs : Heap) (σ : SG) (H0 : Heap) (hg : Ag Hs H0) (b v cap n : Nat) (g : Nat → Int32) (c : Nat) (hc : c < 128) (hcn : cap = n) (hn9 : n ≤ 59) (hS : Sb D kA H0 b v cap n g) (hbs : Hs.size ≤ b) : CtS l D kA Hs σ yJ4_append_cf468 cJ4_append_cf468 2 (some (.object "java/lang/StringBuilder")) 5 115 1 200 H0 [.ref b, .int (nI c)] (fun q => q = b) (pR fun r H => r = b ∧ Sb D kA H b H0.size (cap + (cap + 2)) (n + 1) (upd (va_cpy g (fun _ => 0) 0 0 cap) n (nI c)) ∧ H.size = H0.size + 1) := by
  refine CtS.of mi_J4_append_cf468 (Nat.le_of_ble_eq_true rfl) (ls0 := [(0, _), (1, _)]) rfl hg (fun q z => z ▸ hbs) ?_
  intro Pp Ee Ss Mm Ar Bl Me Cc Z hs hnm
  have Y := Z.1
  have hS0 := hS
  obtain ⟨⟨ml, hb⟩, hv, hne, hn, hcap, hfb⟩ := hS0
  have sz : H0.size = H0.size := rfl
  refine V_aload_n Y.1 0 dJ4_append_cf468_0 (rfl : _ = 1) rfl rfl ?_
  refine V_iload_n Y.1 1 dJ4_append_cf468_1 (rfl : _ = 2) rfl rfl ?_
  refine V_cR Y (sSU Z (c_J5_append_g l D kA Hs σ _ hg b v cap n g c hc hcn hn9 hS hbs) mi_J5_append_3fe6f su_J4_50 rfl hb rfl rfl (Nat.le_of_ble_eq_true rfl) ⟨Nat.le_of_ble_eq_true rfl, Nat.le_of_ble_eq_true rfl⟩ (Nat.le_of_ble_eq_true rfl) (Nat.le_of_ble_eq_true rfl) dJ4_append_cf468_2) (fun q z => Or.inl z) (rfl : _ = 5) (fun v_2 H2_2 hq_2 o_2 => ?_)
  obtain ⟨-, hS9, sz9⟩ := hq_2
  refine V_pop Y.1 dJ4_append_cf468_5 (rfl : _ = 6) rfl ?_
  refine V_aload_n Y.1 0 dJ4_append_cf468_6 (rfl : _ = 7) rfl rfl ?_
  exact V_retR Y.1 dJ4_append_cf468_7 (Or.inl ⟨_, rfl⟩) (Nat.le_of_ble_eq_true rfl) (Nat.le_of_ble_eq_true rfl) ⟨rfl, hS9, sz9⟩

set_option maxRecDepth 100000 in
set_option maxHeartbeats 4000000 in
theorem c_J5_setLength_d00df (l : Launch) (D : va_G) (kA : Nat → ClassId) (Hs : Heap) (σ : SG) (H0 : Heap) (hg : Ag Hs H0) (b v cap n : Nat) (g : Nat → Int32) (hS : Sb D kA H0 b v cap n g) (hbs : Hs.size ≤ b) : CtS l D kA Hs σ yJ5_setLength_d00df cJ5_setLength_d00df 2 none 8 120 0 0 H0 [.ref b, .int (nI 0)] (fun q => q = b) (pV fun H => Sb D kA H b v cap 0 g ∧ H.size = H0.size) := by
  refine CtS.of mi_J5_setLength_d00df (Nat.le_of_ble_eq_true rfl) (ls0 := [(0, _), (1, _)]) rfl hg (fun q z => z ▸ hbs) ?_
  intro Pp Ee Ss Mm Ar Bl Me Cc Z hs hnm
  have Y := Z.1
  obtain ⟨⟨ml, hb⟩, hv, hne, hn, hcap, hfb⟩ := hS
  have sz : H0.size = H0.size := rfl
  refine V_iload_n Y.1 1 dJ5_setLength_d00df_0 (rfl : _ = 1) rfl rfl ?_
  refine V_if_ge Y.1 (tgt := 13) dJ5_setLength_d00df_1 (by decide) (rfl : _ = 4) (fun _ => ?_) (fun c_n => absurd (by decide) c_n)
  refine V_aload_n Y.1 0 dJ5_setLength_d00df_13 (rfl : _ = 14) rfl rfl ?_
  refine V_iload_n Y.1 1 dJ5_setLength_d00df_14 (rfl : _ = 15) rfl rfl ?_
  refine V_cV Y (sVp Z (c_J5_ensure_k l D kA Hs σ _ hg b v cap n g 0 (Nat.zero_le _) ⟨⟨ml, hb⟩, hv, hne, hn, hcap, hfb⟩) mi_J5_ensureCapacityInternal_d00df vp_J5_100 rfl hb rfl rfl (Nat.le_of_ble_eq_true rfl) ⟨Nat.le_of_ble_eq_true rfl, Nat.le_of_ble_eq_true rfl⟩ (Nat.le_of_ble_eq_true rfl) (Nat.le_of_ble_eq_true rfl) dJ5_setLength_d00df_15) (fun _ z => z.elim) (rfl : _ = 18) (fun H15_4 hq_15 o_15 => ?_)
  have hq9 := hq_15.symm
  subst hq9
  refine V_aload_n Y.1 0 dJ5_setLength_d00df_18 (rfl : _ = 19) rfl rfl ?_
  refine V_get Y.1 fi_J5_79 hb rfl dJ5_setLength_d00df_19 (rfl : _ = 22) ?_
  refine V_iload_n Y.1 1 dJ5_setLength_d00df_22 (rfl : _ = 23) rfl rfl ?_
  refine V_icmp_ge Y.1 (tgt := 63) dJ5_setLength_d00df_23 (by decide) (rfl : _ = 26) (fun _ => ?_) (fun c_n => absurd ((nI_leI (by omega) (by omega)).mpr (Nat.zero_le _)) c_n)
  refine V_aload_n Y.1 0 dJ5_setLength_d00df_63 (rfl : _ = 64) rfl rfl ?_
  refine V_get Y.1 fi_J5_79 hb rfl dJ5_setLength_d00df_64 (rfl : _ = 67) ?_
  refine V_iload_n Y.1 1 dJ5_setLength_d00df_67 (rfl : _ = 68) rfl rfl ?_
  refine V_icmp_le Y.1 (tgt := 76) dJ5_setLength_d00df_68 (by decide) (rfl : _ = 71) (fun c_68 => ?_) (fun c_68 => ?_)
  · refine V_aload_n Y.1 0 dJ5_setLength_d00df_76 (rfl : _ = 77) rfl rfl ?_
    refine V_iload_n Y.1 1 dJ5_setLength_d00df_77 (rfl : _ = 78) rfl rfl ?_
    refine V_put Y.1 fi_J5_79 fw_J4 rfl rfl hb (Or.inl rfl) rfl rfl (Nat.le_of_ble_eq_true rfl) dJ5_setLength_d00df_78 (rfl : _ = 81) (fun H78_17 h_new o_78 => ?_)
    have hb : hp D _ _ (.inr (1, [_, _, _, _])) := h_new
    have hv := hv.sto o_78 (by omega)
    have sz : Array.size H78_17 = H0.size := o_78.1.trans sz
    clear h_new
    exact V_retV Y.1 dJ5_setLength_d00df_81 (Nat.le_of_ble_eq_true rfl) (Nat.le_of_ble_eq_true rfl) ⟨⟨⟨_, hb⟩, hv, hne, Nat.zero_le _, hcap, hfb⟩, sz⟩
  · refine V_aload_n Y.1 0 dJ5_setLength_d00df_71 (rfl : _ = 72) rfl rfl ?_
    refine V_iconst Y.1 (v := 1) dJ5_setLength_d00df_72 (rfl : _ = 73) (by decide) ?_
    refine V_put Y.1 fi_J5_73 fw_J4 rfl rfl hb (Or.inl rfl) rfl rfl (Nat.le_of_ble_eq_true rfl) dJ5_setLength_d00df_73 (rfl : _ = 76) (fun H73_25 h_new o_73 => ?_)
    have hb : hp D _ _ (.inr (1, [_, _, _, _])) := h_new
    have hv := hv.sto o_73 (by omega)
    have sz : Array.size H73_25 = H0.size := o_73.1.trans sz
    clear h_new
    refine V_aload_n Y.1 0 dJ5_setLength_d00df_76 (rfl : _ = 77) rfl rfl ?_
    refine V_iload_n Y.1 1 dJ5_setLength_d00df_77 (rfl : _ = 78) rfl rfl ?_
    refine V_put Y.1 fi_J5_79 fw_J4 rfl rfl hb (Or.inl rfl) rfl rfl (Nat.le_of_ble_eq_true rfl) dJ5_setLength_d00df_78 (rfl : _ = 81) (fun H78_32 h_new o_78 => ?_)
    have hb : hp D _ _ (.inr (1, [_, _, _, _])) := h_new
    have hv := hv.sto o_78 (by omega)
    have sz : Array.size H78_32 = H0.size := o_78.1.trans sz
    clear h_new
    exact V_retV Y.1 dJ5_setLength_d00df_81 (Nat.le_of_ble_eq_true rfl) (Nat.le_of_ble_eq_true rfl) ⟨⟨⟨_, hb⟩, hv, hne, Nat.zero_le _, hcap, hfb⟩, sz⟩

set_option maxRecDepth 100000 in
set_option maxHeartbeats 4000000 in
theorem c_J4_setLength_d00df (l : Launch) (D : va_G) (kA : Nat → ClassId) (Hs : Heap) (σ : SG) (H0 : Heap) (hg : Ag Hs H0) (b v cap n : Nat) (g : Nat → Int32) (hS : Sb D kA H0 b v cap n g) (hbs : Hs.size ≤ b) : CtS l D kA Hs σ yJ4_setLength_d00df cJ4_setLength_d00df 2 none 9 141 0 0 H0 [.ref b, .int (nI 0)] (fun q => q = b) (pV fun H => Sb D kA H b v cap 0 g ∧ H.size = H0.size) := by
  refine CtS.of mi_J4_setLength_d00df (Nat.le_of_ble_eq_true rfl) (ls0 := [(0, _), (1, _)]) rfl hg (fun q z => z ▸ hbs) ?_
  intro Pp Ee Ss Mm Ar Bl Me Cc Z hs hnm
  have Y := Z.1
  have hS0 := hS
  obtain ⟨⟨ml, hb⟩, hv, hne, hn, hcap, hfb⟩ := hS0
  have sz : H0.size = H0.size := rfl
  refine V_aload_n Y.1 0 dJ4_setLength_d00df_0 (rfl : _ = 1) rfl rfl ?_
  refine V_iload_n Y.1 1 dJ4_setLength_d00df_1 (rfl : _ = 2) rfl rfl ?_
  refine V_cV Y (sSU Z (c_J5_setLength_d00df l D kA Hs σ _ hg b v cap n g hS hbs) mi_J5_setLength_d00df su_J4_333 rfl hb rfl rfl (Nat.le_of_ble_eq_true rfl) ⟨Nat.le_of_ble_eq_true rfl, Nat.le_of_ble_eq_true rfl⟩ (Nat.le_of_ble_eq_true rfl) (Nat.le_of_ble_eq_true rfl) dJ4_setLength_d00df_2) (fun q z => Or.inl z) (rfl : _ = 5) (fun H2_2 hq_2 o_2 => ?_)
  exact V_retV Y.1 dJ4_setLength_d00df_5 (Nat.le_of_ble_eq_true rfl) (Nat.le_of_ble_eq_true rfl) hq_2

set_option maxRecDepth 100000 in
set_option maxHeartbeats 4000000 in
theorem c_J5_charAt_5068e (l : Launch) (D : va_G) (kA : Nat → ClassId) (Hs : Heap) (σ : SG) (H0 : Heap) (hg : Ag Hs H0) (b v cap n : Nat) (g : Nat → Int32) (i c : Nat) (hi : i < n) (hc : c < 128) (hgi : g i = nI c) (hS : Sb D kA H0 b v cap n g) : CtS l D kA Hs σ yJ5_charAt_5068e cJ5_charAt_5068e 5 (some .char) 2 43 0 0 H0 [.ref b, .int (nI i)] (nof) (pI fun v9 H => v9 = nI c ∧ H = H0) := by
  refine CtS.of mi_J5_charAt_5068e (Nat.le_of_ble_eq_true rfl) (ls0 := [(0, _), (1, _)]) rfl hg (fun _ z => z.elim) ?_
  intro Pp Ee Ss Mm Ar Bl Me Cc Z hs hnm
  have Y := Z.1
  obtain ⟨⟨ml, hb⟩, hv, hne, hn, hcap, hfb⟩ := hS
  have sz : H0.size = H0.size := rfl
  refine V_aload_n Y.1 0 dJ5_charAt_5068e_0 (rfl : _ = 1) rfl rfl ?_
  refine V_get Y.1 fi_J5_22 hb rfl dJ5_charAt_5068e_1 (rfl : _ = 4) ?_
  refine V_istore_n Y.1 (ls' := [(2, _), (0, _), (1, _)]) dJ5_charAt_5068e_4 (rfl : _ = 5) rfl (by decide) rfl ?_
  refine V_aload_n Y.1 1 dJ5_charAt_5068e_5 (rfl : _ = 6) rfl rfl ?_
  refine V_get Y.1 fi_J5_15 hb rfl dJ5_charAt_5068e_6 (rfl : _ = 9) ?_
  refine V_astore_n Y.1 (ls' := [(3, _), (2, _), (0, _), (1, _)]) dJ5_charAt_5068e_9 (rfl : _ = 10) rfl (by decide) rfl ?_
  refine V_aload_n Y.1 2 dJ5_charAt_5068e_10 (rfl : _ = 11) rfl rfl ?_
  refine V_get Y.1 fi_J5_79 hb rfl dJ5_charAt_5068e_11 (rfl : _ = 14) ?_
  refine V_aload_n Y.1 0 dJ5_charAt_5068e_14 (rfl : _ = 15) rfl rfl ?_
  refine V_alen Y.1 (v := nI cap) (t0 := 4) hv rfl rfl dJ5_charAt_5068e_15 (rfl : _ = 16) ?_
  refine V_iload_n Y.1 1 dJ5_charAt_5068e_16 (rfl : _ = 17) rfl rfl ?_
  refine V_ishr Y.1 dJ5_charAt_5068e_17 (rfl : _ = 18) ?_
  refine V_nm (v := nI cap) (shr_0 _) ?_
  refine V_mmin Y.1 mw_J5_138 (Nat.le_of_ble_eq_true rfl) (Nat.le_of_ble_eq_true rfl) (Nat.le_of_ble_eq_true rfl) (Nat.le_of_ble_eq_true rfl) dJ5_charAt_5068e_18 (rfl : _ = 21) ?_
  refine V_nm (v := nI n) (by rw [mn_nI (by omega) (by omega), Nat.min_eq_left (by omega)]) ?_
  refine V_istore Y.1 (ls' := [(4, _), (3, _), (2, _), (0, _), (1, _)]) dJ5_charAt_5068e_21 (rfl : _ = 23) (by decide) rfl ?_
  refine V_iload_n Y.1 4 dJ5_charAt_5068e_23 (rfl : _ = 24) rfl rfl ?_
  refine V_iload Y.1 0 dJ5_charAt_5068e_24 (rfl : _ = 26) rfl ?_
  refine V_cV Y (sS Z (c_J0_checkIndex_df160 l D kA Hs σ _ hg i n hi (by omega)) mi_J0_checkIndex_df160 si_J5_144 rfl rfl (Nat.le_of_ble_eq_true rfl) ⟨Nat.le_of_ble_eq_true rfl, Nat.le_of_ble_eq_true rfl⟩ (Nat.le_of_ble_eq_true rfl) (Nat.le_of_ble_eq_true rfl) dJ5_charAt_5068e_26) (fun _ z => z.elim) (rfl : _ = 29) (fun H26_18 hq_26 o_26 => ?_)
  have hq9 := hq_26.symm
  subst hq9
  refine V_iload_n Y.1 2 dJ5_charAt_5068e_29 (rfl : _ = 30) rfl rfl ?_
  refine V_if_ne Y.1 (tgt := 42) dJ5_charAt_5068e_30 (by decide) (rfl : _ = 33) (fun c_n => absurd rfl c_n) (fun _ => ?_)
  refine V_aload_n Y.1 1 dJ5_charAt_5068e_33 (rfl : _ = 34) rfl rfl ?_
  refine V_iload_n Y.1 4 dJ5_charAt_5068e_34 (rfl : _ = 35) rfl rfl ?_
  refine V_bald Y.1 (v := nI c) hv (vp_in_nI (by omega) (by omega)) (by rw [nI_clamp (by omega)]; exact hgi) dJ5_charAt_5068e_35 (rfl : _ = 36) ?_
  refine V_sipush Y.1 (v := 255) dJ5_charAt_5068e_36 (rfl : _ = 39) (by decide) ?_
  refine V_iand Y.1 dJ5_charAt_5068e_39 (rfl : _ = 40) ?_
  refine V_nm (v := nI c) (ch_255 hc) ?_
  refine V_i2c Y.1 (v := nI c) dJ5_charAt_5068e_40 (rfl : _ = 41) (ch_i2c hc) ?_
  exact V_ret Y.1 dJ5_charAt_5068e_41 (ch_nar hc) (Nat.le_of_ble_eq_true rfl) (Nat.le_of_ble_eq_true rfl) ⟨rfl, rfl⟩

set_option maxRecDepth 100000 in
set_option maxHeartbeats 4000000 in
theorem c_J4_charAt_5068e (l : Launch) (D : va_G) (kA : Nat → ClassId) (Hs : Heap) (σ : SG) (H0 : Heap) (hg : Ag Hs H0) (b v cap n : Nat) (g : Nat → Int32) (i c : Nat) (hi : i < n) (hc : c < 128) (hgi : g i = nI c) (hS : Sb D kA H0 b v cap n g) : CtS l D kA Hs σ yJ4_charAt_5068e cJ4_charAt_5068e 2 (some .char) 3 67 0 0 H0 [.ref b, .int (nI i)] (nof) (pI fun v9 H => v9 = nI c ∧ H = H0) := by
  refine CtS.of mi_J4_charAt_5068e (Nat.le_of_ble_eq_true rfl) (ls0 := [(0, _), (1, _)]) rfl hg (fun _ z => z.elim) ?_
  intro Pp Ee Ss Mm Ar Bl Me Cc Z hs hnm
  have Y := Z.1
  have hS0 := hS
  obtain ⟨⟨ml, hb⟩, hv, hne, hn, hcap, hfb⟩ := hS0
  have sz : H0.size = H0.size := rfl
  refine V_aload_n Y.1 0 dJ4_charAt_5068e_0 (rfl : _ = 1) rfl rfl ?_
  refine V_iload_n Y.1 1 dJ4_charAt_5068e_1 (rfl : _ = 2) rfl rfl ?_
  refine V_cP Y (sSU Z (c_J5_charAt_5068e l D kA Hs σ _ hg b v cap n g i c hi hc hgi hS) mi_J5_charAt_5068e su_J4_329 rfl hb rfl rfl (Nat.le_of_ble_eq_true rfl) ⟨Nat.le_of_ble_eq_true rfl, Nat.le_of_ble_eq_true rfl⟩ (Nat.le_of_ble_eq_true rfl) (Nat.le_of_ble_eq_true rfl) dJ4_charAt_5068e_2) (rfl : _ = 5) ?_
  exact V_ret Y.1 dJ4_charAt_5068e_5 (ch_nar hc) (Nat.le_of_ble_eq_true rfl) (Nat.le_of_ble_eq_true rfl) ⟨rfl, rfl⟩
