/-! The bits of a float. -/
section VLF
variable {p : Program} {l : Launch} {e : Env} {R : Room} {s : State} {m : MethodId} {args : Array Value} {below : List Frame} {meth : Method} {c : Code} {nL : Nat} {A : Nat → Prop} {Q : State → Prop} {H : Heap} {k n pc pc' : Nat} {ls : List (Nat × Value)} {st : List Value}
variable {cc : ByteArray} {own : String} {D : va_G} {kA : Nat → ClassId} {ret : Option FieldType} {T : State} {locs : List Loc} {cells slots : Nat} {lz : Array Slot} {rest : List Value}
theorem st_ldcwF (X : Stand p l e R s m args below meth c T locs cells slots) (hexec : p.tables.exec = Jvm.exec) {index : Nat} {b : UInt32} (hown : s.vm.findClass own = some m.cls)
    (hconst : (Cond.constantFloat own index b).before args s = true) {g : JFrame} (hg : g.method = m) (hdg : decode c.code g.pc = .ok (.ldc_w index, 3)) :
    ∀ target, Steps p.tables e below (T.setTop { g with pc := g.pc + 3, stack := .float b :: g.stack }) target → Steps p.tables e below (T.setTop g) target := by
  obtain ⟨k, cf, hk, hcf, hcp⟩ := Cond.constantFloat_spec hown hconst
  obtain ⟨k', hk', he⟩ := X.warmed.alike.2.2 _ _ hk
  intro target hrest
  subst hg
  jvm_step X.here [hexec, hdg, ldc_w.wp_float (s := T) (f := g) X.here.top hk' (by rw [he]; exact hcf) hcp]
  exact hrest
theorem lv_ldcwF (hexec : p.tables.exec = Jvm.exec) (hb : c.code = cc) {index : Nat} {v : UInt32} (hown : s.vm.findClass own = some m.cls) (hconst : (Cond.constantFloat own index v).before args s = true) (hdg : decode cc pc = .ok (.ldc_w index, 3)) (kk : W p l e R s m args below meth c H locs cells slots Q (F0 m (pc + 3) lz (.float v :: rest))) : W p l e R s m args below meth c H locs cells slots Q (F0 m pc lz rest) := by
  intro T hT X
  obtain ⟨t, a, b⟩ := kk T hT X
  exact ⟨t, st_ldcwF X hexec hown hconst (g := F0 m pc lz rest) rfl (by rw [hb]; exact hdg) t a, b⟩
theorem V_ldcwf (X : Kx p s m args meth c cc nL ret own D kA A) {i : Nat} {v : UInt32} (hw : Cond.constantFloat own i v ∈ T0) (hd : decode cc pc = .ok (.ldc_w i, 3)) (hp : pc + 3 = pc') (kk : V p l e R s m args below meth c nL A Q H k n pc' ls (.float v :: st)) : V p l e R s m args below meth c nL A Q H k n pc ls st := by
  subst hp
  exact fun lsA locs hl hS => lv_ldcwF X.1.1 X.1.2.1 X.1.2.2.2.1 (X.1.2.2.2.2 _ hw) hd (kk lsA locs hl hS)
end VLF
theorem e_exp2 (E : Nat) : nI E - nI 127 + 127 = nI E := by rw [show nI 127 = 127 from rfl]; grind
theorem bits_F {E T : Nat} (h2 : E < 255) (hT : T < 8388608) : nI E <<< ((23 : Int32) &&& 31) ||| nI T = (mkF E T).toInt32 := by
  apply Int32.toBitVec_inj.mp
  apply BitVec.eq_of_toNat_eq
  have e2 : (23 : Int32) &&& 31 = 23 := by decide
  rw [e2]
  have e3 : (nI E <<< 23).toBitVec.toNat = E <<< 23 := by
    have hs : (23 : Int32).toBitVec.smod 32 = 23#32 := by decide
    unfold nI
    rw [Int32.toBitVec_shiftLeft, hs, BitVec.shiftLeft_eq', BitVec.toNat_shiftLeft, Int32.toBitVec_ofNat', BitVec.toNat_ofNat, show (23#32).toNat = 23 from by decide, Nat.mod_eq_of_lt (show E < 2 ^ 32 by omega), Nat.shiftLeft_eq, Nat.mod_eq_of_lt (by omega)]
  rw [Int32.toBitVec_or, BitVec.toNat_or, e3]
  have e4 : (nI T).toBitVec.toNat = T := by
    unfold nI
    rw [Int32.toBitVec_ofNat', BitVec.toNat_ofNat, Nat.mod_eq_of_lt (show T < 2 ^ 32 by omega)]
  have e5 : (mkF E T).toInt32.toBitVec.toNat = (mkF E T).toNat := rfl
  rw [e4, e5, mkF_nat (by omega) hT, ← Nat.shiftLeft_add_eq_or_of_lt (show T < 2 ^ 23 from hT), Nat.shiftLeft_eq]
set_option maxRecDepth 100000 in
set_option maxHeartbeats 4000000 in
theorem c_X5_bitsOfShare (l : Launch) (D : va_G) (kA : Nat → ClassId) (H0 : Heap) (E T : Nat) (h1 : 1 ≤ E) (h2 : E ≤ 127) (hT : T < 8388608) : Ct l D kA yX5_bitsOfShare cX5_bitsOfShare 4 (some .int) 0 0 0 0 H0 [.float (mkF E T)] (nof) (pI fun v9 H => v9 = (mkF E T).toInt32 ∧ H = H0) := by
  refine Ct.of mi_X5_bitsOfShare (Nat.le_of_ble_eq_true rfl) (ls0 := [(0, _)]) rfl ?_
  intro Pp Ee Ss Mm Ar Bl Me Cc Y hsH hnm
  have lp2 : ∀ (r i G : Nat), G + r = 127 → 1 ≤ G → i + r ≤ 299 → V Pp l Ee (rmO 0 0 0 0) Ss Mm Ar Bl Me Cc 4 (AA H0 (nof)) (QC Bl Ar Ss 0 0 H0 (nof) (pI fun v9 H => v9 = (mkF E T).toInt32 ∧ H = H0)) H0 0 0 14 [(3, .int (nI i)), (2, .int (nI E - nI G)), (1, .float (mkF G T)), (0, .float (mkF E T))] [] := by
    intro r
    induction r with
    | zero =>
      intro i G hr hG hi
      obtain rfl : G = 127 := by omega
      refine V_iload_n Y.1 0 dX5_bitsOfShare_14 (rfl : _ = 15) rfl rfl ?_
      refine V_sipush Y.1 (v := 300) dX5_bitsOfShare_15 (rfl : _ = 18) (by decide) ?_
      refine V_icmp_ge Y.1 (tgt := 40) dX5_bitsOfShare_18 (by decide) (rfl : _ = 21) (fun c_n => absurd c_n (by simp (disch := omega) only [Int32.lt_iff_toInt_lt, Int32.le_iff_toInt_le, ge_iff_le, gt_iff_lt, nI_toInt, Int32.reduceToInt] ; omega)) (fun _ => ?_)
      refine V_fload_n Y.1 2 dX5_bitsOfShare_21 (rfl : _ = 22) rfl rfl ?_
      refine V_fconst1 Y.1 dX5_bitsOfShare_22 (rfl : _ = 23) ?_
      refine V_fcmp Y.1 dX5_bitsOfShare_23 (rfl : _ = 24) ?_
      refine V_if_ge Y.1 (tgt := 40) dX5_bitsOfShare_24 (by decide) (rfl : _ = 27) (fun _ => ?_) (fun c_n => absurd (cF_ge1 (by decide) (by decide) hT (Nat.le_refl _)) c_n)
      refine V_fload_n Y.1 2 dX5_bitsOfShare_40 (rfl : _ = 41) rfl rfl ?_
      refine V_fconst1 Y.1 dX5_bitsOfShare_41 (rfl : _ = 42) ?_
      refine V_fsub Y.1 dX5_bitsOfShare_42 (rfl : _ = 43) (mkF_frac hT).1 ?_
      refine V_ldcwf Y.1 cn_X5_340 dX5_bitsOfShare_43 rfl ?_
      refine V_fmul Y.1 dX5_bitsOfShare_46 (rfl : _ = 47) (mkF_frac hT).2.1 ?_
      refine V_f2i Y.1 dX5_bitsOfShare_47 (rfl : _ = 48) ?_
      refine V_istore_n Y.1 (ls' := [(3, _), (2, _), (1, _), (0, _)]) dX5_bitsOfShare_48 (rfl : _ = 49) rfl (by decide) rfl ?_
      refine V_iload_n Y.1 1 dX5_bitsOfShare_49 (rfl : _ = 50) rfl rfl ?_
      refine V_bipush Y.1 (v := 127) dX5_bitsOfShare_50 (rfl : _ = 52) (by decide) ?_
      refine V_iadd Y.1 dX5_bitsOfShare_52 (rfl : _ = 53) ?_
      refine V_nm (v := nI E) (e_exp2 E) ?_
      refine V_bipush Y.1 (v := 23) dX5_bitsOfShare_53 (rfl : _ = 55) (by decide) ?_
      refine V_ishl Y.1 dX5_bitsOfShare_55 (rfl : _ = 56) ?_
      refine V_iload_n Y.1 0 dX5_bitsOfShare_56 (rfl : _ = 57) rfl rfl ?_
      refine V_ior Y.1 dX5_bitsOfShare_57 (rfl : _ = 58) ?_
      exact V_ret Y.1 dX5_bitsOfShare_58 rfl (Nat.le_of_ble_eq_true rfl) (Nat.le_of_ble_eq_true rfl) ⟨by rw [show FP.fconst1 = 1065353216 from by decide +kernel, (mkF_frac hT).2.2]; exact bits_F (by omega) hT, rfl⟩
    | succ r ih =>
      intro i G hr hG hi
      refine V_iload_n Y.1 0 dX5_bitsOfShare_14 (rfl : _ = 15) rfl rfl ?_
      refine V_sipush Y.1 (v := 300) dX5_bitsOfShare_15 (rfl : _ = 18) (by decide) ?_
      refine V_icmp_ge Y.1 (tgt := 40) dX5_bitsOfShare_18 (by decide) (rfl : _ = 21) (fun c_n => absurd c_n (by simp (disch := omega) only [Int32.lt_iff_toInt_lt, Int32.le_iff_toInt_le, ge_iff_le, gt_iff_lt, nI_toInt, Int32.reduceToInt] ; omega)) (fun _ => ?_)
      refine V_fload_n Y.1 2 dX5_bitsOfShare_21 (rfl : _ = 22) rfl rfl ?_
      refine V_fconst1 Y.1 dX5_bitsOfShare_22 (rfl : _ = 23) ?_
      refine V_fcmp Y.1 dX5_bitsOfShare_23 (rfl : _ = 24) ?_
      refine V_if_ge Y.1 (tgt := 40) dX5_bitsOfShare_24 (by decide) (rfl : _ = 27) (fun c_n => absurd c_n (cF_lt1 hG (by omega) hT (by omega))) (fun _ => ?_)
      refine V_fload_n Y.1 2 dX5_bitsOfShare_27 (rfl : _ = 28) rfl rfl ?_
      refine V_fconst2 Y.1 dX5_bitsOfShare_28 (rfl : _ = 29) ?_
      refine V_fmul Y.1 dX5_bitsOfShare_29 (rfl : _ = 30) (by show vf_n32 (FP.fmul _ 1073741824); rw [mkF_dbl hG (by omega) hT]; exact mkF_vf (by omega) hT) ?_
      rw [show FP.fconst2 = 1073741824 from by decide +kernel, mkF_dbl hG (by omega) hT]
      refine V_fstore_n Y.1 (ls' := [(1, _), (3, _), (2, _), (0, _)]) dX5_bitsOfShare_30 (rfl : _ = 31) rfl (by decide) rfl ?_
      refine V_iinc Y.1 (v := nI E - nI (G + 1)) (ls' := [(2, _), (1, _), (3, _), (0, _)]) 2 dX5_bitsOfShare_31 (rfl : _ = 34) rfl (e_dn E G) (by decide) rfl ?_
      refine V_iinc Y.1 (v := nI (i + 1)) (ls' := [(3, _), (2, _), (1, _), (0, _)]) 2 dX5_bitsOfShare_34 (rfl : _ = 37) rfl (nI_1 _) (by decide) rfl ?_
      refine V_goto Y.1 (tgt := 14) dX5_bitsOfShare_37 (by decide) ?_
      exact V_forget (ls' := [(3, _), (2, _), (1, _), (0, _)]) [0, 1, 2, 3] rfl (ih (i + 1) (G + 1) (by omega) (by omega) (by omega))
  have sz : H0.size = H0.size := rfl
  refine V_fload_n Y.1 0 dX5_bitsOfShare_0 (rfl : _ = 1) rfl rfl ?_
  refine V_fconst0 Y.1 dX5_bitsOfShare_1 (rfl : _ = 2) ?_
  refine V_fcmp Y.1 dX5_bitsOfShare_2 (rfl : _ = 3) ?_
  refine V_if_gt Y.1 (tgt := 8) dX5_bitsOfShare_3 (by decide) (rfl : _ = 6) (fun _ => ?_) (fun c_n => absurd (cF_gt0 h1 (by omega) hT) c_n)
  refine V_fload_n Y.1 0 dX5_bitsOfShare_8 (rfl : _ = 9) rfl rfl ?_
  refine V_fstore_n Y.1 (ls' := [(1, _), (0, _)]) dX5_bitsOfShare_9 (rfl : _ = 10) rfl (by decide) rfl ?_
  refine V_iconst Y.1 (v := 0) dX5_bitsOfShare_10 (rfl : _ = 11) (by decide) ?_
  refine V_istore_n Y.1 (ls' := [(2, _), (1, _), (0, _)]) dX5_bitsOfShare_11 (rfl : _ = 12) rfl (by decide) rfl ?_
  refine V_iconst Y.1 (v := 0) dX5_bitsOfShare_12 (rfl : _ = 13) (by decide) ?_
  refine V_istore_n Y.1 (ls' := [(3, _), (2, _), (1, _), (0, _)]) dX5_bitsOfShare_13 (rfl : _ = 14) rfl (by decide) rfl ?_
  exact V_forget (ls' := [(3, _), (2, _), (1, _), (0, _)]) [0, 1, 2, 3] rfl (by have g9 := lp2 (127 - E) 0 E (by omega) h1 (by omega); rw [Int32.sub_self] at g9; exact g9)

set_option maxRecDepth 100000 in
set_option maxHeartbeats 4000000 in
theorem c_X5_bitsOfShare_z (l : Launch) (D : va_G) (kA : Nat → ClassId) (H0 : Heap)   : Ct l D kA yX5_bitsOfShare cX5_bitsOfShare 4 (some .int) 0 0 0 0 H0 [.float 0] (nof) (pI fun v9 H => v9 = 0 ∧ H = H0) := by
  refine Ct.of mi_X5_bitsOfShare (Nat.le_of_ble_eq_true rfl) (ls0 := [(0, _)]) rfl ?_
  intro Pp Ee Ss Mm Ar Bl Me Cc Y hsH hnm
  have sz : H0.size = H0.size := rfl
  refine V_fload_n Y.1 0 dX5_bitsOfShare_0 (rfl : _ = 1) rfl rfl ?_
  refine V_fconst0 Y.1 dX5_bitsOfShare_1 (rfl : _ = 2) ?_
  refine V_fcmp Y.1 dX5_bitsOfShare_2 (rfl : _ = 3) ?_
  refine V_if_gt Y.1 (tgt := 8) dX5_bitsOfShare_3 (by decide) (rfl : _ = 6) (fun c_n => absurd c_n (by decide +kernel)) (fun _ => ?_)
  refine V_iconst Y.1 (v := 0) dX5_bitsOfShare_6 (rfl : _ = 7) (by decide) ?_
  exact V_ret Y.1 dX5_bitsOfShare_7 rfl (Nat.le_of_ble_eq_true rfl) (Nat.le_of_ble_eq_true rfl) ⟨rfl, rfl⟩
