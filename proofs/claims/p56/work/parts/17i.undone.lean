/-! What is undone. -/
theorem fc_1 (z : Int32) : fc 1 z + 30000 < 0 := by
  unfold fc
  rw [if_neg (by decide), if_pos rfl]
  (repeat' split) <;> decide
def SX (s : Nat → Int32) : Int64 := SR s (s 0).toNatClampNeg (s 1).toNatClampNeg
theorem SQ.sx {M : MS} {s : Nat → Int32} {n t q : Nat} (h : SQ M s n t q) : SX s = SR s n t := by
  unfold SX
  rw [h.1.1.1.1, h.1.1.1.2.2.1, nI_clamp (by have := h.1.1.1.2.1; omega), nI_clamp (by have := h.1.1.1.2.2.2.1; omega)]
theorem hi_u {u d : Nat} (hu : u ≤ 8) (hd : d ≤ u) (h6 : d ≤ 6) : d + 1 ≤ p_u u := by
  unfold p_u
  split <;> omega
theorem hi_push {u d : Nat} {p : Nat → Nat → Int32} {s : Nat → Int32} {n t : Nat} {g : Nat → Int64} (hu : u ≤ 8) (hd : d ≤ u) (h6 : d ≤ 6) (e : SX s = SR s n t) (h : ∀ j, j < d → g j = SX (p (u - d + j))) : ∀ j, j < d + 1 → vp_updL g d (SR s n t) j = SX (p_ph p s u (p_u u - (d + 1) + j)) := by
  intro j hj
  unfold p_u p_ph
  by_cases hu8 : u < 8
  · rw [if_pos hu8, if_pos hu8]
    by_cases ej : j = d
    · subst ej
      rw [pk_uLs, if_pos (by omega), e]
    · rw [pk_uLn ej, if_neg (by omega), h j (by omega), show u + 1 - (d + 1) + j = u - d + j by omega]
  · rw [if_neg hu8, if_neg hu8]
    by_cases ej : j = d
    · subst ej
      rw [pk_uLs, if_pos (by omega), e]
    · rw [pk_uLn ej, if_neg (by omega), h j (by omega), show 8 - (d + 1) + j + 1 = u - d + j by omega]
theorem dec_m1 (x : Int32) : x + Int32.ofInt (-1) = x - 1 := (Int32.sub_eq_add_neg x 1).symm
theorem sg_l9 {x : Nat} (h : x < 100) : (sg (nI x)).length ≤ 2 := by
  rw [sg_pos (by omega)]
  by_cases h9 : x ≤ 9
  · rw [dg_9 h9]; simp
  · rw [dg_10 h9, dg_9 (by omega)]; simp
theorem sg_l3 {x : Nat} (h : x < 1000) : (sg (nI x)).length ≤ 3 := by
  rw [sg_pos (by omega)]
  by_cases h9 : x ≤ 9
  · rw [dg_9 h9]; simp
  · rw [dg_10 h9]
    by_cases h99 : x / 10 ≤ 9
    · rw [dg_9 h99]; simp
    · rw [dg_10 h99, dg_9 (by omega)]; simp
theorem x_w : (("MetroFaresLaw", 371, "wait ") : String × Nat × String) ∈ wL := by decide
theorem x_i : (("MetroFaresLaw", 373, ";in ") : String × Nat × String) ∈ wL := by decide
theorem x_o : (("MetroFaresLaw", 375, " 3;wait 9;out ") : String × Nat × String) ∈ wL := by decide
theorem x_s : (("MetroFaresLaw", 377, " ") : String × Nat × String) ∈ wL := by decide
theorem c_U_issue (l : Launch) (D : va_G) (kA : Nat → ClassId) (Hs : Heap) (σ : SG) (H0 : Heap) (hg : Ag Hs H0) (a : Nat) (M : MS) (s : Nat → Int32) (n t q u : Nat) (p : Nat → Nat → Int32) (no : Nat) (go : Nat → Int32) (ns : Nat) (X : Nat → Prop) (x : Int32) (hJ : Lw D kA Hs H0 a M s n t q u p no go ns X) (hnt : l.stackTraces = false) (hq4 : q ≤ 30000) (hx : x = 0 ∨ x = 1) : CtW l D kA Hs σ yL_issue cL_issue 3 (some .int) [(0, 5, 6, 14)] 11 186 9 30 H0 [.ref a, .int x] (fun q => Hs.size ≤ q ∧ ¬ X q) (pI fun k9 H9 => Oc D kA Hs H9 a s n t q u p no go X (k9)) := by
  refine CtW.mono (c_L_issue l D kA Hs σ H0 hg a M s n t q u p no go ns X x hJ hnt (by omega) hx) (fun v9 H9 o9 hp9 => ?_)
  have hq := hJ.sq
  obtain ⟨r9, e9, h1⟩ := hp9
  refine ⟨r9, e9, ?_⟩
  rcases h1 with ⟨hz, hv, s2, n2, t2, hJ9⟩ | ⟨hz, hv, hJ9⟩
  · refine Or.inl ⟨?_, _, s2, n2, t2, ns, hJ9.more (by omega)⟩
    rw [hv, do_0 hq]
    exact nI_pos (by have := hq.1.1.1.2.1; omega)
  · refine Or.inr ⟨?_, M, ns, hJ9⟩
    rw [hv]
    exact fc_neg _ _

theorem c_U_load (l : Launch) (D : va_G) (kA : Nat → ClassId) (Hs : Heap) (σ : SG) (H0 : Heap) (hg : Ag Hs H0) (a : Nat) (M : MS) (s : Nat → Int32) (n t q u : Nat) (p : Nat → Nat → Int32) (no : Nat) (go : Nat → Int32) (ns : Nat) (X : Nat → Prop) (x y : Int32) (hJ : Lw D kA Hs H0 a M s n t q u p no go ns X) (hnt : l.stackTraces = false) (hq4 : q ≤ 30000) : CtW l D kA Hs σ yL_load cL_load 4 (some .int) [(0, 6, 7, 20), (0, 6, 12, 22), (0, 6, 17, 24)] 11 187 9 30 H0 [.ref a, .int x, .int y] (fun q => Hs.size ≤ q ∧ ¬ X q) (pI fun k9 H9 => Oc D kA Hs H9 a s n t q u p no go X (k9 + 30000)) := by
  refine CtW.mono (c_L_load l D kA Hs σ H0 hg a M s n t q u p no go ns X x y hJ hnt (by omega)) (fun v9 H9 o9 hp9 => ?_)
  have hq := hJ.sq
  obtain ⟨r9, e9, h1⟩ := hp9
  refine ⟨r9, e9, ?_⟩
  rcases h1 with ⟨hz, hv, s2, n2, t2, hJ9⟩ | ⟨hz, hv, hJ9⟩
  · refine Or.inl ⟨?_, _, s2, n2, t2, ns, hJ9.more (by omega)⟩
    rw [hv]
    exact do_1 hq hz
  · refine Or.inr ⟨?_, M, ns, hJ9⟩
    rw [hv]
    exact fc_1 _

theorem c_U_tapIn (l : Launch) (D : va_G) (kA : Nat → ClassId) (Hs : Heap) (σ : SG) (H0 : Heap) (hg : Ag Hs H0) (a : Nat) (M : MS) (s : Nat → Int32) (n t q u : Nat) (p : Nat → Nat → Int32) (no : Nat) (go : Nat → Int32) (ns : Nat) (X : Nat → Prop) (x y : Int32) (hJ : Lw D kA Hs H0 a M s n t q u p no go ns X) (hnt : l.stackTraces = false) (hq4 : q ≤ 30000) : CtW l D kA Hs σ yL_tapIn cL_tapIn 4 (some .int) [(0, 14, 15, 20), (0, 14, 18, 14)] 11 187 9 30 H0 [.ref a, .int x, .int y] (fun q => Hs.size ≤ q ∧ ¬ X q) (pI fun k9 H9 => Oc D kA Hs H9 a s n t q u p no go X (k9)) := by
  refine CtW.mono (c_L_tapIn l D kA Hs σ H0 hg a M s n t q u p no go ns X x y hJ hnt (by omega)) (fun v9 H9 o9 hp9 => ?_)
  have hq := hJ.sq
  obtain ⟨r9, e9, h1⟩ := hp9
  refine ⟨r9, e9, ?_⟩
  rcases h1 with ⟨hz, hv, s2, n2, t2, hJ9⟩ | ⟨hz, hv, hJ9⟩
  · refine Or.inl ⟨?_, _, s2, n2, t2, ns, hJ9.more (by omega)⟩
    rw [hv]
    split <;> decide
  · refine Or.inr ⟨?_, M, ns, hJ9⟩
    rw [hv]
    exact fc_neg _ _

theorem c_U_tapOut (l : Launch) (D : va_G) (kA : Nat → ClassId) (Hs : Heap) (σ : SG) (H0 : Heap) (hg : Ag Hs H0) (a : Nat) (M : MS) (s : Nat → Int32) (n t q u : Nat) (p : Nat → Nat → Int32) (no : Nat) (go : Nat → Int32) (ns : Nat) (X : Nat → Prop) (x y : Int32) (hJ : Lw D kA Hs H0 a M s n t q u p no go ns X) (hnt : l.stackTraces = false) (hq4 : q ≤ 30000) : CtW l D kA Hs σ yL_tapOut cL_tapOut 4 (some .int) [(0, 6, 7, 20), (0, 6, 10, 14)] 11 187 9 30 H0 [.ref a, .int x, .int y] (fun q => Hs.size ≤ q ∧ ¬ X q) (pI fun k9 H9 => Oc D kA Hs H9 a s n t q u p no go X (k9)) := by
  refine CtW.mono (c_L_tapOut l D kA Hs σ H0 hg a M s n t q u p no go ns X x y hJ hnt (by omega)) (fun v9 H9 o9 hp9 => ?_)
  have hq := hJ.sq
  obtain ⟨r9, e9, h1⟩ := hp9
  refine ⟨r9, e9, ?_⟩
  rcases h1 with ⟨hz, hv, s2, n2, t2, hJ9⟩ | ⟨hz, hv, hJ9⟩
  · refine Or.inl ⟨?_, _, s2, n2, t2, ns, hJ9.more (by omega)⟩
    rw [hv]
    exact do_3 hq hz
  · refine Or.inr ⟨?_, M, ns, hJ9⟩
    rw [hv]
    exact fc_neg _ _

theorem c_U_repair (l : Launch) (D : va_G) (kA : Nat → ClassId) (Hs : Heap) (σ : SG) (H0 : Heap) (hg : Ag Hs H0) (a : Nat) (M : MS) (s : Nat → Int32) (n t q u : Nat) (p : Nat → Nat → Int32) (no : Nat) (go : Nat → Int32) (ns : Nat) (X : Nat → Prop) (x y : Int32) (hJ : Lw D kA Hs H0 a M s n t q u p no go ns X) (hnt : l.stackTraces = false) (hq4 : q ≤ 30000) : CtW l D kA Hs σ yL_repair cL_repair 4 (some .int) [(0, 6, 7, 20), (0, 6, 10, 36), (0, 6, 14, 14)] 11 187 9 30 H0 [.ref a, .int x, .int y] (fun q => Hs.size ≤ q ∧ ¬ X q) (pI fun k9 H9 => Oc D kA Hs H9 a s n t q u p no go X (k9)) := by
  refine CtW.mono (c_L_repair l D kA Hs σ H0 hg a M s n t q u p no go ns X x y hJ hnt (by omega)) (fun v9 H9 o9 hp9 => ?_)
  have hq := hJ.sq
  obtain ⟨r9, e9, h1⟩ := hp9
  refine ⟨r9, e9, ?_⟩
  rcases h1 with ⟨hz, hv, s2, n2, t2, hJ9⟩ | ⟨hz, hv, hJ9⟩
  · refine Or.inl ⟨?_, _, s2, n2, t2, ns, hJ9.more (by omega)⟩
    rw [hv]
    exact do_4
  · refine Or.inr ⟨?_, M, ns, hJ9⟩
    rw [hv]
    exact fc_neg _ _

theorem c_U_setZone (l : Launch) (D : va_G) (kA : Nat → ClassId) (Hs : Heap) (σ : SG) (H0 : Heap) (hg : Ag Hs H0) (a : Nat) (M : MS) (s : Nat → Int32) (n t q u : Nat) (p : Nat → Nat → Int32) (no : Nat) (go : Nat → Int32) (ns : Nat) (X : Nat → Prop) (x y : Int32) (hJ : Lw D kA Hs H0 a M s n t q u p no go ns X) (hnt : l.stackTraces = false) (hq4 : q ≤ 30000) : CtW l D kA Hs σ yL_setZone cL_setZone 4 (some .int) [(0, 6, 7, 20), (0, 6, 10, 22)] 11 187 9 30 H0 [.ref a, .int x, .int y] (fun q => Hs.size ≤ q ∧ ¬ X q) (pI fun k9 H9 => Oc D kA Hs H9 a s n t q u p no go X (k9)) := by
  refine CtW.mono (c_L_setZone l D kA Hs σ H0 hg a M s n t q u p no go ns X x y hJ hnt (by omega)) (fun v9 H9 o9 hp9 => ?_)
  have hq := hJ.sq
  obtain ⟨r9, e9, h1⟩ := hp9
  refine ⟨r9, e9, ?_⟩
  rcases h1 with ⟨hz, hv, s2, n2, t2, hJ9⟩ | ⟨hz, hv, hJ9⟩
  · refine Or.inl ⟨?_, _, s2, n2, t2, ns, hJ9.more (by omega)⟩
    obtain ⟨v, v1, v6, ev⟩ := do_5 hq hz
    rw [hv, ev]
    exact nI_pos (by omega)
  · refine Or.inr ⟨?_, M, ns, hJ9⟩
    rw [hv]
    exact fc_neg _ _

theorem c_U_setFares (l : Launch) (D : va_G) (kA : Nat → ClassId) (Hs : Heap) (σ : SG) (H0 : Heap) (hg : Ag Hs H0) (a : Nat) (M : MS) (s : Nat → Int32) (n t q u : Nat) (p : Nat → Nat → Int32) (no : Nat) (go : Nat → Int32) (ns : Nat) (X : Nat → Prop) (x y : Int32) (hJ : Lw D kA Hs H0 a M s n t q u p no go ns X) (hnt : l.stackTraces = false) (hq4 : q ≤ 30000) : CtW l D kA Hs σ yL_setFares cL_setFares 4 (some .int) [(0, 6, 7, 22)] 11 187 9 30 H0 [.ref a, .int x, .int y] (fun q => Hs.size ≤ q ∧ ¬ X q) (pI fun k9 H9 => Oc D kA Hs H9 a s n t q u p no go X (k9)) := by
  refine CtW.mono (c_L_setFares l D kA Hs σ H0 hg a M s n t q u p no go ns X x y hJ hnt (by omega)) (fun v9 H9 o9 hp9 => ?_)
  have hq := hJ.sq
  obtain ⟨r9, e9, h1⟩ := hp9
  refine ⟨r9, e9, ?_⟩
  rcases h1 with ⟨hz, hv, s2, n2, t2, hJ9⟩ | ⟨hz, hv, hJ9⟩
  · refine Or.inl ⟨?_, _, s2, n2, t2, ns, hJ9.more (by omega)⟩
    rw [hv]
    exact do_6 hq
  · refine Or.inr ⟨?_, M, ns, hJ9⟩
    rw [hv]
    exact fc_neg _ _

theorem c_U_advance (l : Launch) (D : va_G) (kA : Nat → ClassId) (Hs : Heap) (σ : SG) (H0 : Heap) (hg : Ag Hs H0) (a : Nat) (M : MS) (s : Nat → Int32) (n t q u : Nat) (p : Nat → Nat → Int32) (no : Nat) (go : Nat → Int32) (ns : Nat) (X : Nat → Prop) (x : Int32) (hJ : Lw D kA Hs H0 a M s n t q u p no go ns X) (hnt : l.stackTraces = false) (hq4 : q ≤ 30000) : CtW l D kA Hs σ yL_advance cL_advance 3 (some .int) [(0, 5, 6, 22)] 11 186 9 30 H0 [.ref a, .int x] (fun q => Hs.size ≤ q ∧ ¬ X q) (pI fun k9 H9 => Oc D kA Hs H9 a s n t q u p no go X (k9)) := by
  refine CtW.mono (c_L_advance l D kA Hs σ H0 hg a M s n t q u p no go ns X x hJ hnt (by omega)) (fun v9 H9 o9 hp9 => ?_)
  have hq := hJ.sq
  obtain ⟨r9, e9, h1⟩ := hp9
  refine ⟨r9, e9, ?_⟩
  rcases h1 with ⟨hz, hv, s2, n2, t2, hJ9⟩ | ⟨hz, hv, hJ9⟩
  · refine Or.inl ⟨?_, _, s2, n2, t2, ns, hJ9.more (by omega)⟩
    rw [hv]
    exact do_7 hq
  · refine Or.inr ⟨?_, M, ns, hJ9⟩
    rw [hv]
    exact fc_neg _ _

set_option maxRecDepth 100000 in
set_option maxHeartbeats 4000000 in
theorem c_L_undone (l : Launch) (D : va_G) (kA : Nat → ClassId) (Hs : Heap) (σ : SG) (sa N : Nat) (f : Nat → Int32) (H0 : Heap) (hg : Ag Hs H0) (a : Nat) (M : MS) (s : Nat → Int32) (n t q u : Nat) (p : Nat → Nat → Int32) (no : Nat) (go : Nat → Int32) (ns : Nat) (hJ : Lw D kA Hs H0 a M s n t q u p no go ns (fun _ => False)) (hnt : l.stackTraces = false) (hN : N < 2 ^ 31) (hq4 : q ≤ 500) : CtA l D kA Hs σ sa N f yL_undone cL_undone 8 (some .boolean) 13 264 20000 200000 H0 [.ref sa, .ref a] (fun q => Hs.size ≤ q) (pI fun v9 H => v9 = 1) := by
  refine CtA.of mi_L_undone (Nat.le_of_ble_eq_true rfl) (ls0 := [(0, _), (1, _)]) rfl hg (fun q hq => hq) ?_
  intro Pp Ee Ss Mm Ar Bl Me Cc Z hsH hXs hsa
  have Y := Z.1
  refine V_bipush Y.1 (v := 9) dL_undone_0 (rfl : _ = 2) (by decide) ?_
  refine V_newL Y.1 (N := 9) ac_long (by decide) (by decide) (Nat.le_of_ble_eq_true rfl) (by show _ ≤ 20000; omega) (by show _ ≤ 200000; omega) dL_undone_2 (rfl : _ = 4) (fun H2_1 q_2 eq_2 z_2 h_new o_2 => ?_)
  have hs := h_new
  refine V_astore_n Y.1 (ls' := [(2, _), (0, _), (1, _)]) dL_undone_4 (rfl : _ = 5) rfl (by decide) rfl ?_
  refine V_iconst Y.1 (v := 0) dL_undone_5 (rfl : _ = 6) (by decide) ?_
  refine V_istore_n Y.1 (ls' := [(3, _), (2, _), (0, _), (1, _)]) dL_undone_6 (rfl : _ = 7) rfl (by decide) rfl ?_
  refine V_iconst Y.1 (v := 0) dL_undone_7 (rfl : _ = 8) (by decide) ?_
  refine V_istore Y.1 (ls' := [(4, _), (3, _), (2, _), (0, _), (1, _)]) dL_undone_8 (rfl : _ = 10) (by decide) rfl ?_
  have hJ := (hJ.claim o_2).less (X' := fun x => x = q_2) (fun x hx => Or.inr ⟨by omega, by omega⟩)
  have hq2 : Hs.size ≤ q_2 := by have := hg.1; omega
  have loopB : ∀ (d9 : Int32) (m : Nat) (H : Heap) (g : Nat → Int64) (M : MS) (s : Nat → Int32) (n t q u : Nat) (p : Nat → Nat → Int32) (ns : Nat), Lw D kA Hs H a M s n t q u p no go ns (fun x => x = q_2) → hp D H q_2 (eL kA 9 g) → q ≤ 1000 → m ≤ u → m ≤ 7 → (∀ j, j < m → g j = SX (p (u - m + j))) → V Pp l Ee (rmO 13 264 20000 200000) Ss Mm Ar Bl Me Cc 8 (AA H0 (fun q => Hs.size ≤ q)) (QC Bl Ar Ss 20000 200000 H0 (fun q => Hs.size ≤ q) (pI fun v9 H => v9 = 1)) H (19000 - 801 * m) (190000 - 4806 * m) 402 [(4, .int (nI m - 1)), (3, .int d9), (2, .ref q_2), (1, .ref a), (0, .ref sa)] [] := by
    intro d9 m
    induction m with
    | zero =>
      intro H g M s n t q u p ns hJ hs hq hmu hm7 hg
      refine V_iload Y.1 0 dL_undone_402 (rfl : _ = 404) rfl ?_
      refine V_if_lt Y.1 (tgt := 434) dL_undone_404 (by decide) (rfl : _ = 407) (fun _ => ?_) (fun c_n => absurd (by decide) c_n)
      refine V_iconst Y.1 (v := 1) dL_undone_434 (rfl : _ = 435) (by decide) ?_
      exact V_ret Y.1 dL_undone_435 rfl (by omega) (by omega) rfl
    | succ m ih =>
      intro H g M s n t q u p ns hJ hs hq hmu hm7 hgj
      have hu8 := hJ.u8
      rw [nI_pred]
      refine V_iload Y.1 0 dL_undone_402 (rfl : _ = 404) rfl ?_
      refine V_if_lt Y.1 (tgt := 434) dL_undone_404 (by decide) (rfl : _ = 407) (fun c_n => absurd c_n (nI_pos (by omega))) (fun _ => ?_)
      refine V_aload_n Y.1 3 dL_undone_407 (rfl : _ = 408) rfl rfl ?_
      refine V_cI Y (sW Z (c_L_undo l D kA Hs σ _ hJ.ag a M s n t q u p no go ns (fun x => x = q_2) hJ hnt) mh_L_undo si_L_383 rfl rfl (Nat.le_of_ble_eq_true rfl) ⟨Nat.le_of_ble_eq_true rfl, Nat.le_of_ble_eq_true rfl⟩ (by show _ ≤ 20000; omega) (by show _ ≤ 200000; omega) dL_undone_408) (fun q z => Or.inl z.1) (rfl : _ = 411) (fun v_408 H408_3 hq_408 o_408 => ?_)
      obtain ⟨-, hv9, M2, n2, t2, hJ⟩ := hq_408.resolve_right (fun z => by omega)
      have hs := hs.off o_408 (fun z => z.2 rfl)
      refine V_if_lt Y.1 (tgt := 426) dL_undone_411 (by decide) (rfl : _ = 414) (fun c_n => absurd c_n (by rw [hv9]; exact nI_pos (by omega))) (fun _ => ?_)
      refine V_aload_n Y.1 3 dL_undone_414 (rfl : _ = 415) rfl rfl ?_
      refine V_cL Y (sS Z (c_L_sum l D kA Hs σ _ hJ.ag a M2 (p (u - 1)) n2 t2 q (u - 1) p no go ns (fun x => x = q_2) hJ hnt) mi_L_sum si_L_365 rfl rfl (Nat.le_of_ble_eq_true rfl) ⟨Nat.le_of_ble_eq_true rfl, Nat.le_of_ble_eq_true rfl⟩ (by show _ ≤ 20000; omega) (by show _ ≤ 200000; omega) dL_undone_415) (fun _ z => z.elim) (rfl : _ = 418) (fun v_415 H415_8 hq_415 o_415 => ?_)
      obtain rfl := hq_415
      have hJ := hJ.new o_415
      have hs := hs.off o_415 id
      refine V_aload_n Y.1 2 dL_undone_418 (rfl : _ = 419) rfl rfl ?_
      refine V_iload Y.1 0 dL_undone_419 (rfl : _ = 421) rfl ?_
      refine V_lald Y.1 (v := (SR (p (u - 1)) n2 t2)) hs (vp_in_nI (by omega) (by decide)) (by rw [nI_clamp (by omega), hgj m (by omega), show u - (m + 1) + m = u - 1 by omega]; exact hJ.sq.sx) dL_undone_421 (rfl : _ = 422) ?_
      refine V_lcmp Y.1 dL_undone_422 (rfl : _ = 423) ?_
      refine V_if_eq Y.1 (tgt := 428) dL_undone_423 (by decide) (rfl : _ = 426) (fun _ => ?_) (fun c_n => absurd (lg_self _) c_n)
      refine V_iinc Y.1 (v := (nI m - 1)) (ls' := [(4, _), (3, _), (2, _), (1, _), (0, _)]) 0 dL_undone_428 (rfl : _ = 431) rfl (dec_m1 _) (by decide) rfl ?_
      refine V_goto Y.1 (tgt := 402) dL_undone_431 (by decide) ?_
      exact V_forget (ls' := [(4, _), (3, _), (2, _), (1, _), (0, _)]) [0, 1, 2, 3, 4] rfl (V_widen (by omega) (by omega) (ih _ g M2 _ n2 t2 q (u - 1) p ns hJ hs hq (by omega) (by omega) (fun j hj => by rw [hgj j (by omega), show u - 1 - m + j = u - (m + 1) + j by omega])))
  have loopA : ∀ (r i d : Nat) (H : Heap) (g : Nat → Int64) (M : MS) (s : Nat → Int32) (n t q u : Nat) (p : Nat → Nat → Int32) (ns : Nat), i + r = 7 → d ≤ i → Lw D kA Hs H a M s n t q u p no go ns (fun x => x = q_2) → hp D H q_2 (eL kA 9 g) → q ≤ 500 + 61 * i → d ≤ u → (∀ j, j < d → g j = SX (p (u - d + j))) → V Pp l Ee (rmO 13 264 20000 200000) Ss Mm Ar Bl Me Cc 8 (AA H0 (fun q => Hs.size ≤ q)) (QC Bl Ar Ss 20000 200000 H0 (fun q => Hs.size ≤ q) (pI fun v9 H => v9 = 1)) H (1 + 1800 * i) (9 + 20000 * i) 10 [(4, .int (nI i)), (3, .int (nI d)), (2, .ref q_2), (1, .ref a), (0, .ref sa)] [] := by
    intro r
    induction r with
    | zero =>
      intro i d H g M s n t q u p ns hr hdi hJ hs hq hdu hgj
      obtain rfl : i = 7 := by omega
      refine V_iload Y.1 0 dL_undone_10 (rfl : _ = 12) rfl ?_
      refine V_bipush Y.1 (v := 7) dL_undone_12 (rfl : _ = 14) (by decide) ?_
      refine V_icmp_ge Y.1 (tgt := 397) dL_undone_14 (by decide) (rfl : _ = 17) (fun _ => ?_) (fun c_n => absurd (by decide) c_n)
      refine V_iload_n Y.1 1 dL_undone_397 (rfl : _ = 398) rfl rfl ?_
      refine V_iconst Y.1 (v := 1) dL_undone_398 (rfl : _ = 399) (by decide) ?_
      refine V_isub Y.1 dL_undone_399 (rfl : _ = 400) ?_
      refine V_istore Y.1 (ls' := [(4, _), (3, _), (2, _), (1, _), (0, _)]) dL_undone_400 (rfl : _ = 402) (by decide) rfl ?_
      exact V_forget (ls' := [(4, _), (3, _), (2, _), (1, _), (0, _)]) [0, 1, 2, 3, 4] rfl (V_widen (by omega) (by omega) (loopB _ d _ g M s n t q u p ns hJ hs (by omega) hdu (by omega) hgj))
    | succ r ih =>
      intro i d H g M s n t q u p ns hr hdi hJ hs hq hdu hgj
      have hu8 := hJ.u8
      have esx := hJ.sq.sx
      have k360 : ∀ (H : Heap) (v x5 x6 : Int32), Oc D kA Hs H a s n t q u p no go (fun x => x = q_2) v → hp D H q_2 (eL kA 9 (vp_updL g d (SR s n t))) → V Pp l Ee (rmO 13 264 20000 200000) Ss Mm Ar Bl Me Cc 8 (AA H0 (fun q => Hs.size ≤ q)) (QC Bl Ar Ss 20000 200000 H0 (fun q => Hs.size ≤ q) (pI fun v9 H => v9 = 1)) H (1 + 1800 * i + 980) (9 + 20000 * i + 14200) 360 [(7, .int v), (6, .int x6), (5, .int x5), (4, .int (nI i)), (3, .int (nI d)), (2, .ref q_2), (1, .ref a), (0, .ref sa)] [] := by
        intro H v x5 x6 hK hs
        rcases hK with ⟨hv, M2, s2, n2, t2, ns2, hJ⟩ | ⟨hv, M2, ns2, hJ⟩
        · have hd9 : d ≤ 6 := by omega
          refine V_iload Y.1 0 dL_undone_360 (rfl : _ = 362) rfl ?_
          refine V_if_ge Y.1 (tgt := 378) dL_undone_362 (by decide) (rfl : _ = 365) (fun _ => ?_) (fun c_n => absurd (Int32.not_lt.mp hv) c_n)
          refine V_iload_n Y.1 4 dL_undone_378 (rfl : _ = 379) rfl rfl ?_
          refine V_iload Y.1 0 dL_undone_379 (rfl : _ = 381) rfl ?_
          refine V_if_ge Y.1 (tgt := 388) dL_undone_381 (by decide) (rfl : _ = 384) (fun _ => ?_) (fun c_n => absurd (Int32.not_lt.mp hv) c_n)
          refine V_iconst Y.1 (v := 1) dL_undone_388 (rfl : _ = 389) (by decide) ?_
          refine V_iadd Y.1 dL_undone_389 (rfl : _ = 390) ?_
          refine V_nm (v := nI (d + 1)) (nI_add d 1) ?_
          refine V_istore_n Y.1 (ls' := [(3, _), (7, _), (6, _), (5, _), (4, _), (2, _), (1, _), (0, _)]) dL_undone_390 (rfl : _ = 391) rfl (by decide) rfl ?_
          refine V_iinc Y.1 (v := nI (i + 1)) (ls' := [(4, _), (3, _), (7, _), (6, _), (5, _), (2, _), (1, _), (0, _)]) 4 dL_undone_391 (rfl : _ = 394) rfl (nI_add _ 1) (by decide) rfl ?_
          refine V_goto Y.1 (tgt := 10) dL_undone_394 (by decide) ?_
          exact V_forget (ls' := [(4, _), (3, _), (2, _), (1, _), (0, _)]) [0, 1, 5, 6, 7] rfl (V_widen (by omega) (by omega) (ih (i + 1) (d + 1) _ _ M2 s2 n2 t2 (q + 61) (p_u u) (p_ph p s u) ns2 (by omega) (by omega) hJ hs (by omega) (hi_u hu8 hdu (by omega)) (hi_push hu8 hdu (by omega) esx hgj)))
        · refine V_iload Y.1 0 dL_undone_360 (rfl : _ = 362) rfl ?_
          refine V_if_ge Y.1 (tgt := 378) dL_undone_362 (by decide) (rfl : _ = 365) (fun c_n => absurd c_n (Int32.not_le.mpr hv)) (fun _ => ?_)
          refine V_aload_n Y.1 6 dL_undone_365 (rfl : _ = 366) rfl rfl ?_
          refine V_cL Y (sS Z (c_L_sum l D kA Hs σ _ hJ.ag a M2 s n t q u p no go ns2 (fun x => x = q_2) hJ hnt) mi_L_sum si_L_365 rfl rfl (Nat.le_of_ble_eq_true rfl) ⟨Nat.le_of_ble_eq_true rfl, Nat.le_of_ble_eq_true rfl⟩ (by show _ ≤ 20000; omega) (by show _ ≤ 200000; omega) dL_undone_366) (fun _ z => z.elim) (rfl : _ = 369) (fun v_366 H366_3 hq_366 o_366 => ?_)
          obtain rfl := hq_366
          have hJ := hJ.new o_366
          have hs := hs.off o_366 id
          refine V_aload_n Y.1 5 dL_undone_369 (rfl : _ = 370) rfl rfl ?_
          refine V_iload_n Y.1 4 dL_undone_370 (rfl : _ = 371) rfl rfl ?_
          refine V_lald Y.1 (v := (SR s n t)) hs (vp_in_nI (by omega) (by decide)) (by rw [nI_clamp (by omega)]; exact pk_uLs) dL_undone_371 (rfl : _ = 372) ?_
          refine V_lcmp Y.1 dL_undone_372 (rfl : _ = 373) ?_
          refine V_if_eq Y.1 (tgt := 378) dL_undone_373 (by decide) (rfl : _ = 376) (fun _ => ?_) (fun c_n => absurd (lg_self _) c_n)
          refine V_iload_n Y.1 4 dL_undone_378 (rfl : _ = 379) rfl rfl ?_
          refine V_iload Y.1 0 dL_undone_379 (rfl : _ = 381) rfl ?_
          refine V_if_ge Y.1 (tgt := 388) dL_undone_381 (by decide) (rfl : _ = 384) (fun c_n => absurd c_n (Int32.not_le.mpr hv)) (fun _ => ?_)
          refine V_iconst Y.1 (v := 0) dL_undone_384 (rfl : _ = 385) (by decide) ?_
          refine V_goto Y.1 (tgt := 389) dL_undone_385 (by decide) ?_
          refine V_iadd Y.1 dL_undone_389 (rfl : _ = 390) ?_
          refine V_nm (v := nI d) (nI_add d 0) ?_
          refine V_istore_n Y.1 (ls' := [(3, _), (7, _), (6, _), (5, _), (4, _), (2, _), (1, _), (0, _)]) dL_undone_390 (rfl : _ = 391) rfl (by decide) rfl ?_
          refine V_iinc Y.1 (v := nI (i + 1)) (ls' := [(4, _), (3, _), (7, _), (6, _), (5, _), (2, _), (1, _), (0, _)]) 4 dL_undone_391 (rfl : _ = 394) rfl (nI_add _ 1) (by decide) rfl ?_
          refine V_goto Y.1 (tgt := 10) dL_undone_394 (by decide) ?_
          exact V_forget (ls' := [(4, _), (3, _), (2, _), (1, _), (0, _)]) [0, 1, 5, 6, 7] rfl (V_widen (by omega) (by omega) (ih (i + 1) d _ _ M2 s n t q u p ns2 (by omega) (by omega) hJ hs (by omega) hdu (fun j hj => (pk_uLn (by omega)).trans (hgj j hj))))
      have kinds : ∀ (H : Heap) (c9 e m : Nat), e < 2 ^ 31 → m < 10 → Lw D kA Hs H a M s n t q u p no go ns (fun x => x = q_2) → hp D H q_2 (eL kA 9 (vp_updL g d (SR s n t))) → V Pp l Ee (rmO 13 264 20000 200000) Ss Mm Ar Bl Me Cc 8 (AA H0 (fun q => Hs.size ≤ q)) (QC Bl Ar Ss 20000 200000 H0 (fun q => Hs.size ≤ q) (pI fun v9 H => v9 = 1)) H (1 + 1800 * i + 800) (9 + 20000 * i + 4800) 48 [(6, .int (nI e)), (5, .int (nI c9)), (4, .int (nI i)), (3, .int (nI d)), (2, .ref q_2), (1, .ref a), (0, .ref sa)] [.int (nI m)] := by
        intro H c9 e m he hm hJ hs
        have hmm : m = 0 ∨ m = 1 ∨ m = 2 ∨ m = 3 ∨ m = 4 ∨ m = 5 ∨ m = 6 ∨ m = 7 ∨ m = 8 ∨ m = 9 := by omega
        rcases hmm with rfl | rfl | rfl | rfl | rfl | rfl | rfl | rfl | rfl | rfl
        · refine V_tableIn Y.1 (off := 52) (tgt := 100) dL_undone_48 (by decide) (by decide) (by decide) (by decide) ?_
          refine V_aload_n Y.1 5 dL_undone_100 (rfl : _ = 101) rfl rfl ?_
          refine V_iload Y.1 0 dL_undone_101 (rfl : _ = 103) rfl ?_
          refine V_iconst Y.1 (v := 2) dL_undone_103 (rfl : _ = 104) (by decide) ?_
          refine V_irem Y.1 dL_undone_104 (rfl : _ = 105) (by decide) ?_
          refine V_if_ne Y.1 (tgt := 112) dL_undone_105 (by decide) (rfl : _ = 108) (fun c_105 => ?_) (fun c_105 => ?_)
          · refine V_iconst Y.1 (v := 0) dL_undone_112 (rfl : _ = 113) (by decide) ?_
            refine V_cI Y (sW Z (c_U_issue l D kA Hs σ _ hJ.ag a M s n t q u p no go ns (fun x => x = q_2) 0 hJ hnt (by omega) (Or.inl rfl)) mh_L_issue si_L_152 rfl rfl (Nat.le_of_ble_eq_true rfl) ⟨Nat.le_of_ble_eq_true rfl, Nat.le_of_ble_eq_true rfl⟩ (by show _ ≤ 20000; omega) (by show _ ≤ 200000; omega) dL_undone_113) (fun q z => Or.inl z.1) (rfl : _ = 116) (fun v_113 H113_6 hq_113 o_113 => ?_)
            have hK := hq_113
            have hs := hs.off o_113 (fun z => z.2 rfl)
            refine V_istore Y.1 (ls' := [(7, _), (6, _), (5, _), (4, _), (3, _), (2, _), (1, _), (0, _)]) dL_undone_116 (rfl : _ = 118) (by decide) rfl ?_
            refine V_goto Y.1 (tgt := 360) dL_undone_118 (by decide) ?_
            exact V_forget (ls' := [(7, _), (6, _), (5, _), (4, _), (3, _), (2, _), (1, _), (0, _)]) [0, 1, 2, 3, 4, 5, 6, 7] rfl (V_widen (by omega) (by omega) (k360 _ _ _ _ hK hs))
          · refine V_iconst Y.1 (v := 1) dL_undone_108 (rfl : _ = 109) (by decide) ?_
            refine V_goto Y.1 (tgt := 113) dL_undone_109 (by decide) ?_
            refine V_cI Y (sW Z (c_U_issue l D kA Hs σ _ hJ.ag a M s n t q u p no go ns (fun x => x = q_2) 1 hJ hnt (by omega) (Or.inr rfl)) mh_L_issue si_L_152 rfl rfl (Nat.le_of_ble_eq_true rfl) ⟨Nat.le_of_ble_eq_true rfl, Nat.le_of_ble_eq_true rfl⟩ (by show _ ≤ 20000; omega) (by show _ ≤ 200000; omega) dL_undone_113) (fun q z => Or.inl z.1) (rfl : _ = 116) (fun v_113 H113_14 hq_113 o_113 => ?_)
            have hK := hq_113
            have hs := hs.off o_113 (fun z => z.2 rfl)
            refine V_istore Y.1 (ls' := [(7, _), (6, _), (5, _), (4, _), (3, _), (2, _), (1, _), (0, _)]) dL_undone_116 (rfl : _ = 118) (by decide) rfl ?_
            refine V_goto Y.1 (tgt := 360) dL_undone_118 (by decide) ?_
            exact V_forget (ls' := [(7, _), (6, _), (5, _), (4, _), (3, _), (2, _), (1, _), (0, _)]) [0, 1, 2, 3, 4, 5, 6, 7] rfl (V_widen (by omega) (by omega) (k360 _ _ _ _ hK hs))
        · refine V_tableIn Y.1 (off := 73) (tgt := 121) dL_undone_48 (by decide) (by decide) (by decide) (by decide) ?_
          refine V_aload_n Y.1 5 dL_undone_121 (rfl : _ = 122) rfl rfl ?_
          refine V_iload Y.1 0 dL_undone_122 (rfl : _ = 124) rfl ?_
          refine V_bipush Y.1 (v := 9) dL_undone_124 (rfl : _ = 126) (by decide) ?_
          refine V_irem Y.1 dL_undone_126 (rfl : _ = 127) (by decide) ?_
          refine V_nm (v := nI (e % 9)) (pk_rem (d := 9) (by omega) (by omega) (by omega)) ?_
          refine V_iload Y.1 0 dL_undone_127 (rfl : _ = 129) rfl ?_
          refine V_iconst Y.1 (v := 4) dL_undone_129 (rfl : _ = 130) (by decide) ?_
          refine V_iushr Y.1 dL_undone_130 (rfl : _ = 131) rfl ?_
          refine V_nm (v := nI (e / 16)) (pk_ushrN (by omega) 4 4 (by decide)) ?_
          refine V_sipush Y.1 (v := 10001) dL_undone_131 (rfl : _ = 134) (by decide) ?_
          refine V_irem Y.1 dL_undone_134 (rfl : _ = 135) (by decide) ?_
          refine V_nm (v := nI (e / 16 % 10001)) (pk_rem (d := 10001) (by omega) (by omega) (by omega)) ?_
          refine V_cI Y (sW Z (c_U_load l D kA Hs σ _ hJ.ag a M s n t q u p no go ns (fun x => x = q_2) _ _ hJ hnt (by omega)) mh_L_load si_L_156 rfl rfl (Nat.le_of_ble_eq_true rfl) ⟨Nat.le_of_ble_eq_true rfl, Nat.le_of_ble_eq_true rfl⟩ (by show _ ≤ 20000; omega) (by show _ ≤ 200000; omega) dL_undone_135) (fun q z => Or.inl z.1) (rfl : _ = 138) (fun v_135 H135_12 hq_135 o_135 => ?_)
          have hK := hq_135
          have hs := hs.off o_135 (fun z => z.2 rfl)
          refine V_sipush Y.1 (v := 30000) dL_undone_138 (rfl : _ = 141) (by decide) ?_
          refine V_iadd Y.1 dL_undone_141 (rfl : _ = 142) ?_
          refine V_istore Y.1 (ls' := [(7, _), (6, _), (5, _), (4, _), (3, _), (2, _), (1, _), (0, _)]) dL_undone_142 (rfl : _ = 144) (by decide) rfl ?_
          refine V_goto Y.1 (tgt := 360) dL_undone_144 (by decide) ?_
          exact V_forget (ls' := [(7, _), (6, _), (5, _), (4, _), (3, _), (2, _), (1, _), (0, _)]) [0, 1, 2, 3, 4, 5, 6, 7] rfl (V_widen (by omega) (by omega) (k360 _ _ _ _ hK hs))
        · refine V_tableIn Y.1 (off := 99) (tgt := 147) dL_undone_48 (by decide) (by decide) (by decide) (by decide) ?_
          refine V_aload_n Y.1 5 dL_undone_147 (rfl : _ = 148) rfl rfl ?_
          refine V_iload Y.1 0 dL_undone_148 (rfl : _ = 150) rfl ?_
          refine V_bipush Y.1 (v := 6) dL_undone_150 (rfl : _ = 152) (by decide) ?_
          refine V_irem Y.1 dL_undone_152 (rfl : _ = 153) (by decide) ?_
          refine V_nm (v := nI (e % 6)) (pk_rem (d := 6) (by omega) (by omega) (by omega)) ?_
          refine V_iload Y.1 0 dL_undone_153 (rfl : _ = 155) rfl ?_
          refine V_iconst Y.1 (v := 3) dL_undone_155 (rfl : _ = 156) (by decide) ?_
          refine V_iushr Y.1 dL_undone_156 (rfl : _ = 157) rfl ?_
          refine V_nm (v := nI (e / 8)) (pk_ushrN (by omega) 3 3 (by decide)) ?_
          refine V_bipush Y.1 (v := 13) dL_undone_157 (rfl : _ = 159) (by decide) ?_
          refine V_irem Y.1 dL_undone_159 (rfl : _ = 160) (by decide) ?_
          refine V_nm (v := nI (e / 8 % 13)) (pk_rem (d := 13) (by omega) (by omega) (by omega)) ?_
          refine V_cI Y (sW Z (c_U_tapIn l D kA Hs σ _ hJ.ag a M s n t q u p no go ns (fun x => x = q_2) _ _ hJ hnt (by omega)) mh_L_tapIn si_L_163 rfl rfl (Nat.le_of_ble_eq_true rfl) ⟨Nat.le_of_ble_eq_true rfl, Nat.le_of_ble_eq_true rfl⟩ (by show _ ≤ 20000; omega) (by show _ ≤ 200000; omega) dL_undone_160) (fun q z => Or.inl z.1) (rfl : _ = 163) (fun v_160 H160_12 hq_160 o_160 => ?_)
          have hK := hq_160
          have hs := hs.off o_160 (fun z => z.2 rfl)
          refine V_istore Y.1 (ls' := [(7, _), (6, _), (5, _), (4, _), (3, _), (2, _), (1, _), (0, _)]) dL_undone_163 (rfl : _ = 165) (by decide) rfl ?_
          refine V_goto Y.1 (tgt := 360) dL_undone_165 (by decide) ?_
          exact V_forget (ls' := [(7, _), (6, _), (5, _), (4, _), (3, _), (2, _), (1, _), (0, _)]) [0, 1, 2, 3, 4, 5, 6, 7] rfl (V_widen (by omega) (by omega) (k360 _ _ _ _ hK hs))
        · refine V_tableIn Y.1 (off := 99) (tgt := 147) dL_undone_48 (by decide) (by decide) (by decide) (by decide) ?_
          refine V_aload_n Y.1 5 dL_undone_147 (rfl : _ = 148) rfl rfl ?_
          refine V_iload Y.1 0 dL_undone_148 (rfl : _ = 150) rfl ?_
          refine V_bipush Y.1 (v := 6) dL_undone_150 (rfl : _ = 152) (by decide) ?_
          refine V_irem Y.1 dL_undone_152 (rfl : _ = 153) (by decide) ?_
          refine V_nm (v := nI (e % 6)) (pk_rem (d := 6) (by omega) (by omega) (by omega)) ?_
          refine V_iload Y.1 0 dL_undone_153 (rfl : _ = 155) rfl ?_
          refine V_iconst Y.1 (v := 3) dL_undone_155 (rfl : _ = 156) (by decide) ?_
          refine V_iushr Y.1 dL_undone_156 (rfl : _ = 157) rfl ?_
          refine V_nm (v := nI (e / 8)) (pk_ushrN (by omega) 3 3 (by decide)) ?_
          refine V_bipush Y.1 (v := 13) dL_undone_157 (rfl : _ = 159) (by decide) ?_
          refine V_irem Y.1 dL_undone_159 (rfl : _ = 160) (by decide) ?_
          refine V_nm (v := nI (e / 8 % 13)) (pk_rem (d := 13) (by omega) (by omega) (by omega)) ?_
          refine V_cI Y (sW Z (c_U_tapIn l D kA Hs σ _ hJ.ag a M s n t q u p no go ns (fun x => x = q_2) _ _ hJ hnt (by omega)) mh_L_tapIn si_L_163 rfl rfl (Nat.le_of_ble_eq_true rfl) ⟨Nat.le_of_ble_eq_true rfl, Nat.le_of_ble_eq_true rfl⟩ (by show _ ≤ 20000; omega) (by show _ ≤ 200000; omega) dL_undone_160) (fun q z => Or.inl z.1) (rfl : _ = 163) (fun v_160 H160_12 hq_160 o_160 => ?_)
          have hK := hq_160
          have hs := hs.off o_160 (fun z => z.2 rfl)
          refine V_istore Y.1 (ls' := [(7, _), (6, _), (5, _), (4, _), (3, _), (2, _), (1, _), (0, _)]) dL_undone_163 (rfl : _ = 165) (by decide) rfl ?_
          refine V_goto Y.1 (tgt := 360) dL_undone_165 (by decide) ?_
          exact V_forget (ls' := [(7, _), (6, _), (5, _), (4, _), (3, _), (2, _), (1, _), (0, _)]) [0, 1, 2, 3, 4, 5, 6, 7] rfl (V_widen (by omega) (by omega) (k360 _ _ _ _ hK hs))
        · refine V_tableIn Y.1 (off := 120) (tgt := 168) dL_undone_48 (by decide) (by decide) (by decide) (by decide) ?_
          refine V_aload_n Y.1 5 dL_undone_168 (rfl : _ = 169) rfl rfl ?_
          refine V_iload Y.1 0 dL_undone_169 (rfl : _ = 171) rfl ?_
          refine V_bipush Y.1 (v := 6) dL_undone_171 (rfl : _ = 173) (by decide) ?_
          refine V_irem Y.1 dL_undone_173 (rfl : _ = 174) (by decide) ?_
          refine V_nm (v := nI (e % 6)) (pk_rem (d := 6) (by omega) (by omega) (by omega)) ?_
          refine V_iload Y.1 0 dL_undone_174 (rfl : _ = 176) rfl ?_
          refine V_iconst Y.1 (v := 3) dL_undone_176 (rfl : _ = 177) (by decide) ?_
          refine V_iushr Y.1 dL_undone_177 (rfl : _ = 178) rfl ?_
          refine V_nm (v := nI (e / 8)) (pk_ushrN (by omega) 3 3 (by decide)) ?_
          refine V_bipush Y.1 (v := 13) dL_undone_178 (rfl : _ = 180) (by decide) ?_
          refine V_irem Y.1 dL_undone_180 (rfl : _ = 181) (by decide) ?_
          refine V_nm (v := nI (e / 8 % 13)) (pk_rem (d := 13) (by omega) (by omega) (by omega)) ?_
          refine V_cI Y (sW Z (c_U_tapOut l D kA Hs σ _ hJ.ag a M s n t q u p no go ns (fun x => x = q_2) _ _ hJ hnt (by omega)) mh_L_tapOut si_L_165 rfl rfl (Nat.le_of_ble_eq_true rfl) ⟨Nat.le_of_ble_eq_true rfl, Nat.le_of_ble_eq_true rfl⟩ (by show _ ≤ 20000; omega) (by show _ ≤ 200000; omega) dL_undone_181) (fun q z => Or.inl z.1) (rfl : _ = 184) (fun v_181 H181_12 hq_181 o_181 => ?_)
          have hK := hq_181
          have hs := hs.off o_181 (fun z => z.2 rfl)
          refine V_istore Y.1 (ls' := [(7, _), (6, _), (5, _), (4, _), (3, _), (2, _), (1, _), (0, _)]) dL_undone_184 (rfl : _ = 186) (by decide) rfl ?_
          refine V_goto Y.1 (tgt := 360) dL_undone_186 (by decide) ?_
          exact V_forget (ls' := [(7, _), (6, _), (5, _), (4, _), (3, _), (2, _), (1, _), (0, _)]) [0, 1, 2, 3, 4, 5, 6, 7] rfl (V_widen (by omega) (by omega) (k360 _ _ _ _ hK hs))
        · refine V_tableIn Y.1 (off := 120) (tgt := 168) dL_undone_48 (by decide) (by decide) (by decide) (by decide) ?_
          refine V_aload_n Y.1 5 dL_undone_168 (rfl : _ = 169) rfl rfl ?_
          refine V_iload Y.1 0 dL_undone_169 (rfl : _ = 171) rfl ?_
          refine V_bipush Y.1 (v := 6) dL_undone_171 (rfl : _ = 173) (by decide) ?_
          refine V_irem Y.1 dL_undone_173 (rfl : _ = 174) (by decide) ?_
          refine V_nm (v := nI (e % 6)) (pk_rem (d := 6) (by omega) (by omega) (by omega)) ?_
          refine V_iload Y.1 0 dL_undone_174 (rfl : _ = 176) rfl ?_
          refine V_iconst Y.1 (v := 3) dL_undone_176 (rfl : _ = 177) (by decide) ?_
          refine V_iushr Y.1 dL_undone_177 (rfl : _ = 178) rfl ?_
          refine V_nm (v := nI (e / 8)) (pk_ushrN (by omega) 3 3 (by decide)) ?_
          refine V_bipush Y.1 (v := 13) dL_undone_178 (rfl : _ = 180) (by decide) ?_
          refine V_irem Y.1 dL_undone_180 (rfl : _ = 181) (by decide) ?_
          refine V_nm (v := nI (e / 8 % 13)) (pk_rem (d := 13) (by omega) (by omega) (by omega)) ?_
          refine V_cI Y (sW Z (c_U_tapOut l D kA Hs σ _ hJ.ag a M s n t q u p no go ns (fun x => x = q_2) _ _ hJ hnt (by omega)) mh_L_tapOut si_L_165 rfl rfl (Nat.le_of_ble_eq_true rfl) ⟨Nat.le_of_ble_eq_true rfl, Nat.le_of_ble_eq_true rfl⟩ (by show _ ≤ 20000; omega) (by show _ ≤ 200000; omega) dL_undone_181) (fun q z => Or.inl z.1) (rfl : _ = 184) (fun v_181 H181_12 hq_181 o_181 => ?_)
          have hK := hq_181
          have hs := hs.off o_181 (fun z => z.2 rfl)
          refine V_istore Y.1 (ls' := [(7, _), (6, _), (5, _), (4, _), (3, _), (2, _), (1, _), (0, _)]) dL_undone_184 (rfl : _ = 186) (by decide) rfl ?_
          refine V_goto Y.1 (tgt := 360) dL_undone_186 (by decide) ?_
          exact V_forget (ls' := [(7, _), (6, _), (5, _), (4, _), (3, _), (2, _), (1, _), (0, _)]) [0, 1, 2, 3, 4, 5, 6, 7] rfl (V_widen (by omega) (by omega) (k360 _ _ _ _ hK hs))
        · refine V_tableIn Y.1 (off := 141) (tgt := 189) dL_undone_48 (by decide) (by decide) (by decide) (by decide) ?_
          refine V_aload_n Y.1 5 dL_undone_189 (rfl : _ = 190) rfl rfl ?_
          refine V_iload Y.1 0 dL_undone_190 (rfl : _ = 192) rfl ?_
          refine V_bipush Y.1 (v := 6) dL_undone_192 (rfl : _ = 194) (by decide) ?_
          refine V_irem Y.1 dL_undone_194 (rfl : _ = 195) (by decide) ?_
          refine V_nm (v := nI (e % 6)) (pk_rem (d := 6) (by omega) (by omega) (by omega)) ?_
          refine V_iload Y.1 0 dL_undone_195 (rfl : _ = 197) rfl ?_
          refine V_iconst Y.1 (v := 3) dL_undone_197 (rfl : _ = 198) (by decide) ?_
          refine V_iushr Y.1 dL_undone_198 (rfl : _ = 199) rfl ?_
          refine V_nm (v := nI (e / 8)) (pk_ushrN (by omega) 3 3 (by decide)) ?_
          refine V_bipush Y.1 (v := 13) dL_undone_199 (rfl : _ = 201) (by decide) ?_
          refine V_irem Y.1 dL_undone_201 (rfl : _ = 202) (by decide) ?_
          refine V_nm (v := nI (e / 8 % 13)) (pk_rem (d := 13) (by omega) (by omega) (by omega)) ?_
          refine V_cI Y (sW Z (c_U_repair l D kA Hs σ _ hJ.ag a M s n t q u p no go ns (fun x => x = q_2) _ _ hJ hnt (by omega)) mh_L_repair si_L_369 rfl rfl (Nat.le_of_ble_eq_true rfl) ⟨Nat.le_of_ble_eq_true rfl, Nat.le_of_ble_eq_true rfl⟩ (by show _ ≤ 20000; omega) (by show _ ≤ 200000; omega) dL_undone_202) (fun q z => Or.inl z.1) (rfl : _ = 205) (fun v_202 H202_12 hq_202 o_202 => ?_)
          have hK := hq_202
          have hs := hs.off o_202 (fun z => z.2 rfl)
          refine V_istore Y.1 (ls' := [(7, _), (6, _), (5, _), (4, _), (3, _), (2, _), (1, _), (0, _)]) dL_undone_205 (rfl : _ = 207) (by decide) rfl ?_
          refine V_goto Y.1 (tgt := 360) dL_undone_207 (by decide) ?_
          exact V_forget (ls' := [(7, _), (6, _), (5, _), (4, _), (3, _), (2, _), (1, _), (0, _)]) [0, 1, 2, 3, 4, 5, 6, 7] rfl (V_widen (by omega) (by omega) (k360 _ _ _ _ hK hs))
        · refine V_tableIn Y.1 (off := 162) (tgt := 210) dL_undone_48 (by decide) (by decide) (by decide) (by decide) ?_
          refine V_iload Y.1 0 dL_undone_210 (rfl : _ = 212) rfl ?_
          refine V_iconst Y.1 (v := 2) dL_undone_212 (rfl : _ = 213) (by decide) ?_
          refine V_irem Y.1 dL_undone_213 (rfl : _ = 214) (by decide) ?_
          refine V_nm (v := nI (e % 2)) (pk_rem (d := 2) (by omega) (by omega) (by omega)) ?_
          refine V_if_ne Y.1 (tgt := 238) dL_undone_214 (by decide) (rfl : _ = 217) (fun c_214 => ?_) (fun c_214 => ?_)
          · refine V_aload_n Y.1 5 dL_undone_238 (rfl : _ = 239) rfl rfl ?_
            refine V_iload Y.1 0 dL_undone_239 (rfl : _ = 241) rfl ?_
            refine V_iconst Y.1 (v := 1) dL_undone_241 (rfl : _ = 242) (by decide) ?_
            refine V_iushr Y.1 dL_undone_242 (rfl : _ = 243) rfl ?_
            refine V_nm (v := nI (e / 2)) (pk_ushrN (by omega) 1 1 (by decide)) ?_
            refine V_sipush Y.1 (v := 1001) dL_undone_243 (rfl : _ = 246) (by decide) ?_
            refine V_irem Y.1 dL_undone_246 (rfl : _ = 247) (by decide) ?_
            refine V_nm (v := nI (e / 2 % 1001)) (pk_rem (d := 1001) (by omega) (by omega) (by omega)) ?_
            refine V_iload Y.1 0 dL_undone_247 (rfl : _ = 249) rfl ?_
            refine V_bipush Y.1 (v := 11) dL_undone_249 (rfl : _ = 251) (by decide) ?_
            refine V_iushr Y.1 dL_undone_251 (rfl : _ = 252) rfl ?_
            refine V_nm (v := nI (e / 2048)) (pk_ushrN (by omega) 11 11 (by decide)) ?_
            refine V_bipush Y.1 (v := 101) dL_undone_252 (rfl : _ = 254) (by decide) ?_
            refine V_irem Y.1 dL_undone_254 (rfl : _ = 255) (by decide) ?_
            refine V_nm (v := nI (e / 2048 % 101)) (pk_rem (d := 101) (by omega) (by omega) (by omega)) ?_
            refine V_cI Y (sW Z (c_U_setFares l D kA Hs σ _ hJ.ag a M s n t q u p no go ns (fun x => x = q_2) _ _ hJ hnt (by omega)) mh_L_setFares si_L_159 rfl rfl (Nat.le_of_ble_eq_true rfl) ⟨Nat.le_of_ble_eq_true rfl, Nat.le_of_ble_eq_true rfl⟩ (by show _ ≤ 20000; omega) (by show _ ≤ 200000; omega) dL_undone_255) (fun q z => Or.inl z.1) (rfl : _ = 258) (fun v_255 H255_20 hq_255 o_255 => ?_)
            have hK := hq_255
            have hs := hs.off o_255 (fun z => z.2 rfl)
            refine V_istore Y.1 (ls' := [(7, _), (6, _), (5, _), (4, _), (3, _), (2, _), (1, _), (0, _)]) dL_undone_258 (rfl : _ = 260) (by decide) rfl ?_
            refine V_goto Y.1 (tgt := 360) dL_undone_260 (by decide) ?_
            exact V_forget (ls' := [(7, _), (6, _), (5, _), (4, _), (3, _), (2, _), (1, _), (0, _)]) [0, 1, 2, 3, 4, 5, 6, 7] rfl (V_widen (by omega) (by omega) (k360 _ _ _ _ hK hs))
          · refine V_aload_n Y.1 5 dL_undone_217 (rfl : _ = 218) rfl rfl ?_
            refine V_iload Y.1 0 dL_undone_218 (rfl : _ = 220) rfl ?_
            refine V_iconst Y.1 (v := 1) dL_undone_220 (rfl : _ = 221) (by decide) ?_
            refine V_iushr Y.1 dL_undone_221 (rfl : _ = 222) rfl ?_
            refine V_nm (v := nI (e / 2)) (pk_ushrN (by omega) 1 1 (by decide)) ?_
            refine V_bipush Y.1 (v := 13) dL_undone_222 (rfl : _ = 224) (by decide) ?_
            refine V_irem Y.1 dL_undone_224 (rfl : _ = 225) (by decide) ?_
            refine V_nm (v := nI (e / 2 % 13)) (pk_rem (d := 13) (by omega) (by omega) (by omega)) ?_
            refine V_iload Y.1 0 dL_undone_225 (rfl : _ = 227) rfl ?_
            refine V_iconst Y.1 (v := 5) dL_undone_227 (rfl : _ = 228) (by decide) ?_
            refine V_iushr Y.1 dL_undone_228 (rfl : _ = 229) rfl ?_
            refine V_nm (v := nI (e / 32)) (pk_ushrN (by omega) 5 5 (by decide)) ?_
            refine V_bipush Y.1 (v := 8) dL_undone_229 (rfl : _ = 231) (by decide) ?_
            refine V_irem Y.1 dL_undone_231 (rfl : _ = 232) (by decide) ?_
            refine V_nm (v := nI (e / 32 % 8)) (pk_rem (d := 8) (by omega) (by omega) (by omega)) ?_
            refine V_cI Y (sW Z (c_U_setZone l D kA Hs σ _ hJ.ag a M s n t q u p no go ns (fun x => x = q_2) _ _ hJ hnt (by omega)) mh_L_setZone si_L_161 rfl rfl (Nat.le_of_ble_eq_true rfl) ⟨Nat.le_of_ble_eq_true rfl, Nat.le_of_ble_eq_true rfl⟩ (by show _ ≤ 20000; omega) (by show _ ≤ 200000; omega) dL_undone_232) (fun q z => Or.inl z.1) (rfl : _ = 235) (fun v_232 H232_41 hq_232 o_232 => ?_)
            have hK := hq_232
            have hs := hs.off o_232 (fun z => z.2 rfl)
            refine V_goto Y.1 (tgt := 258) dL_undone_235 (by decide) ?_
            refine V_istore Y.1 (ls' := [(7, _), (6, _), (5, _), (4, _), (3, _), (2, _), (1, _), (0, _)]) dL_undone_258 (rfl : _ = 260) (by decide) rfl ?_
            refine V_goto Y.1 (tgt := 360) dL_undone_260 (by decide) ?_
            exact V_forget (ls' := [(7, _), (6, _), (5, _), (4, _), (3, _), (2, _), (1, _), (0, _)]) [0, 1, 2, 3, 4, 5, 6, 7] rfl (V_widen (by omega) (by omega) (k360 _ _ _ _ hK hs))
        · refine V_tableIn Y.1 (off := 215) (tgt := 263) dL_undone_48 (by decide) (by decide) (by decide) (by decide) ?_
          refine V_aload_n Y.1 5 dL_undone_263 (rfl : _ = 264) rfl rfl ?_
          refine V_iload Y.1 0 dL_undone_264 (rfl : _ = 266) rfl ?_
          refine V_sipush Y.1 (v := 2002) dL_undone_266 (rfl : _ = 269) (by decide) ?_
          refine V_irem Y.1 dL_undone_269 (rfl : _ = 270) (by decide) ?_
          refine V_nm (v := nI (e % 2002)) (pk_rem (d := 2002) (by omega) (by omega) (by omega)) ?_
          refine V_cI Y (sW Z (c_U_advance l D kA Hs σ _ hJ.ag a M s n t q u p no go ns (fun x => x = q_2) _ hJ hnt (by omega)) mh_L_advance si_L_167 rfl rfl (Nat.le_of_ble_eq_true rfl) ⟨Nat.le_of_ble_eq_true rfl, Nat.le_of_ble_eq_true rfl⟩ (by show _ ≤ 20000; omega) (by show _ ≤ 200000; omega) dL_undone_270) (fun q z => Or.inl z.1) (rfl : _ = 273) (fun v_270 H270_5 hq_270 o_270 => ?_)
          have hK := hq_270
          have hs := hs.off o_270 (fun z => z.2 rfl)
          refine V_istore Y.1 (ls' := [(7, _), (6, _), (5, _), (4, _), (3, _), (2, _), (1, _), (0, _)]) dL_undone_273 (rfl : _ = 275) (by decide) rfl ?_
          refine V_goto Y.1 (tgt := 360) dL_undone_275 (by decide) ?_
          exact V_forget (ls' := [(7, _), (6, _), (5, _), (4, _), (3, _), (2, _), (1, _), (0, _)]) [0, 1, 2, 3, 4, 5, 6, 7] rfl (V_widen (by omega) (by omega) (k360 _ _ _ _ hK hs))
        · refine V_tableOut Y.1 (tgt := 278) dL_undone_48 (Or.inr (by decide)) (by decide) ?_
          refine V_aload_n Y.1 5 dL_undone_278 (rfl : _ = 279) rfl rfl ?_
          refine V_new Y.1 (ci := 1) (fs := [.null, .int 0, .int 0, .int 0]) rfl in_J4 tyJ4_ok cl_L_285 inst_J4 ini_J4 (by decide) (by show _ ≤ 20000; omega) (by show _ ≤ 200000; omega) dL_undone_279 (rfl : _ = 282) (fun H279_1 q_279 eq_279 z_279 h_new o_279 => ?_)
          have hB279 := h_new
          have o0 := (off.rf (F := nof) (H := H)).tr o_279
          have hJ1 := hJ.new o0
          have hbz := hJ.ag.1
          refine V_dup Y.1 dL_undone_282 (rfl : _ = 283) rfl ?_
          refine V_cV Y (sI Z (c_T_init l D kA Hs σ _ hJ1.ag q_279 q_279 _ hB279 rfl (by omega) (Nat.le_refl _)) mi_J4_init_da8c8 ii_L_287 rfl rfl (Nat.le_of_ble_eq_true rfl) ⟨Nat.le_of_ble_eq_true rfl, Nat.le_of_ble_eq_true rfl⟩ (by show _ ≤ 20000; omega) (by show _ ≤ 200000; omega) dL_undone_283) (fun q hq => Or.inl (show Hs.size ≤ q by omega)) (rfl : _ = 286) (fun H283_7 hq_283 o_283 => ?_)
          have hT := hq_283
          have o0 := o0.new0 o_283 (fun q hq => by omega)
          have hJ1 := hJ.new o0
          have la9 := sg_l3 (show 1 + e % 400 < 1000 by omega)
          have lb9 := sg_l1 (show e / 8 % 6 < 8 by omega)
          have lc9 := sg_l9 (show e / 64 % 13 < 100 by omega)
          have l5 : (byt "wait ").length = 5 := by decide +kernel
          have l4 : (byt ";in ").length = 4 := by decide +kernel
          have l14 : (byt " 3;wait 9;out ").length = 14 := by decide +kernel
          have l1 : (byt " ").length = 1 := by decide +kernel
          refine V_ldcwS Y (Z.2.1 _ x_w) dL_undone_286 (rfl : _ = 289) ?_
          refine V_cR Y (sV Z (c_T_appS l D kA Hs σ _ hJ1.ag _ _ _ _ _ _ hT (by omega) x_w (by simp only [List.length_append, List.length_nil, Nat.zero_add]; omega)) mi_J4_append_15ec4 vi_L_296 rfl hT.rcv.choose_spec rfl rfl (Nat.le_of_ble_eq_true rfl) ⟨Nat.le_of_ble_eq_true rfl, Nat.le_of_ble_eq_true rfl⟩ (by show _ ≤ 20000; omega) (by show _ ≤ 200000; omega) dL_undone_289) (fun q hq => Or.inl (show Hs.size ≤ q by omega)) (rfl : _ = 292) (fun v_289 H289_19 hq_289 o_289 => ?_)
          obtain ⟨e9, hT⟩ := hq_289
          have e9 := e9.symm
          subst e9
          have o0 := o0.new0 o_289 (fun q hq => by omega)
          have hJ1 := hJ.new o0
          refine V_iconst Y.1 (v := 1) dL_undone_292 (rfl : _ = 293) (by decide) ?_
          refine V_iload Y.1 0 dL_undone_293 (rfl : _ = 295) rfl ?_
          refine V_sipush Y.1 (v := 400) dL_undone_295 (rfl : _ = 298) (by decide) ?_
          refine V_irem Y.1 dL_undone_298 (rfl : _ = 299) (by decide) ?_
          refine V_nm (v := nI (e % 400)) (pk_rem (d := 400) (by omega) (by omega) (by omega)) ?_
          refine V_iadd Y.1 dL_undone_299 (rfl : _ = 300) ?_
          refine V_nm (v := nI (1 + e % 400)) (nI_add 1 _) ?_
          refine V_cR Y (sV Z (c_T_appI l D kA Hs σ _ hJ1.ag _ _ _ _ _ _ hT (by omega) (by rw [nI_toInt (by omega)]; omega) (by rw [nI_toInt (by omega)]; omega) (by simp only [List.length_append, List.length_nil, Nat.zero_add]; omega)) mi_J4_append_bf812 vi_L_288 rfl hT.rcv.choose_spec rfl rfl (Nat.le_of_ble_eq_true rfl) ⟨Nat.le_of_ble_eq_true rfl, Nat.le_of_ble_eq_true rfl⟩ (by show _ ≤ 20000; omega) (by show _ ≤ 200000; omega) dL_undone_300) (fun q hq => Or.inl (show Hs.size ≤ q by omega)) (rfl : _ = 303) (fun v_300 H300_32 hq_300 o_300 => ?_)
          obtain ⟨e9, hT⟩ := hq_300
          have e9 := e9.symm
          subst e9
          have o0 := o0.new0 o_300 (fun q hq => by omega)
          have hJ1 := hJ.new o0
          refine V_ldcwS Y (Z.2.1 _ x_i) dL_undone_303 (rfl : _ = 306) ?_
          refine V_cR Y (sV Z (c_T_appS l D kA Hs σ _ hJ1.ag _ _ _ _ _ _ hT (by omega) x_i (by simp only [List.length_append, List.length_nil, Nat.zero_add]; omega)) mi_J4_append_15ec4 vi_L_296 rfl hT.rcv.choose_spec rfl rfl (Nat.le_of_ble_eq_true rfl) ⟨Nat.le_of_ble_eq_true rfl, Nat.le_of_ble_eq_true rfl⟩ (by show _ ≤ 20000; omega) (by show _ ≤ 200000; omega) dL_undone_306) (fun q hq => Or.inl (show Hs.size ≤ q by omega)) (rfl : _ = 309) (fun v_306 H306_39 hq_306 o_306 => ?_)
          obtain ⟨e9, hT⟩ := hq_306
          have e9 := e9.symm
          subst e9
          have o0 := o0.new0 o_306 (fun q hq => by omega)
          have hJ1 := hJ.new o0
          refine V_iload Y.1 0 dL_undone_309 (rfl : _ = 311) rfl ?_
          refine V_iconst Y.1 (v := 3) dL_undone_311 (rfl : _ = 312) (by decide) ?_
          refine V_iushr Y.1 dL_undone_312 (rfl : _ = 313) rfl ?_
          refine V_nm (v := nI (e / 8)) (pk_ushrN (by omega) 3 3 (by decide)) ?_
          refine V_bipush Y.1 (v := 6) dL_undone_313 (rfl : _ = 315) (by decide) ?_
          refine V_irem Y.1 dL_undone_315 (rfl : _ = 316) (by decide) ?_
          refine V_nm (v := nI (e / 8 % 6)) (pk_rem (d := 6) (by omega) (by omega) (by omega)) ?_
          refine V_cR Y (sV Z (c_T_appI l D kA Hs σ _ hJ1.ag _ _ _ _ _ _ hT (by omega) (by rw [nI_toInt (by omega)]; omega) (by rw [nI_toInt (by omega)]; omega) (by simp only [List.length_append, List.length_nil, Nat.zero_add]; omega)) mi_J4_append_bf812 vi_L_288 rfl hT.rcv.choose_spec rfl rfl (Nat.le_of_ble_eq_true rfl) ⟨Nat.le_of_ble_eq_true rfl, Nat.le_of_ble_eq_true rfl⟩ (by show _ ≤ 20000; omega) (by show _ ≤ 200000; omega) dL_undone_316) (fun q hq => Or.inl (show Hs.size ≤ q by omega)) (rfl : _ = 319) (fun v_316 H316_52 hq_316 o_316 => ?_)
          obtain ⟨e9, hT⟩ := hq_316
          have e9 := e9.symm
          subst e9
          have o0 := o0.new0 o_316 (fun q hq => by omega)
          have hJ1 := hJ.new o0
          refine V_ldcwS Y (Z.2.1 _ x_o) dL_undone_319 (rfl : _ = 322) ?_
          refine V_cR Y (sV Z (c_T_appSh l D kA Hs σ _ hJ1.ag _ _ _ _ _ _ hT (by omega) x_o (by simp only [List.length_append, List.length_nil, Nat.zero_add]; omega) (by simp only [List.length_append, List.length_nil, Nat.zero_add]; omega) (by decide)) mi_J4_append_15ec4 vi_L_296 rfl hT.rcv.choose_spec rfl rfl (Nat.le_of_ble_eq_true rfl) ⟨Nat.le_of_ble_eq_true rfl, Nat.le_of_ble_eq_true rfl⟩ (by show _ ≤ 20000; omega) (by show _ ≤ 200000; omega) dL_undone_322) (fun q hq => Or.inl (show Hs.size ≤ q by omega)) (rfl : _ = 325) (fun v_322 H322_59 hq_322 o_322 => ?_)
          obtain ⟨e9, hT⟩ := hq_322
          have e9 := e9.symm
          subst e9
          have o0 := o0.new0 o_322 (fun q hq => by omega)
          have hJ1 := hJ.new o0
          refine V_iload Y.1 0 dL_undone_325 (rfl : _ = 327) rfl ?_
          refine V_iconst Y.1 (v := 3) dL_undone_327 (rfl : _ = 328) (by decide) ?_
          refine V_iushr Y.1 dL_undone_328 (rfl : _ = 329) rfl ?_
          refine V_nm (v := nI (e / 8)) (pk_ushrN (by omega) 3 3 (by decide)) ?_
          refine V_bipush Y.1 (v := 6) dL_undone_329 (rfl : _ = 331) (by decide) ?_
          refine V_irem Y.1 dL_undone_331 (rfl : _ = 332) (by decide) ?_
          refine V_nm (v := nI (e / 8 % 6)) (pk_rem (d := 6) (by omega) (by omega) (by omega)) ?_
          refine V_cR Y (sV Z (c_T_appI l D kA Hs σ _ hJ1.ag _ _ _ _ _ _ hT (by omega) (by rw [nI_toInt (by omega)]; omega) (by rw [nI_toInt (by omega)]; omega) (by simp only [List.length_append, List.length_nil, Nat.zero_add]; omega)) mi_J4_append_bf812 vi_L_288 rfl hT.rcv.choose_spec rfl rfl (Nat.le_of_ble_eq_true rfl) ⟨Nat.le_of_ble_eq_true rfl, Nat.le_of_ble_eq_true rfl⟩ (by show _ ≤ 20000; omega) (by show _ ≤ 200000; omega) dL_undone_332) (fun q hq => Or.inl (show Hs.size ≤ q by omega)) (rfl : _ = 335) (fun v_332 H332_72 hq_332 o_332 => ?_)
          obtain ⟨e9, hT⟩ := hq_332
          have e9 := e9.symm
          subst e9
          have o0 := o0.new0 o_332 (fun q hq => by omega)
          have hJ1 := hJ.new o0
          refine V_ldcwS Y (Z.2.1 _ x_s) dL_undone_335 (rfl : _ = 338) ?_
          refine V_cR Y (sV Z (c_T_appS l D kA Hs σ _ hJ1.ag _ _ _ _ _ _ hT (by omega) x_s (by simp only [List.length_append, List.length_nil, Nat.zero_add]; omega)) mi_J4_append_15ec4 vi_L_296 rfl hT.rcv.choose_spec rfl rfl (Nat.le_of_ble_eq_true rfl) ⟨Nat.le_of_ble_eq_true rfl, Nat.le_of_ble_eq_true rfl⟩ (by show _ ≤ 20000; omega) (by show _ ≤ 200000; omega) dL_undone_338) (fun q hq => Or.inl (show Hs.size ≤ q by omega)) (rfl : _ = 341) (fun v_338 H338_79 hq_338 o_338 => ?_)
          obtain ⟨e9, hT⟩ := hq_338
          have e9 := e9.symm
          subst e9
          have o0 := o0.new0 o_338 (fun q hq => by omega)
          have hJ1 := hJ.new o0
          refine V_iload Y.1 0 dL_undone_341 (rfl : _ = 343) rfl ?_
          refine V_bipush Y.1 (v := 6) dL_undone_343 (rfl : _ = 345) (by decide) ?_
          refine V_iushr Y.1 dL_undone_345 (rfl : _ = 346) rfl ?_
          refine V_nm (v := nI (e / 64)) (pk_ushrN (by omega) 6 6 (by decide)) ?_
          refine V_bipush Y.1 (v := 13) dL_undone_346 (rfl : _ = 348) (by decide) ?_
          refine V_irem Y.1 dL_undone_348 (rfl : _ = 349) (by decide) ?_
          refine V_nm (v := nI (e / 64 % 13)) (pk_rem (d := 13) (by omega) (by omega) (by omega)) ?_
          refine V_cR Y (sV Z (c_T_appI l D kA Hs σ _ hJ1.ag _ _ _ _ _ _ hT (by omega) (by rw [nI_toInt (by omega)]; omega) (by rw [nI_toInt (by omega)]; omega) (by simp only [List.length_append, List.length_nil, Nat.zero_add]; omega)) mi_J4_append_bf812 vi_L_288 rfl hT.rcv.choose_spec rfl rfl (Nat.le_of_ble_eq_true rfl) ⟨Nat.le_of_ble_eq_true rfl, Nat.le_of_ble_eq_true rfl⟩ (by show _ ≤ 20000; omega) (by show _ ≤ 200000; omega) dL_undone_349) (fun q hq => Or.inl (show Hs.size ≤ q by omega)) (rfl : _ = 352) (fun v_349 H349_92 hq_349 o_349 => ?_)
          obtain ⟨e9, hT⟩ := hq_349
          have e9 := e9.symm
          subst e9
          have o0 := o0.new0 o_349 (fun q hq => by omega)
          have hJ1 := hJ.new o0
          refine V_cR Y (sV Z (c_T_toStr l D kA Hs σ _ hJ1.ag _ _ _ _ _ hT (by simp only [List.length_append, List.length_nil, Nat.zero_add]; omega) (by simp only [List.length_append, List.length_nil, Nat.zero_add]; omega)) mi_J4_toString_0e30d vi_L_301 rfl hT.rcv.choose_spec rfl rfl (Nat.le_of_ble_eq_true rfl) ⟨Nat.le_of_ble_eq_true rfl, Nat.le_of_ble_eq_true rfl⟩ (by show _ ≤ 20000; omega) (by show _ ≤ 200000; omega) dL_undone_352) (fun _ z => z.elim) (rfl : _ = 355) (fun v_352 H352_98 hq_352 o_352 => ?_)
          have hR := hq_352
          have hJ2 := hJ1.claim o_352
          have hs := (hs.off o0 id).off o_352 id
          refine V_cI Y (sS Z (c_L_run l D kA Hs σ _ hJ2.ag a M s n t q u p no go ns _ _ _ _ _ hJ2 hnt (by omega) hR (by simp only [List.length_append, List.length_nil, Nat.zero_add]; omega) (fun x h1 h2 => Or.inr ⟨h1, h2⟩)) mi_L_run si_L_379 rfl rfl (Nat.le_of_ble_eq_true rfl) ⟨Nat.le_of_ble_eq_true rfl, Nat.le_of_ble_eq_true rfl⟩ (by show _ ≤ 20000; omega) (by show _ ≤ 200000; omega) dL_undone_355) (fun q z => Or.inl z.1) (rfl : _ = 358) (fun v_355 H355_102 hq_355 o_355 => ?_)
          have hK := hq_355.less (X' := fun x => x = q_2) (fun x hx => Or.inl hx)
          have hs := hs.off o_355 (fun z => z.2 (Or.inl rfl))
          refine V_istore Y.1 (ls' := [(7, _), (6, _), (5, _), (4, _), (3, _), (2, _), (1, _), (0, _)]) dL_undone_358 (rfl : _ = 360) (by decide) rfl ?_
          exact V_forget (ls' := [(7, _), (6, _), (5, _), (4, _), (3, _), (2, _), (1, _), (0, _)]) [0, 1, 2, 3, 4, 5, 6, 7] rfl (V_widen (by omega) (by omega) (k360 _ _ _ _ hK hs))
      refine V_iload Y.1 0 dL_undone_10 (rfl : _ = 12) rfl ?_
      refine V_bipush Y.1 (v := 7) dL_undone_12 (rfl : _ = 14) (by decide) ?_
      refine V_icmp_ge Y.1 (tgt := 397) dL_undone_14 (by decide) (rfl : _ = 17) (fun c_n => absurd c_n (fun q9 => absurd ((nI_leI (a := 7) (b := i) (by omega) (by omega)).mp q9) (by omega))) (fun _ => ?_)
      refine V_aload_n Y.1 4 dL_undone_17 (rfl : _ = 18) rfl rfl ?_
      refine V_bipush Y.1 (v := 20) dL_undone_18 (rfl : _ = 20) (by decide) ?_
      refine V_iload Y.1 0 dL_undone_20 (rfl : _ = 22) rfl ?_
      refine V_iadd Y.1 dL_undone_22 (rfl : _ = 23) ?_
      refine V_nm (v := nI (20 + i)) (nI_add 20 _) ?_
      refine V_cI Y (sA Z hXs (c_L_cell l D kA Hs σ sa N f _ hJ.ag (20 + i) hN (by omega)) mi_L_cell si_L_148 rfl rfl (Nat.le_of_ble_eq_true rfl) ⟨Nat.le_of_ble_eq_true rfl, Nat.le_of_ble_eq_true rfl⟩ (by show _ ≤ 20000; omega) (by show _ ≤ 200000; omega) dL_undone_23) (fun _ z => z.elim) (rfl : _ = 26) (fun v_23 H23_8 hq_23 o_23 => ?_)
      obtain rfl := hq_23
      refine V_iconst Y.1 (v := 1) dL_undone_26 (rfl : _ = 27) (by decide) ?_
      obtain ⟨c9, hc31, ec⟩ := ush1 v_23
      refine V_iushr Y.1 dL_undone_27 (rfl : _ = 28) rfl ?_
      refine V_nm (v := nI c9) ec ?_
      refine V_istore Y.1 (ls' := [(5, _), (4, _), (3, _), (2, _), (1, _), (0, _)]) dL_undone_28 (rfl : _ = 30) (by decide) rfl ?_
      refine V_iload Y.1 0 dL_undone_30 (rfl : _ = 32) rfl ?_
      refine V_iconst Y.1 (v := 4) dL_undone_32 (rfl : _ = 33) (by decide) ?_
      refine V_iushr Y.1 dL_undone_33 (rfl : _ = 34) rfl ?_
      refine V_nm (v := nI (c9 / 16)) (pk_ushrN (by omega) 4 4 (by decide)) ?_
      refine V_istore Y.1 (ls' := [(6, _), (5, _), (4, _), (3, _), (2, _), (1, _), (0, _)]) dL_undone_34 (rfl : _ = 36) (by decide) rfl ?_
      refine V_aload_n Y.1 4 dL_undone_36 (rfl : _ = 37) rfl rfl ?_
      refine V_iload_n Y.1 3 dL_undone_37 (rfl : _ = 38) rfl rfl ?_
      refine V_aload_n Y.1 5 dL_undone_38 (rfl : _ = 39) rfl rfl ?_
      refine V_cL Y (sS Z (c_L_sum l D kA Hs σ _ hJ.ag a M s n t q u p no go ns (fun x => x = q_2) hJ hnt) mi_L_sum si_L_365 rfl rfl (Nat.le_of_ble_eq_true rfl) ⟨Nat.le_of_ble_eq_true rfl, Nat.le_of_ble_eq_true rfl⟩ (by show _ ≤ 20000; omega) (by show _ ≤ 200000; omega) dL_undone_39) (fun _ z => z.elim) (rfl : _ = 42) (fun v_39 H39_23 hq_39 o_39 => ?_)
      obtain rfl := hq_39
      have hJ := hJ.new o_39
      have hs := hs.off o_39 id
      refine V_last Y.1 hs (Or.inl hq2) (vp_in_nI (by omega) (by decide)) dL_undone_42 (rfl : _ = 43) (fun H42_27 h_new o_42 => ?_)
      have hs := h_new
      clear h_new
      refine V_iload Y.1 1 dL_undone_43 (rfl : _ = 45) rfl ?_
      refine V_bipush Y.1 (v := 10) dL_undone_45 (rfl : _ = 47) (by decide) ?_
      refine V_irem Y.1 dL_undone_47 (rfl : _ = 48) (by decide) ?_
      refine V_nm (v := nI (c9 % 10)) (pk_rem (d := 10) (by omega) (by omega) (by omega)) ?_
      have hJ := hJ.keep (o_42.off (F := fun x => x = q_2) rfl) (fun x hx => Or.inl hx)
      rw [nI_clamp (n := d) (by omega)] at hs
      exact V_widen (by omega) (by omega) (kinds _ c9 (c9 / 16) (c9 % 10) (by omega) (by omega) hJ hs)
  exact V_forget (ls' := [(4, _), (3, _), (2, _), (1, _), (0, _)]) [0, 1, 2, 4, 3] rfl (V_widen (by omega) (by omega) (loopA 7 0 0 _ _ M s n t q u p ns (by omega) (Nat.le_refl _) hJ hs (by omega) (Nat.zero_le _) (fun j hj => absurd hj (Nat.not_lt_zero j))))

