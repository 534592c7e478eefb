/-! The law's changes with their handlers. -/
/-- what a change that failed answers -/
def fc (k : Nat) (z : Int32) : Int32 := if k = 0 ∨ 6 ≤ k then -1 else if k = 1 then (if z = 1 then -30001 else if z = 2 then -30002 else -30003) else if k = 4 then (if z = 1 then -1 else if z = 4 then -2 else -3) else if z = 1 then -1 else -2
theorem fc_neg (k : Nat) (z : Int32) : fc k z < 0 := by
  unfold fc
  (repeat' split) <;> decide
theorem lw_mk {D : va_G} {kA : Nat → ClassId} {Hs H0 H : Heap} {a : Nat} {W : Nat → MS} {π : Nat → Nat} {M : MS} {s : Nat → Int32} {n t q u : Nat} {p : Nat → Nat → Int32} {no : Nat} {go : Nat → Int32} {ns : Nat} {X ES F : Nat → Prop} {ep fc : Int32} {vs cs : Nat} {gs tt : Nat → Int32}
    (hF9 : Fs D kA H a W π ES u 0 ep fc no go vs cs ns gs) (eM : W (π 0) = M) (hS : SQ M s n t q) (hH : Hq W π u p q) (hg : Ag Hs H0) (hba : Hs.size ≤ a) (hou : no ≤ 16 ∧ ∀ j, j < no → ∃ c, c < 128 ∧ go j = nI c) (hsc : ns ≤ 60 ∧ Tx gs tt ns)
    (hX : ∀ x, X x → Hs.size ≤ x ∧ x < H0.size ∧ x ≠ vs ∧ ¬ ES x ∧ ¬ blk a 329 x) (o : off F H0 H) (hF : ∀ q, F q → Hs.size ≤ q ∧ ¬ X q) : Lw D kA Hs H a M s n t q u p no go ns X :=
  ⟨W, π, ES, ep, fc, vs, cs, gs, tt, hF9, eM, hS, hH, hg.keep o (fun x hx => (hF x hx).1), hba, hou, hsc, fun x hx => ⟨(hX x hx).1, Nat.lt_of_lt_of_le (hX x hx).2.1 o.1, (hX x hx).2.2⟩⟩
theorem blk_g {H0 : Heap} {Hs : Heap} {a vs : Nat} {X ES : Nat → Prop} (hba : Hs.size ≤ a) (hX : ∀ x, X x → Hs.size ≤ x ∧ x < H0.size ∧ x ≠ vs ∧ ¬ ES x ∧ ¬ blk a 329 x) : ∀ q, blk a 329 q → Hs.size ≤ q ∧ ¬ X q := fun q z => ⟨Nat.le_trans hba z.1, fun hx => (hX q hx).2.2.2.2 z⟩
theorem ty_g {D : va_G} {kA : Nat → ClassId} {Hs H0 : Heap} {a : Nat} {W : Nat → MS} {π : Nat → Nat} {u no : Nat} {go : Nat → Int32} {ns : Nat} {X ES : Nat → Prop} {ep fc : Int32} {vs cs : Nat} {gs : Nat → Int32} (hba : Hs.size ≤ a) (hF : Fs D kA H0 a W π ES u 0 ep fc no go vs cs ns gs) (hX : ∀ x, X x → Hs.size ≤ x ∧ x < H0.size ∧ x ≠ vs ∧ ¬ ES x ∧ ¬ blk a 329 x) : ∀ q, (q = a + 323 ∨ q = vs) → Hs.size ≤ q ∧ ¬ X q := fun q z => by
  rcases z with z | z
  · exact blk_g hba hX q ⟨by omega, by omega⟩
  · have hl := hF.2.2.2.2.2.2.1
    exact ⟨by have := hl.2.1; omega, fun hx => (hX q hx).2.2.1 z⟩
theorem ty_x {Hs H0 : Heap} {a vs vs1 : Nat} {X ES : Nat → Prop} (hX : ∀ x, X x → Hs.size ≤ x ∧ x < H0.size ∧ x ≠ vs ∧ ¬ ES x ∧ ¬ blk a 329 x) (h : vs1 = vs ∨ H0.size ≤ vs1) : ∀ x, X x → Hs.size ≤ x ∧ x < H0.size ∧ x ≠ vs1 ∧ ¬ ES x ∧ ¬ blk a 329 x := fun x hx => by
  obtain ⟨b1, b2, b3, b4⟩ := hX x hx
  exact ⟨b1, b2, fun e => by rcases h with z | z <;> omega, b4⟩
theorem gro_x {Hs H0 H : Heap} {a vs : Nat} {X ES : Nat → Prop} (hX : ∀ x, X x → Hs.size ≤ x ∧ x < H0.size ∧ x ≠ vs ∧ ¬ ES x ∧ ¬ blk a 329 x) : ∀ x, X x → Hs.size ≤ x ∧ x < H0.size ∧ x ≠ vs ∧ ¬ gro ES H0 H x ∧ ¬ blk a 329 x := fun x hx => by
  obtain ⟨b1, b2, b3, b4, b5⟩ := hX x hx
  exact ⟨b1, b2, b3, fun z => z.elim b4 (fun z => by omega), b5⟩
theorem tx_put {g g1 tt : Nat → Int32} {ns c : Nat} (h : Tx g tt ns) (h1 : ∀ j, j < ns → g1 j = g j) (h2 : g1 ns = nI c) (hc : c < 128) : Tx g1 (upd tt ns (nI c)) (ns + 1) := fun j hj => by
  by_cases e : j = ns
  · subst e
    exact ⟨c, hc, h2, pk_us⟩
  · obtain ⟨d, a1, a2, a3⟩ := h j (by omega)
    exact ⟨d, a1, (h1 j (by omega)).trans a2, (pk_un e).trans a3⟩
theorem sq_copy {M : MS} {s : Nat → Int32} {n t q : Nat} (h : SQ M s n t q) (N : MS) : SQ (m_copy N M n) s n t q := ⟨h.1.copy _, h.2⟩
theorem back_0 {W : Nat → MS} {π : Nat → Nat} {Mx N : MS} (hp : Pm π) : va_up (va_up W (π 1) N) (π 0) Mx (p_swap π 0 1 0) = N := by
  obtain ⟨p1, p2, p3⟩ := hp
  have n01 : π 1 ≠ π 0 := fun z => absurd (p2 1 0 (by decide) (by decide) z) (by decide)
  have e : p_swap π 0 1 0 = π 1 := by unfold p_swap; rw [if_pos rfl]
  rw [e, vu_ne n01, vu_eq]
theorem lw_do {D : va_G} {kA : Nat → ClassId} {Hs H0 H : Heap} {a : Nat} {W : Nat → MS} {π : Nat → Nat} {s : Nat → Int32} {n t q u : Nat} {p : Nat → Nat → Int32} {no : Nat} {go : Nat → Int32} {ns : Nat} {X ES : Nat → Prop} {ep fc : Int32} {vs cs : Nat} {gs tt : Nat → Int32} {k : Nat} {x y : Int32} (hJ : Lw D kA Hs H0 a (W (π 0)) s n t q u p no go ns X) (hF : Fs D kA H0 a W π ES u 0 ep fc no go vs cs ns gs) (hS : SQ (W (π 0)) s n t q) (hH : Hq W π u p q) (hba : Hs.size ≤ a) (hou : no ≤ 16 ∧ ∀ j, j < no → ∃ c, c < 128 ∧ go j = nI c) (hsc : ns ≤ 60 ∧ Tx gs tt ns)
    (hX : ∀ x, X x → Hs.size ≤ x ∧ x < H0.size ∧ x ≠ vs ∧ ¬ ES x ∧ ¬ blk a 329 x) (hq4 : q ≤ 40000) (hk : k < 8) (hz : m_prob (W (π 0)) k x y = 0)
    (hF9 : Fs D kA H a (va_up (va_up W (π 1) (m_copy (W (π 1)) (W (π 0)) n)) (π 0) (m_do (W (π 0)) (t / 1440) n k x y).2) (p_push π u) (gro ES H0 H) (if u < 8 then u + 1 else 8) 0 ep fc no go vs cs ns gs) (o : off (blk a 329) H0 H) :
    ∃ s' n' t', Lw D kA Hs H a (m_do (W (π 0)) (t / 1440) n k x y).2 s' n' t' (q + 1) (p_u u) (p_ph p s u) no go ns X := by
  obtain ⟨-, -, n', t', hS'⟩ := (hS.step hq4 hk x y).1 hz
  exact ⟨_, n', t', lw_mk hF9 (by rw [p_push_0, vu_eq]) hS' (hH.push hF.2.2.2.2.2.1 hF.2.2.2.2.2.2.2.1 (Nat.le_succ q) hS) hJ.ag hba hou hsc (gro_x hX) o (blk_g hba hX)⟩
theorem mh_L_issue : Mw yL_issue cL_issue 3 (some .int) [(0, 5, 6, 14)] 2 := ⟨(tm 296 (by decide +kernel) (by decide +kernel)), (tm 8 (by decide +kernel) (by decide +kernel)), by decide +kernel, by decide +kernel, by decide +kernel⟩
theorem mh_L_load : Mw yL_load cL_load 4 (some .int) [(0, 6, 7, 20), (0, 6, 12, 22), (0, 6, 17, 24)] 3 := ⟨(tm 649 (by decide +kernel) (by decide +kernel)), (tm 8 (by decide +kernel) (by decide +kernel)), by decide +kernel, by decide +kernel, by decide +kernel⟩
theorem mh_L_tapIn : Mw yL_tapIn cL_tapIn 4 (some .int) [(0, 14, 15, 20), (0, 14, 18, 14)] 3 := ⟨(tm 693 (by decide +kernel) (by decide +kernel)), (tm 8 (by decide +kernel) (by decide +kernel)), by decide +kernel, by decide +kernel, by decide +kernel⟩
theorem mh_L_tapOut : Mw yL_tapOut cL_tapOut 4 (some .int) [(0, 6, 7, 20), (0, 6, 10, 14)] 3 := ⟨(tm 700 (by decide +kernel) (by decide +kernel)), (tm 8 (by decide +kernel) (by decide +kernel)), by decide +kernel, by decide +kernel, by decide +kernel⟩
theorem mh_L_repair : Mw yL_repair cL_repair 4 (some .int) [(0, 6, 7, 20), (0, 6, 10, 36), (0, 6, 14, 14)] 3 := ⟨(tm 1394 (by decide +kernel) (by decide +kernel)), (tm 8 (by decide +kernel) (by decide +kernel)), by decide +kernel, by decide +kernel, by decide +kernel⟩
theorem mh_L_setZone : Mw yL_setZone cL_setZone 4 (some .int) [(0, 6, 7, 20), (0, 6, 10, 22)] 3 := ⟨(tm 686 (by decide +kernel) (by decide +kernel)), (tm 8 (by decide +kernel) (by decide +kernel)), by decide +kernel, by decide +kernel, by decide +kernel⟩
theorem mh_L_setFares : Mw yL_setFares cL_setFares 4 (some .int) [(0, 6, 7, 22)] 3 := ⟨(tm 679 (by decide +kernel) (by decide +kernel)), (tm 8 (by decide +kernel) (by decide +kernel)), by decide +kernel, by decide +kernel, by decide +kernel⟩
theorem mh_L_advance : Mw yL_advance cL_advance 3 (some .int) [(0, 5, 6, 22)] 2 := ⟨(tm 707 (by decide +kernel) (by decide +kernel)), (tm 8 (by decide +kernel) (by decide +kernel)), by decide +kernel, by decide +kernel, by decide +kernel⟩
theorem mh_L_undo : Mw yL_undo cL_undo 2 (some .int) [(0, 4, 5, 36)] 1 := ⟨(tm 1489 (by decide +kernel) (by decide +kernel)), (tm 8 (by decide +kernel) (by decide +kernel)), by decide +kernel, by decide +kernel, by decide +kernel⟩
theorem mh_L_type : Mw yL_type cL_type 3 (some .int) [(0, 5, 6, 22), (0, 5, 10, 14)] 2 := ⟨(tm 1408 (by decide +kernel) (by decide +kernel)), (tm 8 (by decide +kernel) (by decide +kernel)), by decide +kernel, by decide +kernel, by decide +kernel⟩
theorem mh_L_runs : Mw yL_runs cL_runs 2 (some .int) [(0, 4, 5, 22), (0, 4, 8, 14)] 1 := ⟨(tm 1417 (by decide +kernel) (by decide +kernel)), (tm 8 (by decide +kernel) (by decide +kernel)), by decide +kernel, by decide +kernel, by decide +kernel⟩
theorem xz_0 {M : MS} {x y : Int32} (h2 : ¬ m_prob M 0 x y = 0) : m_prob M 0 x y = 3 := by
  have h3 : m_prob M 0 x y = 0 ∨ m_prob M 0 x y = 3 := by
    show (if M.1 0 < 8 then (0 : Int32) else 3) = 0 ∨ (if M.1 0 < 8 then (0 : Int32) else 3) = 3
    (repeat' split) <;> simp
  exact h3.resolve_left h2
theorem xz_1 {M : MS} {x y : Int32} (h2 : ¬ m_prob M 1 x y = 0) : m_prob M 1 x y = 1 ∨ m_prob M 1 x y = 2 ∨ m_prob M 1 x y = 5 := by
  have h3 : m_prob M 1 x y = 0 ∨ m_prob M 1 x y = 1 ∨ m_prob M 1 x y = 2 ∨ m_prob M 1 x y = 5 := by
    show m_pLoad M x y = 0 ∨ m_pLoad M x y = 1 ∨ m_pLoad M x y = 2 ∨ m_pLoad M x y = 5
    unfold m_pLoad
    (repeat' split) <;> simp
  exact h3.resolve_left h2
theorem xz_2 {M : MS} {x y : Int32} (h2 : ¬ m_prob M 2 x y = 0) : m_prob M 2 x y = 1 ∨ m_prob M 2 x y = 3 := by
  have h3 : m_prob M 2 x y = 0 ∨ m_prob M 2 x y = 1 ∨ m_prob M 2 x y = 3 := by
    show m_pIn M x y = 0 ∨ m_pIn M x y = 1 ∨ m_pIn M x y = 3
    unfold m_pIn
    (repeat' split) <;> simp
  exact h3.resolve_left h2
theorem xz_3 {M : MS} {x y : Int32} (h2 : ¬ m_prob M 3 x y = 0) : m_prob M 3 x y = 1 ∨ m_prob M 3 x y = 3 := by
  have h3 : m_prob M 3 x y = 0 ∨ m_prob M 3 x y = 1 ∨ m_prob M 3 x y = 3 := by
    show m_pOut M x y = 0 ∨ m_pOut M x y = 1 ∨ m_pOut M x y = 3
    unfold m_pOut
    (repeat' split) <;> simp
  exact h3.resolve_left h2
theorem xz_4 {M : MS} {x y : Int32} (h2 : ¬ m_prob M 4 x y = 0) : m_prob M 4 x y = 1 ∨ m_prob M 4 x y = 4 ∨ m_prob M 4 x y = 3 := by
  have h3 : m_prob M 4 x y = 0 ∨ m_prob M 4 x y = 1 ∨ m_prob M 4 x y = 4 ∨ m_prob M 4 x y = 3 := by
    show m_pRep M x y = 0 ∨ m_pRep M x y = 1 ∨ m_pRep M x y = 4 ∨ m_pRep M x y = 3
    unfold m_pRep
    (repeat' split) <;> simp
  exact h3.resolve_left h2
theorem xz_5 {M : MS} {x y : Int32} (h2 : ¬ m_prob M 5 x y = 0) : m_prob M 5 x y = 1 ∨ m_prob M 5 x y = 2 := by
  have h3 : m_prob M 5 x y = 0 ∨ m_prob M 5 x y = 1 ∨ m_prob M 5 x y = 2 := by
    show m_pZone x y = 0 ∨ m_pZone x y = 1 ∨ m_pZone x y = 2
    unfold m_pZone
    (repeat' split) <;> simp
  exact h3.resolve_left h2
theorem xz_6 {M : MS} {x y : Int32} (h2 : ¬ m_prob M 6 x y = 0) : m_prob M 6 x y = 2 := by
  have h3 : m_prob M 6 x y = 0 ∨ m_prob M 6 x y = 2 := by
    show m_pFares x y = 0 ∨ m_pFares x y = 2
    unfold m_pFares
    (repeat' split) <;> simp
  exact h3.resolve_left h2
theorem xz_7 {M : MS} {x y : Int32} (h2 : ¬ m_prob M 7 x y = 0) : m_prob M 7 x y = 2 := by
  have h3 : m_prob M 7 x y = 0 ∨ m_prob M 7 x y = 2 := by
    show (if x < 1 ∨ ¬ x ≤ 2000 then (2 : Int32) else 0) = 0 ∨ (if x < 1 ∨ ¬ x ≤ 2000 then (2 : Int32) else 0) = 2
    (repeat' split) <;> simp
  exact h3.resolve_left h2
set_option maxRecDepth 100000 in
set_option maxHeartbeats 4000000 in
theorem c_L_issue (l : Launch) (D : va_G) (kA : Nat → ClassId) (Hs : Heap) (σ : SG) (H0 : Heap) (hg : Ag Hs H0) (a : Nat) (M : MS) (s : Nat → Int32) (n t q u : Nat) (p : Nat → Nat → Int32) (no : Nat) (go : Nat → Int32) (ns : Nat) (X : Nat → Prop) (x : Int32) (hJ : Lw D kA Hs H0 a M s n t q u p no go ns X) (hnt : l.stackTraces = false) (hq4 : q ≤ 40000) (hx : x = 0 ∨ x = 1) : CtW l D kA Hs σ yL_issue cL_issue 3 (some .int) [(0, 5, 6, 14)] 11 186 9 30 H0 [.ref a, .int x] (fun q => Hs.size ≤ q ∧ ¬ X q) (pI fun k9 H9 => (m_prob M 0 x 0 = 0 ∧ k9 = (m_do M (t / 1440) n 0 x 0).1 ∧ ∃ s' n' t', Lw D kA Hs H9 a (m_do M (t / 1440) n 0 x 0).2 s' n' t' (q + 1) (p_u u) (p_ph p s u) no go ns X) ∨ (¬ m_prob M 0 x 0 = 0 ∧ k9 = fc 0 (m_prob M 0 x 0) ∧ Lw D kA Hs H9 a M s n t q u p no go ns X)) := by
  refine CtW.of mh_L_issue (Nat.le_of_ble_eq_true rfl) (ls0 := [(0, _), (1, _)]) rfl hg (fun q hq => hq.1) ?_
  intro Pp Ee Ss Mm Ar Bl Me Cc Z hsH htab
  have Y := Z.1
  obtain ⟨W, π, ES, ep, fc, vs, cs, gs, tt, hF, rfl, hS, hH, -, hba, hou, hsc, hX⟩ := id hJ
  refine V_aload_n Y.1 0 dL_issue_0 (rfl : _ = 1) rfl rfl ?_
  refine V_iload_n Y.1 1 dL_issue_1 (rfl : _ = 2) rfl rfl ?_
  refine V_xI Y (sxV Z (c_X5_issueCard l D kA Hs σ _ hg a W π ES u 0 ep fc no go vs cs ns gs x n (t / 1440) hF hnt hS.1.mi hba hx) mi_X5_issueCard vi_L_8 rfl hF.1.1 rfl rfl (Nat.le_of_ble_eq_true rfl) ⟨Nat.le_of_ble_eq_true rfl, Nat.le_of_ble_eq_true rfl⟩ (Nat.le_of_ble_eq_true rfl) (Nat.le_of_ble_eq_true rfl) dL_issue_2) (fun q z => Or.inl ((blk_g hba hX) q z)) (rfl : _ = 5) (fun E_2 H2_2 hx_2 o_2 => ?_) (fun v_2 H2_2 hq_2 o_2 => ?_)
  · obtain ⟨hE9, nz9, hF9⟩ := hx_2
    have hJ9 := lw_mk hF9 rfl hS hH hJ.ag hba hou hsc hX o_2 (blk_g hba hX)
    have e9 := xz_0 nz9
    obtain rfl : E_2 = "java/lang/IllegalStateException" := hE9.trans (by rw [e9]; rfl)
    refine VX_catch Z (pre := []) (x := ⟨0, 5, 6, 14⟩) (suf := []) (htab.trans rfl) (fun z hz => nomatch hz) (by decide) (by decide) (by decide) (tm 297 (by decide +kernel) (by decide +kernel)) (by decide +kernel) rfl (fun q9 => ?_)
    refine V_astore_n Y.1 (ls' := [(2, _), (0, _), (1, _)]) dL_issue_6 (rfl : _ = 7) rfl (by decide) rfl ?_
    refine V_iconst Y.1 (v := -1) dL_issue_7 (rfl : _ = 8) (by decide) ?_
    exact V_ret Y.1 dL_issue_8 rfl (Nat.le_of_ble_eq_true rfl) (Nat.le_of_ble_eq_true rfl) (Or.inr ⟨nz9, by rw [e9]; rfl, hJ9⟩)
  obtain ⟨hz9, hv9, hF9⟩ := hq_2
  obtain ⟨s9, n9, t9, hJ9⟩ := lw_do hJ hF hS hH hba hou hsc hX hq4 (show 0 < 8 by decide) hz9 hF9 o_2
  exact V_ret Y.1 dL_issue_5 rfl (Nat.le_of_ble_eq_true rfl) (Nat.le_of_ble_eq_true rfl) (Or.inl ⟨hz9, hv9, s9, n9, t9, hJ9⟩)

set_option maxRecDepth 100000 in
set_option maxHeartbeats 4000000 in
theorem c_L_load (l : Launch) (D : va_G) (kA : Nat → ClassId) (Hs : Heap) (σ : SG) (H0 : Heap) (hg : Ag Hs H0) (a : Nat) (M : MS) (s : Nat → Int32) (n t q u : Nat) (p : Nat → Nat → Int32) (no : Nat) (go : Nat → Int32) (ns : Nat) (X : Nat → Prop) (x y : Int32) (hJ : Lw D kA Hs H0 a M s n t q u p no go ns X) (hnt : l.stackTraces = false) (hq4 : q ≤ 40000) : CtW l D kA Hs σ yL_load cL_load 4 (some .int) [(0, 6, 7, 20), (0, 6, 12, 22), (0, 6, 17, 24)] 11 187 9 30 H0 [.ref a, .int x, .int y] (fun q => Hs.size ≤ q ∧ ¬ X q) (pI fun k9 H9 => (m_prob M 1 x y = 0 ∧ k9 = (m_do M (t / 1440) n 1 x y).1 ∧ ∃ s' n' t', Lw D kA Hs H9 a (m_do M (t / 1440) n 1 x y).2 s' n' t' (q + 1) (p_u u) (p_ph p s u) no go ns X) ∨ (¬ m_prob M 1 x y = 0 ∧ k9 = fc 1 (m_prob M 1 x y) ∧ Lw D kA Hs H9 a M s n t q u p no go ns X)) := by
  refine CtW.of mh_L_load (Nat.le_of_ble_eq_true rfl) (ls0 := [(0, _), (1, _), (2, _)]) rfl hg (fun q hq => hq.1) ?_
  intro Pp Ee Ss Mm Ar Bl Me Cc Z hsH htab
  have Y := Z.1
  obtain ⟨W, π, ES, ep, fc, vs, cs, gs, tt, hF, rfl, hS, hH, -, hba, hou, hsc, hX⟩ := id hJ
  refine V_aload_n Y.1 0 dL_load_0 (rfl : _ = 1) rfl rfl ?_
  refine V_iload_n Y.1 1 dL_load_1 (rfl : _ = 2) rfl rfl ?_
  refine V_iload_n Y.1 2 dL_load_2 (rfl : _ = 3) rfl rfl ?_
  refine V_xI Y (sxV Z (c_X5_load l D kA Hs σ _ hg a W π ES u 0 ep fc no go vs cs ns gs x y n (t / 1440) hF hnt hS.1.mi hba) mi_X5_load vi_L_16 rfl hF.1.1 rfl rfl (Nat.le_of_ble_eq_true rfl) ⟨Nat.le_of_ble_eq_true rfl, Nat.le_of_ble_eq_true rfl⟩ (Nat.le_of_ble_eq_true rfl) (Nat.le_of_ble_eq_true rfl) dL_load_3) (fun q z => Or.inl ((blk_g hba hX) q z)) (rfl : _ = 6) (fun E_3 H3_3 hx_3 o_3 => ?_) (fun v_3 H3_3 hq_3 o_3 => ?_)
  · obtain ⟨hE9, nz9, hF9⟩ := hx_3
    have hJ9 := lw_mk hF9 rfl hS hH hJ.ag hba hou hsc hX o_3 (blk_g hba hX)
    rcases xz_1 nz9 with e9 | e9 | e9
    · obtain rfl : E_3 = "java/lang/IndexOutOfBoundsException" := hE9.trans (by rw [e9]; rfl)
      refine VX_catch Z (pre := []) (x := ⟨0, 6, 7, 20⟩) (suf := [⟨0, 6, 12, 22⟩, ⟨0, 6, 17, 24⟩]) (htab.trans rfl) (fun z hz => nomatch hz) (by decide) (by decide) (by decide) (tm 650 (by decide +kernel) (by decide +kernel)) (by decide +kernel) rfl (fun q9 => ?_)
      refine V_astore_n Y.1 (ls' := [(3, _), (0, _), (1, _), (2, _)]) dL_load_7 (rfl : _ = 8) rfl (by decide) rfl ?_
      refine V_sipush Y.1 (v := -30001) dL_load_8 (rfl : _ = 11) (by decide) ?_
      exact V_ret Y.1 dL_load_11 rfl (Nat.le_of_ble_eq_true rfl) (Nat.le_of_ble_eq_true rfl) (Or.inr ⟨nz9, by rw [e9]; rfl, hJ9⟩)
    · obtain rfl : E_3 = "java/lang/IllegalArgumentException" := hE9.trans (by rw [e9]; rfl)
      refine VX_catch Z (pre := [⟨0, 6, 7, 20⟩]) (x := ⟨0, 6, 12, 22⟩) (suf := [⟨0, 6, 17, 24⟩]) (htab.trans rfl) (fun z hz => by obtain rfl := List.mem_singleton.mp hz; exact Or.inr ⟨by decide, "java/lang/IndexOutOfBoundsException", (tm 650 (by decide +kernel) (by decide +kernel)), by decide, by decide⟩) (by decide) (by decide) (by decide) (tm 671 (by decide +kernel) (by decide +kernel)) (by decide +kernel) rfl (fun q9 => ?_)
      refine V_astore_n Y.1 (ls' := [(3, _), (0, _), (1, _), (2, _)]) dL_load_12 (rfl : _ = 13) rfl (by decide) rfl ?_
      refine V_sipush Y.1 (v := -30002) dL_load_13 (rfl : _ = 16) (by decide) ?_
      exact V_ret Y.1 dL_load_16 rfl (Nat.le_of_ble_eq_true rfl) (Nat.le_of_ble_eq_true rfl) (Or.inr ⟨nz9, by rw [e9]; rfl, hJ9⟩)
    · obtain rfl : E_3 = "java/lang/UnsupportedOperationException" := hE9.trans (by rw [e9]; rfl)
      refine VX_catch Z (pre := [⟨0, 6, 7, 20⟩, ⟨0, 6, 12, 22⟩]) (x := ⟨0, 6, 17, 24⟩) (suf := []) (htab.trans rfl) (fun z hz => by rcases List.mem_cons.mp hz with rfl | hz; exact Or.inr ⟨by decide, "java/lang/IndexOutOfBoundsException", (tm 650 (by decide +kernel) (by decide +kernel)), by decide, by decide⟩; obtain rfl := List.mem_singleton.mp hz; exact Or.inr ⟨by decide, "java/lang/IllegalArgumentException", (tm 671 (by decide +kernel) (by decide +kernel)), by decide, by decide⟩) (by decide) (by decide) (by decide) (tm 672 (by decide +kernel) (by decide +kernel)) (by decide +kernel) rfl (fun q9 => ?_)
      refine V_astore_n Y.1 (ls' := [(3, _), (0, _), (1, _), (2, _)]) dL_load_17 (rfl : _ = 18) rfl (by decide) rfl ?_
      refine V_sipush Y.1 (v := -30003) dL_load_18 (rfl : _ = 21) (by decide) ?_
      exact V_ret Y.1 dL_load_21 rfl (Nat.le_of_ble_eq_true rfl) (Nat.le_of_ble_eq_true rfl) (Or.inr ⟨nz9, by rw [e9]; rfl, hJ9⟩)
  obtain ⟨hz9, hv9, hF9⟩ := hq_3
  obtain ⟨s9, n9, t9, hJ9⟩ := lw_do hJ hF hS hH hba hou hsc hX hq4 (show 1 < 8 by decide) hz9 hF9 o_3
  exact V_ret Y.1 dL_load_6 rfl (Nat.le_of_ble_eq_true rfl) (Nat.le_of_ble_eq_true rfl) (Or.inl ⟨hz9, hv9, s9, n9, t9, hJ9⟩)

set_option maxRecDepth 100000 in
set_option maxHeartbeats 4000000 in
theorem c_L_tapIn (l : Launch) (D : va_G) (kA : Nat → ClassId) (Hs : Heap) (σ : SG) (H0 : Heap) (hg : Ag Hs H0) (a : Nat) (M : MS) (s : Nat → Int32) (n t q u : Nat) (p : Nat → Nat → Int32) (no : Nat) (go : Nat → Int32) (ns : Nat) (X : Nat → Prop) (x y : Int32) (hJ : Lw D kA Hs H0 a M s n t q u p no go ns X) (hnt : l.stackTraces = false) (hq4 : q ≤ 40000) : CtW l D kA Hs σ yL_tapIn cL_tapIn 4 (some .int) [(0, 14, 15, 20), (0, 14, 18, 14)] 11 187 9 30 H0 [.ref a, .int x, .int y] (fun q => Hs.size ≤ q ∧ ¬ X q) (pI fun k9 H9 => (m_prob M 2 x y = 0 ∧ k9 = (if (m_do M (t / 1440) n 2 x y).1 = 1 then 1 else 0) ∧ ∃ s' n' t', Lw D kA Hs H9 a (m_do M (t / 1440) n 2 x y).2 s' n' t' (q + 1) (p_u u) (p_ph p s u) no go ns X) ∨ (¬ m_prob M 2 x y = 0 ∧ k9 = fc 2 (m_prob M 2 x y) ∧ Lw D kA Hs H9 a M s n t q u p no go ns X)) := by
  refine CtW.of mh_L_tapIn (Nat.le_of_ble_eq_true rfl) (ls0 := [(0, _), (1, _), (2, _)]) rfl hg (fun q hq => hq.1) ?_
  intro Pp Ee Ss Mm Ar Bl Me Cc Z hsH htab
  have Y := Z.1
  obtain ⟨W, π, ES, ep, fc, vs, cs, gs, tt, hF, rfl, hS, hH, -, hba, hou, hsc, hX⟩ := id hJ
  refine V_aload_n Y.1 0 dL_tapIn_0 (rfl : _ = 1) rfl rfl ?_
  refine V_iload_n Y.1 1 dL_tapIn_1 (rfl : _ = 2) rfl rfl ?_
  refine V_iload_n Y.1 2 dL_tapIn_2 (rfl : _ = 3) rfl rfl ?_
  refine V_xI Y (sxV Z (c_X5_tapIn l D kA Hs σ _ hg a W π ES u 0 ep fc no go vs cs ns gs x y n (t / 1440) hF hnt hS.1.mi hba) mi_X5_tapIn vi_L_26 rfl hF.1.1 rfl rfl (Nat.le_of_ble_eq_true rfl) ⟨Nat.le_of_ble_eq_true rfl, Nat.le_of_ble_eq_true rfl⟩ (Nat.le_of_ble_eq_true rfl) (Nat.le_of_ble_eq_true rfl) dL_tapIn_3) (fun q z => Or.inl ((blk_g hba hX) q z)) (rfl : _ = 6) (fun E_3 H3_3 hx_3 o_3 => ?_) (fun v_3 H3_3 hq_3 o_3 => ?_)
  · obtain ⟨hE9, nz9, hF9⟩ := hx_3
    have hJ9 := lw_mk hF9 rfl hS hH hJ.ag hba hou hsc hX o_3 (blk_g hba hX)
    rcases xz_2 nz9 with e9 | e9
    · obtain rfl : E_3 = "java/lang/IndexOutOfBoundsException" := hE9.trans (by rw [e9]; rfl)
      refine VX_catch Z (pre := []) (x := ⟨0, 14, 15, 20⟩) (suf := [⟨0, 14, 18, 14⟩]) (htab.trans rfl) (fun z hz => nomatch hz) (by decide) (by decide) (by decide) (tm 650 (by decide +kernel) (by decide +kernel)) (by decide +kernel) rfl (fun q9 => ?_)
      refine V_astore_n Y.1 (ls' := [(3, _), (0, _), (1, _), (2, _)]) dL_tapIn_15 (rfl : _ = 16) rfl (by decide) rfl ?_
      refine V_iconst Y.1 (v := -1) dL_tapIn_16 (rfl : _ = 17) (by decide) ?_
      exact V_ret Y.1 dL_tapIn_17 rfl (Nat.le_of_ble_eq_true rfl) (Nat.le_of_ble_eq_true rfl) (Or.inr ⟨nz9, by rw [e9]; rfl, hJ9⟩)
    · obtain rfl : E_3 = "java/lang/IllegalStateException" := hE9.trans (by rw [e9]; rfl)
      refine VX_catch Z (pre := [⟨0, 14, 15, 20⟩]) (x := ⟨0, 14, 18, 14⟩) (suf := []) (htab.trans rfl) (fun z hz => by obtain rfl := List.mem_singleton.mp hz; exact Or.inr ⟨by decide, "java/lang/IndexOutOfBoundsException", (tm 650 (by decide +kernel) (by decide +kernel)), by decide, by decide⟩) (by decide) (by decide) (by decide) (tm 297 (by decide +kernel) (by decide +kernel)) (by decide +kernel) rfl (fun q9 => ?_)
      refine V_astore_n Y.1 (ls' := [(3, _), (0, _), (1, _), (2, _)]) dL_tapIn_18 (rfl : _ = 19) rfl (by decide) rfl ?_
      refine V_bipush Y.1 (v := -2) dL_tapIn_19 (rfl : _ = 21) (by decide) ?_
      exact V_ret Y.1 dL_tapIn_21 rfl (Nat.le_of_ble_eq_true rfl) (Nat.le_of_ble_eq_true rfl) (Or.inr ⟨nz9, by rw [e9]; rfl, hJ9⟩)
  obtain ⟨hz9, hv9, hF9⟩ := hq_3
  obtain ⟨s9, n9, t9, hJ9⟩ := lw_do hJ hF hS hH hba hou hsc hX hq4 (show 2 < 8 by decide) hz9 hF9 o_3
  refine V_if_eq Y.1 (tgt := 13) dL_tapIn_6 (by decide) (rfl : _ = 9) (fun c_6 => ?_) (fun c_6 => ?_)
  · refine V_iconst Y.1 (v := 0) dL_tapIn_13 (rfl : _ = 14) (by decide) ?_
    exact V_ret Y.1 dL_tapIn_14 rfl (Nat.le_of_ble_eq_true rfl) (Nat.le_of_ble_eq_true rfl) (Or.inl ⟨hz9, (by first | exact c_6.symm.trans hv9 | exact (((show v_3 = 0 ∨ v_3 = 1 by rw [hv9]; split <;> simp).resolve_left c_6).symm).trans hv9), s9, n9, t9, hJ9⟩)
  · refine V_iconst Y.1 (v := 1) dL_tapIn_9 (rfl : _ = 10) (by decide) ?_
    refine V_goto Y.1 (tgt := 14) dL_tapIn_10 (by decide) ?_
    exact V_ret Y.1 dL_tapIn_14 rfl (Nat.le_of_ble_eq_true rfl) (Nat.le_of_ble_eq_true rfl) (Or.inl ⟨hz9, (by first | exact c_6.symm.trans hv9 | exact (((show v_3 = 0 ∨ v_3 = 1 by rw [hv9]; split <;> simp).resolve_left c_6).symm).trans hv9), s9, n9, t9, hJ9⟩)

set_option maxRecDepth 100000 in
set_option maxHeartbeats 4000000 in
theorem c_L_tapOut (l : Launch) (D : va_G) (kA : Nat → ClassId) (Hs : Heap) (σ : SG) (H0 : Heap) (hg : Ag Hs H0) (a : Nat) (M : MS) (s : Nat → Int32) (n t q u : Nat) (p : Nat → Nat → Int32) (no : Nat) (go : Nat → Int32) (ns : Nat) (X : Nat → Prop) (x y : Int32) (hJ : Lw D kA Hs H0 a M s n t q u p no go ns X) (hnt : l.stackTraces = false) (hq4 : q ≤ 40000) : CtW l D kA Hs σ yL_tapOut cL_tapOut 4 (some .int) [(0, 6, 7, 20), (0, 6, 10, 14)] 11 187 9 30 H0 [.ref a, .int x, .int y] (fun q => Hs.size ≤ q ∧ ¬ X q) (pI fun k9 H9 => (m_prob M 3 x y = 0 ∧ k9 = (m_do M (t / 1440) n 3 x y).1 ∧ ∃ s' n' t', Lw D kA Hs H9 a (m_do M (t / 1440) n 3 x y).2 s' n' t' (q + 1) (p_u u) (p_ph p s u) no go ns X) ∨ (¬ m_prob M 3 x y = 0 ∧ k9 = fc 3 (m_prob M 3 x y) ∧ Lw D kA Hs H9 a M s n t q u p no go ns X)) := by
  refine CtW.of mh_L_tapOut (Nat.le_of_ble_eq_true rfl) (ls0 := [(0, _), (1, _), (2, _)]) rfl hg (fun q hq => hq.1) ?_
  intro Pp Ee Ss Mm Ar Bl Me Cc Z hsH htab
  have Y := Z.1
  obtain ⟨W, π, ES, ep, fc, vs, cs, gs, tt, hF, rfl, hS, hH, -, hba, hou, hsc, hX⟩ := id hJ
  refine V_aload_n Y.1 0 dL_tapOut_0 (rfl : _ = 1) rfl rfl ?_
  refine V_iload_n Y.1 1 dL_tapOut_1 (rfl : _ = 2) rfl rfl ?_
  refine V_iload_n Y.1 2 dL_tapOut_2 (rfl : _ = 3) rfl rfl ?_
  refine V_xI Y (sxV Z (c_X5_tapOut l D kA Hs σ _ hg a W π ES u 0 ep fc no go vs cs ns gs x y n (t / 1440) hF hnt hS.1.mi hba) mi_X5_tapOut vi_L_30 rfl hF.1.1 rfl rfl (Nat.le_of_ble_eq_true rfl) ⟨Nat.le_of_ble_eq_true rfl, Nat.le_of_ble_eq_true rfl⟩ (Nat.le_of_ble_eq_true rfl) (Nat.le_of_ble_eq_true rfl) dL_tapOut_3) (fun q z => Or.inl ((blk_g hba hX) q z)) (rfl : _ = 6) (fun E_3 H3_3 hx_3 o_3 => ?_) (fun v_3 H3_3 hq_3 o_3 => ?_)
  · obtain ⟨hE9, nz9, hF9⟩ := hx_3
    have hJ9 := lw_mk hF9 rfl hS hH hJ.ag hba hou hsc hX o_3 (blk_g hba hX)
    rcases xz_3 nz9 with e9 | e9
    · obtain rfl : E_3 = "java/lang/IndexOutOfBoundsException" := hE9.trans (by rw [e9]; rfl)
      refine VX_catch Z (pre := []) (x := ⟨0, 6, 7, 20⟩) (suf := [⟨0, 6, 10, 14⟩]) (htab.trans rfl) (fun z hz => nomatch hz) (by decide) (by decide) (by decide) (tm 650 (by decide +kernel) (by decide +kernel)) (by decide +kernel) rfl (fun q9 => ?_)
      refine V_astore_n Y.1 (ls' := [(3, _), (0, _), (1, _), (2, _)]) dL_tapOut_7 (rfl : _ = 8) rfl (by decide) rfl ?_
      refine V_iconst Y.1 (v := -1) dL_tapOut_8 (rfl : _ = 9) (by decide) ?_
      exact V_ret Y.1 dL_tapOut_9 rfl (Nat.le_of_ble_eq_true rfl) (Nat.le_of_ble_eq_true rfl) (Or.inr ⟨nz9, by rw [e9]; rfl, hJ9⟩)
    · obtain rfl : E_3 = "java/lang/IllegalStateException" := hE9.trans (by rw [e9]; rfl)
      refine VX_catch Z (pre := [⟨0, 6, 7, 20⟩]) (x := ⟨0, 6, 10, 14⟩) (suf := []) (htab.trans rfl) (fun z hz => by obtain rfl := List.mem_singleton.mp hz; exact Or.inr ⟨by decide, "java/lang/IndexOutOfBoundsException", (tm 650 (by decide +kernel) (by decide +kernel)), by decide, by decide⟩) (by decide) (by decide) (by decide) (tm 297 (by decide +kernel) (by decide +kernel)) (by decide +kernel) rfl (fun q9 => ?_)
      refine V_astore_n Y.1 (ls' := [(3, _), (0, _), (1, _), (2, _)]) dL_tapOut_10 (rfl : _ = 11) rfl (by decide) rfl ?_
      refine V_bipush Y.1 (v := -2) dL_tapOut_11 (rfl : _ = 13) (by decide) ?_
      exact V_ret Y.1 dL_tapOut_13 rfl (Nat.le_of_ble_eq_true rfl) (Nat.le_of_ble_eq_true rfl) (Or.inr ⟨nz9, by rw [e9]; rfl, hJ9⟩)
  obtain ⟨hz9, hv9, hF9⟩ := hq_3
  obtain ⟨s9, n9, t9, hJ9⟩ := lw_do hJ hF hS hH hba hou hsc hX hq4 (show 3 < 8 by decide) hz9 hF9 o_3
  exact V_ret Y.1 dL_tapOut_6 rfl (Nat.le_of_ble_eq_true rfl) (Nat.le_of_ble_eq_true rfl) (Or.inl ⟨hz9, hv9, s9, n9, t9, hJ9⟩)

set_option maxRecDepth 100000 in
set_option maxHeartbeats 4000000 in
theorem c_L_repair (l : Launch) (D : va_G) (kA : Nat → ClassId) (Hs : Heap) (σ : SG) (H0 : Heap) (hg : Ag Hs H0) (a : Nat) (M : MS) (s : Nat → Int32) (n t q u : Nat) (p : Nat → Nat → Int32) (no : Nat) (go : Nat → Int32) (ns : Nat) (X : Nat → Prop) (x y : Int32) (hJ : Lw D kA Hs H0 a M s n t q u p no go ns X) (hnt : l.stackTraces = false) (hq4 : q ≤ 40000) : CtW l D kA Hs σ yL_repair cL_repair 4 (some .int) [(0, 6, 7, 20), (0, 6, 10, 36), (0, 6, 14, 14)] 11 187 9 30 H0 [.ref a, .int x, .int y] (fun q => Hs.size ≤ q ∧ ¬ X q) (pI fun k9 H9 => (m_prob M 4 x y = 0 ∧ k9 = (m_do M (t / 1440) n 4 x y).1 ∧ ∃ s' n' t', Lw D kA Hs H9 a (m_do M (t / 1440) n 4 x y).2 s' n' t' (q + 1) (p_u u) (p_ph p s u) no go ns X) ∨ (¬ m_prob M 4 x y = 0 ∧ k9 = fc 4 (m_prob M 4 x y) ∧ Lw D kA Hs H9 a M s n t q u p no go ns X)) := by
  refine CtW.of mh_L_repair (Nat.le_of_ble_eq_true rfl) (ls0 := [(0, _), (1, _), (2, _)]) rfl hg (fun q hq => hq.1) ?_
  intro Pp Ee Ss Mm Ar Bl Me Cc Z hsH htab
  have Y := Z.1
  obtain ⟨W, π, ES, ep, fc, vs, cs, gs, tt, hF, rfl, hS, hH, -, hba, hou, hsc, hX⟩ := id hJ
  refine V_aload_n Y.1 0 dL_repair_0 (rfl : _ = 1) rfl rfl ?_
  refine V_iload_n Y.1 1 dL_repair_1 (rfl : _ = 2) rfl rfl ?_
  refine V_iload_n Y.1 2 dL_repair_2 (rfl : _ = 3) rfl rfl ?_
  refine V_xI Y (sxV Z (c_X5_repair l D kA Hs σ _ hg a W π ES u 0 ep fc no go vs cs ns gs x y n (t / 1440) hF hnt hS.1.mi hba) mi_X5_repair vi_L_33 rfl hF.1.1 rfl rfl (Nat.le_of_ble_eq_true rfl) ⟨Nat.le_of_ble_eq_true rfl, Nat.le_of_ble_eq_true rfl⟩ (Nat.le_of_ble_eq_true rfl) (Nat.le_of_ble_eq_true rfl) dL_repair_3) (fun q z => Or.inl ((blk_g hba hX) q z)) (rfl : _ = 6) (fun E_3 H3_3 hx_3 o_3 => ?_) (fun v_3 H3_3 hq_3 o_3 => ?_)
  · obtain ⟨hE9, nz9, hF9⟩ := hx_3
    have hJ9 := lw_mk hF9 rfl hS hH hJ.ag hba hou hsc hX o_3 (blk_g hba hX)
    rcases xz_4 nz9 with e9 | e9 | e9
    · obtain rfl : E_3 = "java/lang/IndexOutOfBoundsException" := hE9.trans (by rw [e9]; rfl)
      refine VX_catch Z (pre := []) (x := ⟨0, 6, 7, 20⟩) (suf := [⟨0, 6, 10, 36⟩, ⟨0, 6, 14, 14⟩]) (htab.trans rfl) (fun z hz => nomatch hz) (by decide) (by decide) (by decide) (tm 650 (by decide +kernel) (by decide +kernel)) (by decide +kernel) rfl (fun q9 => ?_)
      refine V_astore_n Y.1 (ls' := [(3, _), (0, _), (1, _), (2, _)]) dL_repair_7 (rfl : _ = 8) rfl (by decide) rfl ?_
      refine V_iconst Y.1 (v := -1) dL_repair_8 (rfl : _ = 9) (by decide) ?_
      exact V_ret Y.1 dL_repair_9 rfl (Nat.le_of_ble_eq_true rfl) (Nat.le_of_ble_eq_true rfl) (Or.inr ⟨nz9, by rw [e9]; rfl, hJ9⟩)
    · obtain rfl : E_3 = "java/util/NoSuchElementException" := hE9.trans (by rw [e9]; rfl)
      refine VX_catch Z (pre := [⟨0, 6, 7, 20⟩]) (x := ⟨0, 6, 10, 36⟩) (suf := [⟨0, 6, 14, 14⟩]) (htab.trans rfl) (fun z hz => by obtain rfl := List.mem_singleton.mp hz; exact Or.inr ⟨by decide, "java/lang/IndexOutOfBoundsException", (tm 650 (by decide +kernel) (by decide +kernel)), by decide, by decide⟩) (by decide) (by decide) (by decide) (tm 767 (by decide +kernel) (by decide +kernel)) (by decide +kernel) rfl (fun q9 => ?_)
      refine V_astore_n Y.1 (ls' := [(3, _), (0, _), (1, _), (2, _)]) dL_repair_10 (rfl : _ = 11) rfl (by decide) rfl ?_
      refine V_bipush Y.1 (v := -2) dL_repair_11 (rfl : _ = 13) (by decide) ?_
      exact V_ret Y.1 dL_repair_13 rfl (Nat.le_of_ble_eq_true rfl) (Nat.le_of_ble_eq_true rfl) (Or.inr ⟨nz9, by rw [e9]; rfl, hJ9⟩)
    · obtain rfl : E_3 = "java/lang/IllegalStateException" := hE9.trans (by rw [e9]; rfl)
      refine VX_catch Z (pre := [⟨0, 6, 7, 20⟩, ⟨0, 6, 10, 36⟩]) (x := ⟨0, 6, 14, 14⟩) (suf := []) (htab.trans rfl) (fun z hz => by rcases List.mem_cons.mp hz with rfl | hz; exact Or.inr ⟨by decide, "java/lang/IndexOutOfBoundsException", (tm 650 (by decide +kernel) (by decide +kernel)), by decide, by decide⟩; obtain rfl := List.mem_singleton.mp hz; exact Or.inr ⟨by decide, "java/util/NoSuchElementException", (tm 767 (by decide +kernel) (by decide +kernel)), by decide, by decide⟩) (by decide) (by decide) (by decide) (tm 297 (by decide +kernel) (by decide +kernel)) (by decide +kernel) rfl (fun q9 => ?_)
      refine V_astore_n Y.1 (ls' := [(3, _), (0, _), (1, _), (2, _)]) dL_repair_14 (rfl : _ = 15) rfl (by decide) rfl ?_
      refine V_bipush Y.1 (v := -3) dL_repair_15 (rfl : _ = 17) (by decide) ?_
      exact V_ret Y.1 dL_repair_17 rfl (Nat.le_of_ble_eq_true rfl) (Nat.le_of_ble_eq_true rfl) (Or.inr ⟨nz9, by rw [e9]; rfl, hJ9⟩)
  obtain ⟨hz9, hv9, hF9⟩ := hq_3
  obtain ⟨s9, n9, t9, hJ9⟩ := lw_do hJ hF hS hH hba hou hsc hX hq4 (show 4 < 8 by decide) hz9 hF9 o_3
  exact V_ret Y.1 dL_repair_6 rfl (Nat.le_of_ble_eq_true rfl) (Nat.le_of_ble_eq_true rfl) (Or.inl ⟨hz9, hv9, s9, n9, t9, hJ9⟩)

set_option maxRecDepth 100000 in
set_option maxHeartbeats 4000000 in
theorem c_L_setZone (l : Launch) (D : va_G) (kA : Nat → ClassId) (Hs : Heap) (σ : SG) (H0 : Heap) (hg : Ag Hs H0) (a : Nat) (M : MS) (s : Nat → Int32) (n t q u : Nat) (p : Nat → Nat → Int32) (no : Nat) (go : Nat → Int32) (ns : Nat) (X : Nat → Prop) (x y : Int32) (hJ : Lw D kA Hs H0 a M s n t q u p no go ns X) (hnt : l.stackTraces = false) (hq4 : q ≤ 40000) : CtW l D kA Hs σ yL_setZone cL_setZone 4 (some .int) [(0, 6, 7, 20), (0, 6, 10, 22)] 11 187 9 30 H0 [.ref a, .int x, .int y] (fun q => Hs.size ≤ q ∧ ¬ X q) (pI fun k9 H9 => (m_prob M 5 x y = 0 ∧ k9 = (m_do M (t / 1440) n 5 x y).1 ∧ ∃ s' n' t', Lw D kA Hs H9 a (m_do M (t / 1440) n 5 x y).2 s' n' t' (q + 1) (p_u u) (p_ph p s u) no go ns X) ∨ (¬ m_prob M 5 x y = 0 ∧ k9 = fc 5 (m_prob M 5 x y) ∧ Lw D kA Hs H9 a M s n t q u p no go ns X)) := by
  refine CtW.of mh_L_setZone (Nat.le_of_ble_eq_true rfl) (ls0 := [(0, _), (1, _), (2, _)]) rfl hg (fun q hq => hq.1) ?_
  intro Pp Ee Ss Mm Ar Bl Me Cc Z hsH htab
  have Y := Z.1
  obtain ⟨W, π, ES, ep, fc, vs, cs, gs, tt, hF, rfl, hS, hH, -, hba, hou, hsc, hX⟩ := id hJ
  refine V_aload_n Y.1 0 dL_setZone_0 (rfl : _ = 1) rfl rfl ?_
  refine V_iload_n Y.1 1 dL_setZone_1 (rfl : _ = 2) rfl rfl ?_
  refine V_iload_n Y.1 2 dL_setZone_2 (rfl : _ = 3) rfl rfl ?_
  refine V_xI Y (sxV Z (c_X5_setZone l D kA Hs σ _ hg a W π ES u 0 ep fc no go vs cs ns gs x y n (t / 1440) hF hnt hS.1.mi hba) mi_X5_setZone vi_L_38 rfl hF.1.1 rfl rfl (Nat.le_of_ble_eq_true rfl) ⟨Nat.le_of_ble_eq_true rfl, Nat.le_of_ble_eq_true rfl⟩ (Nat.le_of_ble_eq_true rfl) (Nat.le_of_ble_eq_true rfl) dL_setZone_3) (fun q z => Or.inl ((blk_g hba hX) q z)) (rfl : _ = 6) (fun E_3 H3_3 hx_3 o_3 => ?_) (fun v_3 H3_3 hq_3 o_3 => ?_)
  · obtain ⟨hE9, nz9, hF9⟩ := hx_3
    have hJ9 := lw_mk hF9 rfl hS hH hJ.ag hba hou hsc hX o_3 (blk_g hba hX)
    rcases xz_5 nz9 with e9 | e9
    · obtain rfl : E_3 = "java/lang/IndexOutOfBoundsException" := hE9.trans (by rw [e9]; rfl)
      refine VX_catch Z (pre := []) (x := ⟨0, 6, 7, 20⟩) (suf := [⟨0, 6, 10, 22⟩]) (htab.trans rfl) (fun z hz => nomatch hz) (by decide) (by decide) (by decide) (tm 650 (by decide +kernel) (by decide +kernel)) (by decide +kernel) rfl (fun q9 => ?_)
      refine V_astore_n Y.1 (ls' := [(3, _), (0, _), (1, _), (2, _)]) dL_setZone_7 (rfl : _ = 8) rfl (by decide) rfl ?_
      refine V_iconst Y.1 (v := -1) dL_setZone_8 (rfl : _ = 9) (by decide) ?_
      exact V_ret Y.1 dL_setZone_9 rfl (Nat.le_of_ble_eq_true rfl) (Nat.le_of_ble_eq_true rfl) (Or.inr ⟨nz9, by rw [e9]; rfl, hJ9⟩)
    · obtain rfl : E_3 = "java/lang/IllegalArgumentException" := hE9.trans (by rw [e9]; rfl)
      refine VX_catch Z (pre := [⟨0, 6, 7, 20⟩]) (x := ⟨0, 6, 10, 22⟩) (suf := []) (htab.trans rfl) (fun z hz => by obtain rfl := List.mem_singleton.mp hz; exact Or.inr ⟨by decide, "java/lang/IndexOutOfBoundsException", (tm 650 (by decide +kernel) (by decide +kernel)), by decide, by decide⟩) (by decide) (by decide) (by decide) (tm 671 (by decide +kernel) (by decide +kernel)) (by decide +kernel) rfl (fun q9 => ?_)
      refine V_astore_n Y.1 (ls' := [(3, _), (0, _), (1, _), (2, _)]) dL_setZone_10 (rfl : _ = 11) rfl (by decide) rfl ?_
      refine V_bipush Y.1 (v := -2) dL_setZone_11 (rfl : _ = 13) (by decide) ?_
      exact V_ret Y.1 dL_setZone_13 rfl (Nat.le_of_ble_eq_true rfl) (Nat.le_of_ble_eq_true rfl) (Or.inr ⟨nz9, by rw [e9]; rfl, hJ9⟩)
  obtain ⟨hz9, hv9, hF9⟩ := hq_3
  obtain ⟨s9, n9, t9, hJ9⟩ := lw_do hJ hF hS hH hba hou hsc hX hq4 (show 5 < 8 by decide) hz9 hF9 o_3
  exact V_ret Y.1 dL_setZone_6 rfl (Nat.le_of_ble_eq_true rfl) (Nat.le_of_ble_eq_true rfl) (Or.inl ⟨hz9, hv9, s9, n9, t9, hJ9⟩)

set_option maxRecDepth 100000 in
set_option maxHeartbeats 4000000 in
theorem c_L_setFares (l : Launch) (D : va_G) (kA : Nat → ClassId) (Hs : Heap) (σ : SG) (H0 : Heap) (hg : Ag Hs H0) (a : Nat) (M : MS) (s : Nat → Int32) (n t q u : Nat) (p : Nat → Nat → Int32) (no : Nat) (go : Nat → Int32) (ns : Nat) (X : Nat → Prop) (x y : Int32) (hJ : Lw D kA Hs H0 a M s n t q u p no go ns X) (hnt : l.stackTraces = false) (hq4 : q ≤ 40000) : CtW l D kA Hs σ yL_setFares cL_setFares 4 (some .int) [(0, 6, 7, 22)] 11 187 9 30 H0 [.ref a, .int x, .int y] (fun q => Hs.size ≤ q ∧ ¬ X q) (pI fun k9 H9 => (m_prob M 6 x y = 0 ∧ k9 = (m_do M (t / 1440) n 6 x y).1 ∧ ∃ s' n' t', Lw D kA Hs H9 a (m_do M (t / 1440) n 6 x y).2 s' n' t' (q + 1) (p_u u) (p_ph p s u) no go ns X) ∨ (¬ m_prob M 6 x y = 0 ∧ k9 = fc 6 (m_prob M 6 x y) ∧ Lw D kA Hs H9 a M s n t q u p no go ns X)) := by
  refine CtW.of mh_L_setFares (Nat.le_of_ble_eq_true rfl) (ls0 := [(0, _), (1, _), (2, _)]) rfl hg (fun q hq => hq.1) ?_
  intro Pp Ee Ss Mm Ar Bl Me Cc Z hsH htab
  have Y := Z.1
  obtain ⟨W, π, ES, ep, fc, vs, cs, gs, tt, hF, rfl, hS, hH, -, hba, hou, hsc, hX⟩ := id hJ
  refine V_aload_n Y.1 0 dL_setFares_0 (rfl : _ = 1) rfl rfl ?_
  refine V_iload_n Y.1 1 dL_setFares_1 (rfl : _ = 2) rfl rfl ?_
  refine V_iload_n Y.1 2 dL_setFares_2 (rfl : _ = 3) rfl rfl ?_
  refine V_xI Y (sxV Z (c_X5_setFares l D kA Hs σ _ hg a W π ES u 0 ep fc no go vs cs ns gs x y n (t / 1440) hF hnt hS.1.mi hba) mi_X5_setFares vi_L_41 rfl hF.1.1 rfl rfl (Nat.le_of_ble_eq_true rfl) ⟨Nat.le_of_ble_eq_true rfl, Nat.le_of_ble_eq_true rfl⟩ (Nat.le_of_ble_eq_true rfl) (Nat.le_of_ble_eq_true rfl) dL_setFares_3) (fun q z => Or.inl ((blk_g hba hX) q z)) (rfl : _ = 6) (fun E_3 H3_3 hx_3 o_3 => ?_) (fun v_3 H3_3 hq_3 o_3 => ?_)
  · obtain ⟨hE9, nz9, hF9⟩ := hx_3
    have hJ9 := lw_mk hF9 rfl hS hH hJ.ag hba hou hsc hX o_3 (blk_g hba hX)
    have e9 := xz_6 nz9
    obtain rfl : E_3 = "java/lang/IllegalArgumentException" := hE9.trans (by rw [e9]; rfl)
    refine VX_catch Z (pre := []) (x := ⟨0, 6, 7, 22⟩) (suf := []) (htab.trans rfl) (fun z hz => nomatch hz) (by decide) (by decide) (by decide) (tm 671 (by decide +kernel) (by decide +kernel)) (by decide +kernel) rfl (fun q9 => ?_)
    refine V_astore_n Y.1 (ls' := [(3, _), (0, _), (1, _), (2, _)]) dL_setFares_7 (rfl : _ = 8) rfl (by decide) rfl ?_
    refine V_iconst Y.1 (v := -1) dL_setFares_8 (rfl : _ = 9) (by decide) ?_
    exact V_ret Y.1 dL_setFares_9 rfl (Nat.le_of_ble_eq_true rfl) (Nat.le_of_ble_eq_true rfl) (Or.inr ⟨nz9, by rw [e9]; rfl, hJ9⟩)
  obtain ⟨hz9, hv9, hF9⟩ := hq_3
  obtain ⟨s9, n9, t9, hJ9⟩ := lw_do hJ hF hS hH hba hou hsc hX hq4 (show 6 < 8 by decide) hz9 hF9 o_3
  exact V_ret Y.1 dL_setFares_6 rfl (Nat.le_of_ble_eq_true rfl) (Nat.le_of_ble_eq_true rfl) (Or.inl ⟨hz9, hv9, s9, n9, t9, hJ9⟩)

set_option maxRecDepth 100000 in
set_option maxHeartbeats 4000000 in
theorem c_L_advance (l : Launch) (D : va_G) (kA : Nat → ClassId) (Hs : Heap) (σ : SG) (H0 : Heap) (hg : Ag Hs H0) (a : Nat) (M : MS) (s : Nat → Int32) (n t q u : Nat) (p : Nat → Nat → Int32) (no : Nat) (go : Nat → Int32) (ns : Nat) (X : Nat → Prop) (x : Int32) (hJ : Lw D kA Hs H0 a M s n t q u p no go ns X) (hnt : l.stackTraces = false) (hq4 : q ≤ 40000) : CtW l D kA Hs σ yL_advance cL_advance 3 (some .int) [(0, 5, 6, 22)] 11 186 9 30 H0 [.ref a, .int x] (fun q => Hs.size ≤ q ∧ ¬ X q) (pI fun k9 H9 => (m_prob M 7 x 0 = 0 ∧ k9 = (m_do M (t / 1440) n 7 x 0).1 ∧ ∃ s' n' t', Lw D kA Hs H9 a (m_do M (t / 1440) n 7 x 0).2 s' n' t' (q + 1) (p_u u) (p_ph p s u) no go ns X) ∨ (¬ m_prob M 7 x 0 = 0 ∧ k9 = fc 7 (m_prob M 7 x 0) ∧ Lw D kA Hs H9 a M s n t q u p no go ns X)) := by
  refine CtW.of mh_L_advance (Nat.le_of_ble_eq_true rfl) (ls0 := [(0, _), (1, _)]) rfl hg (fun q hq => hq.1) ?_
  intro Pp Ee Ss Mm Ar Bl Me Cc Z hsH htab
  have Y := Z.1
  obtain ⟨W, π, ES, ep, fc, vs, cs, gs, tt, hF, rfl, hS, hH, -, hba, hou, hsc, hX⟩ := id hJ
  refine V_aload_n Y.1 0 dL_advance_0 (rfl : _ = 1) rfl rfl ?_
  refine V_iload_n Y.1 1 dL_advance_1 (rfl : _ = 2) rfl rfl ?_
  refine V_xI Y (sxV Z (c_X5_advance l D kA Hs σ _ hg a W π ES u 0 ep fc no go vs cs ns gs x n (t / 1440) hF hnt hS.1.mi hba) mi_X5_advance vi_L_44 rfl hF.1.1 rfl rfl (Nat.le_of_ble_eq_true rfl) ⟨Nat.le_of_ble_eq_true rfl, Nat.le_of_ble_eq_true rfl⟩ (Nat.le_of_ble_eq_true rfl) (Nat.le_of_ble_eq_true rfl) dL_advance_2) (fun q z => Or.inl ((blk_g hba hX) q z)) (rfl : _ = 5) (fun E_2 H2_2 hx_2 o_2 => ?_) (fun v_2 H2_2 hq_2 o_2 => ?_)
  · obtain ⟨hE9, nz9, hF9⟩ := hx_2
    have hJ9 := lw_mk hF9 rfl hS hH hJ.ag hba hou hsc hX o_2 (blk_g hba hX)
    have e9 := xz_7 nz9
    obtain rfl : E_2 = "java/lang/IllegalArgumentException" := hE9.trans (by rw [e9]; rfl)
    refine VX_catch Z (pre := []) (x := ⟨0, 5, 6, 22⟩) (suf := []) (htab.trans rfl) (fun z hz => nomatch hz) (by decide) (by decide) (by decide) (tm 671 (by decide +kernel) (by decide +kernel)) (by decide +kernel) rfl (fun q9 => ?_)
    refine V_astore_n Y.1 (ls' := [(2, _), (0, _), (1, _)]) dL_advance_6 (rfl : _ = 7) rfl (by decide) rfl ?_
    refine V_iconst Y.1 (v := -1) dL_advance_7 (rfl : _ = 8) (by decide) ?_
    exact V_ret Y.1 dL_advance_8 rfl (Nat.le_of_ble_eq_true rfl) (Nat.le_of_ble_eq_true rfl) (Or.inr ⟨nz9, by rw [e9]; rfl, hJ9⟩)
  obtain ⟨hz9, hv9, hF9⟩ := hq_2
  obtain ⟨s9, n9, t9, hJ9⟩ := lw_do hJ hF hS hH hba hou hsc hX hq4 (show 7 < 8 by decide) hz9 hF9 o_2
  exact V_ret Y.1 dL_advance_5 rfl (Nat.le_of_ble_eq_true rfl) (Nat.le_of_ble_eq_true rfl) (Or.inl ⟨hz9, hv9, s9, n9, t9, hJ9⟩)

set_option maxRecDepth 100000 in
set_option maxHeartbeats 4000000 in
theorem c_L_undo (l : Launch) (D : va_G) (kA : Nat → ClassId) (Hs : Heap) (σ : SG) (H0 : Heap) (hg : Ag Hs H0) (a : Nat) (M : MS) (s : Nat → Int32) (n t q u : Nat) (p : Nat → Nat → Int32) (no : Nat) (go : Nat → Int32) (ns : Nat) (X : Nat → Prop) (hJ : Lw D kA Hs H0 a M s n t q u p no go ns X) (hnt : l.stackTraces = false) : CtW l D kA Hs σ yL_undo cL_undo 2 (some .int) [(0, 4, 5, 36)] 9 141 1 6 H0 [.ref a] (fun q => Hs.size ≤ q ∧ ¬ X q) (pI fun k9 H9 => (0 < u ∧ k9 = nI (u - 1) ∧ ∃ M2 n2 t2, Lw D kA Hs H9 a M2 (p (u - 1)) n2 t2 q (u - 1) p no go ns X) ∨ (u = 0 ∧ k9 = -1 ∧ Lw D kA Hs H9 a M s n t q u p no go ns X)) := by
  refine CtW.of mh_L_undo (Nat.le_of_ble_eq_true rfl) (ls0 := [(0, _)]) rfl hg (fun q hq => hq.1) ?_
  intro Pp Ee Ss Mm Ar Bl Me Cc Z hsH htab
  have Y := Z.1
  obtain ⟨W, π, ES, ep, fc, vs, cs, gs, tt, hF, rfl, hS, hH, -, hba, hou, hsc, hX⟩ := id hJ
  refine V_aload_n Y.1 0 dL_undo_0 (rfl : _ = 1) rfl rfl ?_
  refine V_xI Y (sxV Z (c_X5_undo l D kA Hs σ _ hg a W π ES u 0 ep fc no go vs cs ns gs hF hnt hba) mi_X5_undo vi_L_127 rfl hF.1.1 rfl rfl (Nat.le_of_ble_eq_true rfl) ⟨Nat.le_of_ble_eq_true rfl, Nat.le_of_ble_eq_true rfl⟩ (Nat.le_of_ble_eq_true rfl) (Nat.le_of_ble_eq_true rfl) dL_undo_1) (fun q z => Or.inl ((blk_g hba hX) q z)) (rfl : _ = 4) (fun E_1 H1_1 hx_1 o_1 => ?_) (fun v_1 H1_1 hq_1 o_1 => ?_)
  · obtain ⟨rfl, hu0, hF9⟩ := hx_1
    have hJ9 := lw_mk hF9 rfl hS hH hJ.ag hba hou hsc hX o_1 (blk_g hba hX)
    refine VX_catch Z (pre := []) (x := ⟨0, 4, 5, 36⟩) (suf := []) (htab.trans rfl) (fun z hz => nomatch hz) (by decide) (by decide) (by decide) (tm 767 (by decide +kernel) (by decide +kernel)) (by decide +kernel) rfl (fun q9 => ?_)
    refine V_astore_n Y.1 (ls' := [(1, _), (0, _)]) dL_undo_5 (rfl : _ = 6) rfl (by decide) rfl ?_
    refine V_iconst Y.1 (v := -1) dL_undo_6 (rfl : _ = 7) (by decide) ?_
    exact V_ret Y.1 dL_undo_7 rfl (Nat.le_of_ble_eq_true rfl) (Nat.le_of_ble_eq_true rfl) (Or.inr ⟨hu0, rfl, hJ9⟩)
  obtain ⟨hu9, hv9, hF9⟩ := hq_1
  obtain ⟨u, rfl⟩ : ∃ w, u = w + 1 := ⟨u - 1, by omega⟩
  obtain ⟨n2, t2, hS2⟩ := hH u (Nat.lt_succ_self u)
  have hJ9 := lw_mk hF9 (show W (p_swap π 0 (3 + u) 0) = W (π (3 + u)) by unfold p_swap; rw [if_pos rfl]) hS2 hH.undo hJ.ag hba hou hsc hX o_1 (blk_g hba hX)
  exact V_ret Y.1 dL_undo_4 rfl (Nat.le_of_ble_eq_true rfl) (Nat.le_of_ble_eq_true rfl) (Or.inl ⟨hu9, hv9, _, n2, t2, hJ9⟩)

set_option maxRecDepth 100000 in
set_option maxHeartbeats 4000000 in
theorem c_L_type (l : Launch) (D : va_G) (kA : Nat → ClassId) (Hs : Heap) (σ : SG) (H0 : Heap) (hg : Ag Hs H0) (a : Nat) (M : MS) (s : Nat → Int32) (n t q u : Nat) (p : Nat → Nat → Int32) (no : Nat) (go : Nat → Int32) (ns : Nat) (X : Nat → Prop) (c : Nat) (hJ : Lw D kA Hs H0 a M s n t q u p no go ns X) (hnt : l.stackTraces = false) (hc : c < 128) : CtW l D kA Hs σ yL_type cL_type 3 (some .int) [(0, 5, 6, 22), (0, 5, 10, 14)] 9 157 1 200 H0 [.ref a, .int (nI c)] (fun q => Hs.size ≤ q ∧ ¬ X q) (pI fun k9 H9 => ∃ ns2, Lw D kA Hs H9 a M s n t q u p no go ns2 X) := by
  refine CtW.of mh_L_type (Nat.le_of_ble_eq_true rfl) (ls0 := [(0, _), (1, _)]) rfl hg (fun q hq => hq.1) ?_
  intro Pp Ee Ss Mm Ar Bl Me Cc Z hsH htab
  have Y := Z.1
  obtain ⟨W, π, ES, ep, fc, vs, cs, gs, tt, hF, rfl, hS, hH, -, hba, hou, hsc, hX⟩ := id hJ
  refine V_aload_n Y.1 0 dL_type_0 (rfl : _ = 1) rfl rfl ?_
  refine V_iload_n Y.1 1 dL_type_1 (rfl : _ = 2) rfl rfl ?_
  refine V_xI Y (sxV Z (c_X5_type l D kA Hs σ _ hg a W π ES u 0 ep fc no go vs cs ns gs c (by omega) hF hnt hba) mi_X5_type vi_L_113 rfl hF.1.1 rfl rfl (Nat.le_of_ble_eq_true rfl) ⟨Nat.le_of_ble_eq_true rfl, Nat.le_of_ble_eq_true rfl⟩ (Nat.le_of_ble_eq_true rfl) (Nat.le_of_ble_eq_true rfl) dL_type_2) (fun q z => Or.inl ((ty_g hba hF hX) q z)) (rfl : _ = 5) (fun E_2 H2_2 hx_2 o_2 => ?_) (fun v_2 H2_2 hq_2 o_2 => ?_)
  · obtain ⟨hE9, hF9⟩ := hx_2
    have hJ9 := lw_mk hF9 rfl hS hH hJ.ag hba hou hsc hX o_2 (ty_g hba hF hX)
    rcases hE9 with ⟨rfl, -⟩ | ⟨rfl, -⟩
    · refine VX_catch Z (pre := []) (x := ⟨0, 5, 6, 22⟩) (suf := [⟨0, 5, 10, 14⟩]) (htab.trans rfl) (fun z hz => nomatch hz) (by decide) (by decide) (by decide) (tm 671 (by decide +kernel) (by decide +kernel)) (by decide +kernel) rfl (fun q9 => ?_)
      refine V_astore_n Y.1 (ls' := [(2, _), (0, _), (1, _)]) dL_type_6 (rfl : _ = 7) rfl (by decide) rfl ?_
      refine V_bipush Y.1 (v := -12) dL_type_7 (rfl : _ = 9) (by decide) ?_
      exact V_ret Y.1 dL_type_9 rfl (Nat.le_of_ble_eq_true rfl) (Nat.le_of_ble_eq_true rfl) ⟨_, hJ9⟩
    · refine VX_catch Z (pre := [⟨0, 5, 6, 22⟩]) (x := ⟨0, 5, 10, 14⟩) (suf := []) (htab.trans rfl) (fun z hz => by obtain rfl := List.mem_singleton.mp hz; exact Or.inr ⟨by decide, "java/lang/IllegalArgumentException", (tm 671 (by decide +kernel) (by decide +kernel)), by decide, by decide⟩) (by decide) (by decide) (by decide) (tm 297 (by decide +kernel) (by decide +kernel)) (by decide +kernel) rfl (fun q9 => ?_)
      refine V_astore_n Y.1 (ls' := [(2, _), (0, _), (1, _)]) dL_type_10 (rfl : _ = 11) rfl (by decide) rfl ?_
      refine V_bipush Y.1 (v := -14) dL_type_11 (rfl : _ = 13) (by decide) ?_
      exact V_ret Y.1 dL_type_13 rfl (Nat.le_of_ble_eq_true rfl) (Nat.le_of_ble_eq_true rfl) ⟨_, hJ9⟩
  obtain ⟨h32, h126, h60, hv9, vs1, cs1, g1, hvs, hF9, hg1, hg2⟩ := hq_2
  have hJ9 := lw_mk hF9 rfl hS hH hJ.ag hba hou (show ns + 1 ≤ 60 ∧ Tx g1 (upd tt ns (nI c)) (ns + 1) from ⟨h60, tx_put hsc.2 hg1 hg2 hc⟩) (ty_x hX hvs) o_2 (ty_g hba hF hX)
  exact V_ret Y.1 dL_type_5 rfl (Nat.le_of_ble_eq_true rfl) (Nat.le_of_ble_eq_true rfl) ⟨_, hJ9⟩

set_option maxRecDepth 100000 in
set_option maxHeartbeats 4000000 in
theorem c_L_runs (l : Launch) (D : va_G) (kA : Nat → ClassId) (Hs : Heap) (σ : SG) (H0 : Heap) (hg : Ag Hs H0) (a : Nat) (M : MS) (s : Nat → Int32) (n t q u : Nat) (p : Nat → Nat → Int32) (no : Nat) (go : Nat → Int32) (ns : Nat) (X : Nat → Prop) (hJ : Lw D kA Hs H0 a M s n t q u p no go ns X) (hnt : l.stackTraces = false) (hq4 : q ≤ 30000) : CtW l D kA Hs σ yL_runs cL_runs 2 (some .int) [(0, 4, 5, 22), (0, 4, 8, 14)] 11 221 73 222 H0 [.ref a] (fun q => Hs.size ≤ q ∧ ¬ X q) (pI fun k9 H9 => (¬ k9 < 0 ∧ ∃ M2 s2 n2 t2 ns2, Lw D kA Hs H9 a M2 s2 n2 t2 (q + 61) (p_u u) (p_ph p s u) no go ns2 X) ∨ (k9 < 0 ∧ ∃ M2 ns2, Lw D kA Hs H9 a M2 s n t q u p no go ns2 X)) := by
  refine CtW.of mh_L_runs (Nat.le_of_ble_eq_true rfl) (ls0 := [(0, _)]) rfl hg (fun q hq => hq.1) ?_
  intro Pp Ee Ss Mm Ar Bl Me Cc Z hsH htab
  have Y := Z.1
  obtain ⟨W, π, ES, ep, fc, vs, cs, gs, tt, hF, rfl, hS, hH, -, hba, hou, hsc, hX⟩ := id hJ
  obtain ⟨z9, hz9⟩ : ∃ z9, (q_cmds tt ns 61 (q_cmd tt ns (0, 0, 0, (fun _ => 0)))) = z9 := ⟨_, rfl⟩
  have hok9 : okC ns z9 := by rw [← hz9]; exact okC.cmds _ _ (okC.cmd (Nat.zero_le _) (Nat.zero_le _) (fun i hi => absurd hi (Nat.not_lt_zero i)))
  have hz21 := hok9.2.1
  have hln := hsc.1
  have hcnt : (z9.1 = 0 ∧ ns ≤ z9.2.1) → z9.2.2.1 ≤ 60 := fun z => by have := (hok9.2.2 z.1).1; omega
  obtain ⟨j9, hq8, hrun9⟩ : ∃ j9, ((z9.1 = 0 ∧ ns ≤ z9.2.1) → j9 ≤ z9.2.2.1 ∧ (∀ i, i < j9 → m_pb (W (π 0)) z9.2.2.2 i = 0) ∧ (j9 < z9.2.2.1 → ¬ m_pb (W (π 0)) z9.2.2.2 j9 = 0) ∧ ∀ i, i < j9 → ∃ n d, MI (m_st (W (π 0)) z9.2.2.2 i) n d) ∧ ((z9.1 = 0 ∧ ns ≤ z9.2.1) → j9 < z9.2.2.1 ∨ (j9 = z9.2.2.1 ∧ ∃ s8 n8 t8, SQ (m_st (W (π 0)) z9.2.2.2 j9) s8 n8 t8 (q + z9.2.2.1))) := by
    by_cases hfm : (z9.1 = 0 ∧ ns ≤ z9.2.1)
    · have hcn := hcnt hfm
      obtain ⟨j9, -, j2, j3, j4⟩ := run_sim (W (π 0)) z9.2.2.2 z9.2.2.1 0 s n t q hS (by omega)
      refine ⟨j9, fun _ => ⟨by omega, fun i hi => (j3 i (Nat.zero_le _) hi).1, fun hlt => ?_, fun i hi => (j3 i (Nat.zero_le _) hi).2⟩, fun _ => ?_⟩
      · rcases j4 with ⟨-, u2, -⟩ | ⟨u1, -⟩
        · exact u2
        · omega
      · rcases j4 with ⟨u1, -, u3⟩ | ⟨u1, u2, u3⟩
        · exact Or.inl (by omega)
        · exact Or.inr ⟨by omega, _, u3⟩
    · exact ⟨0, fun z => absurd z hfm, fun z => absurd z hfm⟩
  refine V_aload_n Y.1 0 dL_runs_0 (rfl : _ = 1) rfl rfl ?_
  refine V_xI Y (sxV Z (c_X5_runScript l D kA Hs σ _ hg a W π ES u 0 ep fc no go vs cs ns gs tt (fun _ => 0) z9 j9 n (t / 1440) hF hnt hS.1.mi hba hsc.2 hln hz9 hq8) mi_X5_runScript vi_L_117 rfl hF.1.1 rfl rfl (Nat.le_of_ble_eq_true rfl) ⟨Nat.le_of_ble_eq_true rfl, Nat.le_of_ble_eq_true rfl⟩ (Nat.le_of_ble_eq_true rfl) (Nat.le_of_ble_eq_true rfl) dL_runs_1) (fun q z => Or.inl ((blk_g hba hX) q z)) (rfl : _ = 4) (fun E_1 H1_1 hx_1 o_1 => ?_) (fun v_1 H1_1 hq_1 o_1 => ?_)
  · rcases hx_1 with ⟨rfl, -, hF9⟩ | ⟨rfl, hfm, hj9, hF9⟩
    · have hJ9 := lw_mk hF9 rfl hS hH hJ.ag hba hou (show 0 ≤ 60 ∧ Tx gs tt 0 from ⟨by decide, fun j hj => absurd hj (Nat.not_lt_zero j)⟩) hX o_1 (blk_g hba hX)
      refine VX_catch Z (pre := []) (x := ⟨0, 4, 5, 22⟩) (suf := [⟨0, 4, 8, 14⟩]) (htab.trans rfl) (fun z hz => nomatch hz) (by decide) (by decide) (by decide) (tm 671 (by decide +kernel) (by decide +kernel)) (by decide +kernel) rfl (fun q9 => ?_)
      refine V_astore_n Y.1 (ls' := [(1, _), (0, _)]) dL_runs_5 (rfl : _ = 6) rfl (by decide) rfl ?_
      refine V_iconst Y.1 (v := -1) dL_runs_6 (rfl : _ = 7) (by decide) ?_
      exact V_ret Y.1 dL_runs_7 rfl (Nat.le_of_ble_eq_true rfl) (Nat.le_of_ble_eq_true rfl) (Or.inr ⟨by decide, _, _, hJ9⟩)
    · have hJ9 := lw_mk hF9 (back_0 hF.2.2.2.2.2.1) (sq_copy hS _) (hH.back hF.2.2.2.2.2.1 hF.2.2.2.2.2.2.2.1) hJ.ag hba hou (show 0 ≤ 60 ∧ Tx gs tt 0 from ⟨by decide, fun j hj => absurd hj (Nat.not_lt_zero j)⟩) (gro_x hX) o_1 (blk_g hba hX)
      refine VX_catch Z (pre := [⟨0, 4, 5, 22⟩]) (x := ⟨0, 4, 8, 14⟩) (suf := []) (htab.trans rfl) (fun z hz => by obtain rfl := List.mem_singleton.mp hz; exact Or.inr ⟨by decide, "java/lang/IllegalArgumentException", (tm 671 (by decide +kernel) (by decide +kernel)), by decide, by decide⟩) (by decide) (by decide) (by decide) (tm 297 (by decide +kernel) (by decide +kernel)) (by decide +kernel) rfl (fun q9 => ?_)
      refine V_astore_n Y.1 (ls' := [(1, _), (0, _)]) dL_runs_8 (rfl : _ = 9) rfl (by decide) rfl ?_
      refine V_bipush Y.1 (v := -2) dL_runs_9 (rfl : _ = 11) (by decide) ?_
      exact V_ret Y.1 dL_runs_11 rfl (Nat.le_of_ble_eq_true rfl) (Nat.le_of_ble_eq_true rfl) (Or.inr ⟨by decide, _, _, hJ9⟩)
  obtain ⟨hfm, hj9, hv9, hF9⟩ := hq_1
  have hcn := hcnt hfm
  obtain ⟨hje, s8, n8, t8, hS8⟩ := (hrun9 hfm).resolve_left (fun z => hj9 z)
  have hJ9 := lw_mk hF9 (by rw [p_push_0, vu_eq]) (hS8.more (show q + z9.2.2.1 ≤ q + 61 by omega)) (hH.push hF.2.2.2.2.2.1 hF.2.2.2.2.2.2.2.1 (show q ≤ q + 61 by omega) hS) hJ.ag hba hou (show 0 ≤ 60 ∧ Tx gs tt 0 from ⟨by decide, fun j hj => absurd hj (Nat.not_lt_zero j)⟩) (gro_x hX) o_1 (blk_g hba hX)
  have hnn : ¬ v_1 < 0 := by rw [hv9]; exact nI_pos (by omega)
  exact V_ret Y.1 dL_runs_4 rfl (Nat.le_of_ble_eq_true rfl) (Nat.le_of_ble_eq_true rfl) (Or.inl ⟨hnn, _, _, _, _, _, hJ9⟩)

