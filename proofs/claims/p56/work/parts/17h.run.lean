/-! A text typed and run. -/
/-- how a change went: it answered no less than 0 and the row went into the history, or less and all is as it was -/
def Oc (D : va_G) (kA : Nat → ClassId) (Hs H : Heap) (a : Nat) (s : Nat → Int32) (n t q u : Nat) (p : Nat → Nat → Int32) (no : Nat) (go : Nat → Int32) (X : Nat → Prop) (v : Int32) : Prop :=
  (¬ v < 0 ∧ ∃ M2 s2 n2 t2 ns2, Lw D kA Hs H a M2 s2 n2 t2 (q + 61) (p_u u) (p_ph p s u) no go ns2 X) ∨ (v < 0 ∧ ∃ M2 ns2, Lw D kA Hs H a M2 s n t q u p no go ns2 X)
theorem Oc.less {D : va_G} {kA : Nat → ClassId} {Hs H : Heap} {a : Nat} {s : Nat → Int32} {n t q u : Nat} {p : Nat → Nat → Int32} {no : Nat} {go : Nat → Int32} {X : Nat → Prop} {v : Int32} {X' : Nat → Prop} (h : Oc D kA Hs H a s n t q u p no go X v) (hX : ∀ x, X' x → X x) : Oc D kA Hs H a s n t q u p no go X' v := by
  rcases h with ⟨h, M2, s2, n2, t2, ns2, hJ⟩ | ⟨h, M2, ns2, hJ⟩
  · exact Or.inl ⟨h, M2, s2, n2, t2, ns2, hJ.less hX⟩
  · exact Or.inr ⟨h, M2, ns2, hJ.less hX⟩
theorem Oc.new {D : va_G} {kA : Nat → ClassId} {Hs H : Heap} {a : Nat} {s : Nat → Int32} {n t q u : Nat} {p : Nat → Nat → Int32} {no : Nat} {go : Nat → Int32} {X : Nat → Prop} {v : Int32} {H1 : Heap} (h : Oc D kA Hs H a s n t q u p no go X v) (o : off nof H H1) : Oc D kA Hs H1 a s n t q u p no go X v := by
  rcases h with ⟨h, M2, s2, n2, t2, ns2, hJ⟩ | ⟨h, M2, ns2, hJ⟩
  · exact Or.inl ⟨h, M2, s2, n2, t2, ns2, hJ.new o⟩
  · exact Or.inr ⟨h, M2, ns2, hJ.new o⟩
set_option maxRecDepth 100000 in
set_option maxHeartbeats 4000000 in
theorem c_L_run (l : Launch) (D : va_G) (kA : Nat → ClassId) (Hs : Heap) (σ : SG) (H0 : Heap) (hg : Ag Hs H0) (a : Nat) (M : MS) (s : Nat → Int32) (n t q u : Nat) (p : Nat → Nat → Int32) (no : Nat) (go : Nat → Int32) (ns : Nat) (X : Nat → Prop) (lo hi r : Nat) (L : List Int32) (hJ : Lw D kA Hs H0 a M s n t q u p no go ns X) (hnt : l.stackTraces = false) (hq4 : q ≤ 30000) (hR : TR D kA H0 lo hi r L) (hL : L.length ≤ 40) (hX9 : ∀ x, lo ≤ x → x < hi → X x) : CtS l D kA Hs σ yL_run cL_run 3 (some .int) 12 242 115 8300 H0 [.ref a, .ref r] (fun q => Hs.size ≤ q ∧ ¬ X q) (pI fun k9 H9 => Oc D kA Hs H9 a s n t q u p no go X k9) := by
  refine CtS.of mi_L_run (Nat.le_of_ble_eq_true rfl) (ls0 := [(0, _), (1, _)]) rfl hg (fun q hq => hq.1) ?_
  intro Pp Ee Ss Mm Ar Bl Me Cc Z hsH hnm
  have Y := Z.1
  have loop : ∀ (f j : Nat) (H : Heap) (ns : Nat), j + f = L.length → off (fun q => Hs.size ≤ q ∧ ¬ X q) H0 H → Lw D kA Hs H a M s n t q u p no go ns X → V Pp l Ee (rmO 12 242 115 8300) Ss Mm Ar Bl Me Cc 3 (AA H0 (fun q => Hs.size ≤ q ∧ ¬ X q)) (QC Bl Ar Ss 115 8300 H0 (fun q => Hs.size ≤ q ∧ ¬ X q) (pI fun k9 H9 => Oc D kA Hs H9 a s n t q u p no go X k9)) H j (200 * j) 2 [(2, .int (nI j)), (1, .ref r), (0, .ref a)] [] := by
    intro f
    induction f with
    | zero =>
      intro j H ns hf ob hJ
      have hR := hR.keep ob (fun q h1 h2 z => z.2 (hX9 q h1 h2))
      refine V_iload_n Y.1 0 dL_run_2 (rfl : _ = 3) rfl rfl ?_
      refine V_aload_n Y.1 1 dL_run_3 (rfl : _ = 4) rfl rfl ?_
      refine V_cPk Y (sV Z (c_T_len l D kA Hs σ _ hJ.ag lo hi r L hR) mi_J0_length_8abf5 vi_L_130 rfl hR.rcv.choose_spec rfl rfl (Nat.le_of_ble_eq_true rfl) ⟨Nat.le_of_ble_eq_true rfl, Nat.le_of_ble_eq_true rfl⟩ (by show _ ≤ 115; omega) (by show _ ≤ 8300; omega) dL_run_4) (fun _ z => z.elim) (rfl : _ = 7) ?_
      refine V_icmp_ge Y.1 (tgt := 34) dL_run_7 (by decide) (rfl : _ = 10) (fun _ => ?_) (fun c_n => absurd (nI_le (by omega) (by omega)) c_n)
      refine V_aload_n Y.1 2 dL_run_34 (rfl : _ = 35) rfl rfl ?_
      refine V_cI Y (sW Z (c_L_runs l D kA Hs σ _ hJ.ag a M s n t q u p no go ns X hJ hnt (by omega)) mh_L_runs si_L_143 rfl rfl (Nat.le_of_ble_eq_true rfl) ⟨Nat.le_of_ble_eq_true rfl, Nat.le_of_ble_eq_true rfl⟩ (by show _ ≤ 115; omega) (by show _ ≤ 8300; omega) dL_run_35) (fun q z => Or.inl z) (rfl : _ = 38) (fun v_35 H35_5 hq_35 o_35 => ?_)
      exact V_ret Y.1 dL_run_38 rfl (by omega) (by omega) hq_35
    | succ f ih =>
      intro j H ns hf ob hJ
      have hR := hR.keep ob (fun q h1 h2 z => z.2 (hX9 q h1 h2))
      have hj : j < L.length := by omega
      obtain ⟨ch, hch, ech⟩ : ∃ ch, ch < 128 ∧ L.getD j 0 = nI ch := by
        refine hR.ch _ ?_
        rw [List.getD_eq_getElem?_getD, List.getElem?_eq_getElem hj]
        exact List.getElem_mem hj
      refine V_iload_n Y.1 0 dL_run_2 (rfl : _ = 3) rfl rfl ?_
      refine V_aload_n Y.1 1 dL_run_3 (rfl : _ = 4) rfl rfl ?_
      refine V_cPk Y (sV Z (c_T_len l D kA Hs σ _ hJ.ag lo hi r L hR) mi_J0_length_8abf5 vi_L_130 rfl hR.rcv.choose_spec rfl rfl (Nat.le_of_ble_eq_true rfl) ⟨Nat.le_of_ble_eq_true rfl, Nat.le_of_ble_eq_true rfl⟩ (by show _ ≤ 115; omega) (by show _ ≤ 8300; omega) dL_run_4) (fun _ z => z.elim) (rfl : _ = 7) ?_
      refine V_icmp_ge Y.1 (tgt := 34) dL_run_7 (by decide) (rfl : _ = 10) (fun c_n => absurd c_n (fun q9 => absurd ((nI_leI (by omega) (by omega)).mp q9) (by omega))) (fun _ => ?_)
      refine V_aload_n Y.1 2 dL_run_10 (rfl : _ = 11) rfl rfl ?_
      refine V_aload_n Y.1 1 dL_run_11 (rfl : _ = 12) rfl rfl ?_
      refine V_iload_n Y.1 0 dL_run_12 (rfl : _ = 13) rfl rfl ?_
      refine V_cPk Y (sV Z (c_T_at l D kA Hs σ _ hJ.ag lo hi r L j hR hj) mi_J0_charAt_5068e vi_L_135 rfl hR.rcv.choose_spec rfl rfl (Nat.le_of_ble_eq_true rfl) ⟨Nat.le_of_ble_eq_true rfl, Nat.le_of_ble_eq_true rfl⟩ (by show _ ≤ 115; omega) (by show _ ≤ 8300; omega) dL_run_13) (fun _ z => z.elim) (rfl : _ = 16) ?_
      refine V_nm (v := nI ch) ech ?_
      refine V_cI Y (sW Z (c_L_type l D kA Hs σ _ hJ.ag a M s n t q u p no go ns X ch hJ hnt hch) mh_L_type si_L_138 rfl rfl (Nat.le_of_ble_eq_true rfl) ⟨Nat.le_of_ble_eq_true rfl, Nat.le_of_ble_eq_true rfl⟩ (by show _ ≤ 115; omega) (by show _ ≤ 8300; omega) dL_run_16) (fun q z => Or.inl z) (rfl : _ = 19) (fun v_16 H16_9 hq_16 o_16 => ?_)
      obtain ⟨ns2, hJ2⟩ := hq_16
      refine V_iload_n Y.1 0 dL_run_19 (rfl : _ = 20) rfl rfl ?_
      refine V_iconst Y.1 (v := 1) dL_run_20 (rfl : _ = 21) (by decide) ?_
      refine V_iadd Y.1 dL_run_21 (rfl : _ = 22) ?_
      refine V_icmp_eq Y.1 (tgt := 28) dL_run_22 (by decide) (rfl : _ = 25) (fun c_22 => ?_) (fun c_22 => ?_)
      · refine V_iinc Y.1 (v := nI (j + 1)) (ls' := [(2, _), (1, _), (0, _)]) 0 dL_run_28 (rfl : _ = 31) rfl (nI_add _ 1) (by decide) rfl ?_
        refine V_goto Y.1 (tgt := 2) dL_run_31 (by decide) ?_
        exact V_forget (ls' := [(2, _), (1, _), (0, _)]) [0, 1, 2] rfl (V_widen (by omega) (by omega) (ih (j + 1) _ ns2 (by omega) (ob.tr o_16) hJ2))
      · refine V_bipush Y.1 (v := -9) dL_run_25 (rfl : _ = 27) (by decide) ?_
        exact V_ret Y.1 dL_run_27 rfl (by omega) (by omega) (Or.inr ⟨by decide, M, ns2, hJ2⟩)
  have hl100 : L.length ≤ 100 := by omega
  refine V_iconst Y.1 (v := 0) dL_run_0 (rfl : _ = 1) (by decide) ?_
  refine V_istore_n Y.1 (ls' := [(2, _), (0, _), (1, _)]) dL_run_1 (rfl : _ = 2) rfl (by decide) rfl ?_
  exact V_forget (ls' := [(2, _), (1, _), (0, _)]) [0, 2, 1] rfl (V_widen (by omega) (by omega) (loop L.length 0 H0 ns (by omega) off.rf hJ))

