/-! Typing, scripts, the making. -/
theorem nI_nm1 {j : Nat} (h : j < 2 ^ 31) : ¬ nI j = -1 := fun e => by
  have h9 := congrArg Int32.toInt e
  rw [nI_toInt h, show (-1 : Int32).toInt = -1 from by decide] at h9
  omega
theorem kc_lt (z : Int32) : ∃ k, k < 8 ∧ kcode z = nI k := by
  unfold kcode
  (repeat' split) <;> first | exact ⟨0, by decide, rfl⟩ | exact ⟨7, by decide, rfl⟩ | exact ⟨1, by decide, rfl⟩ | exact ⟨2, by decide, rfl⟩ | exact ⟨3, by decide, rfl⟩ | exact ⟨4, by decide, rfl⟩ | exact ⟨5, by decide, rfl⟩
/-- the i-th command's kind and values -/
def s_k (c : Nat → Int32) (i : Nat) : Nat := (kcode (c (3 * i))).toNatClampNeg
def s_x (c : Nat → Int32) (i : Nat) : Int32 := c (3 * i + 1)
def s_y (c : Nat → Int32) (i : Nat) : Int32 := if c (3 * i) = 99 ∨ c (3 * i) = 119 then 0 else c (3 * i + 2)
theorem s_k_spec (c : Nat → Int32) (i : Nat) : s_k c i < 8 ∧ kcode (c (3 * i)) = nI (s_k c i) := by
  obtain ⟨k, hk, e⟩ := kc_lt (c (3 * i))
  unfold s_k
  rw [e, nI_clamp (by omega)]
  exact ⟨hk, rfl⟩
def m_stp (M : MS) (k : Nat) (x y : Int32) : MS := (m_do M (M.1 1 / 1440).toNatClampNeg (M.1 0).toNatClampNeg k x y).2
/-- behind i commands -/
def m_st (M : MS) (c : Nat → Int32) : Nat → MS
  | 0 => M
  | i + 1 => m_stp (m_st M c i) (s_k c i) (s_x c i) (s_y c i)
def m_pb (M : MS) (c : Nat → Int32) (i : Nat) : Int32 := m_prob (m_st M c i) (s_k c i) (s_x c i) (s_y c i)
theorem m_st_s {M : MS} {c : Nat → Int32} {i n d : Nat} (h : MI (m_st M c i) n d) : m_st M c (i + 1) = (m_do (m_st M c i) d n (s_k c i) (s_x c i) (s_y c i)).2 := by
  obtain ⟨h1, h2, h3, h4, -⟩ := h
  show m_stp (m_st M c i) (s_k c i) (s_x c i) (s_y c i) = _
  unfold m_stp
  rw [h1, h3, nI_clamp (by omega), nI_clamp (by omega)]
theorem vu_self {α : Type} {f : Nat → α} {i : Nat} : va_up f i (f i) = f := by
  funext j
  by_cases e : j = i
  · subst e; exact vu_eq
  · exact vu_ne e
theorem sl_up {a k n : Nat} (h : k < n) : sl a k + 29 ≤ sl a n := by
  unfold sl
  split <;> split <;> omega
section FSN
variable {D : va_G} {kA : Nat → ClassId} {H H1 : Heap} {a : Nat} {W : Nat → MS} {π : Nat → Nat} {ES ES' F : Nat → Prop} {u : Nat} {hs ep fc : Int32} {no : Nat} {go : Nat → Int32} {vs cs ns : Nat} {gs : Nat → Int32}
theorem Lay.scr (h : Lay H a vs ES) (z : H1.size = H.size + 1) : Lay H1 a H.size ES :=
  ⟨fun q hq => ⟨(h.1 q hq).1, by have := (h.1 q hq).2.1; omega, by have := (h.1 q hq).2.1; omega⟩, Or.inr h.2.2.2, by omega, by have := h.2.2.2; omega⟩
theorem Fs.mono (h : Fs D kA H a W π ES u hs ep fc no go vs cs ns gs) (g : ∀ q, ES q → ES' q) (hl : Lay H a vs ES') : Fs D kA H a W π ES' u hs ep fc no go vs cs ns gs := by
  obtain ⟨a1, a2, a3, a4, a5, a6, a7, a8⟩ := h
  exact ⟨a1, fun k hk => (a2 k hk).mono g (fun q hq z => by have := (hl.1 q hq).1; have := z.2; have := sl_hi (a := a) hk; omega), a3, a4, a5, a6, hl, a8⟩
/-- the reader has changed -/
theorem Fs.rdr (h : Fs D kA H a W π ES u hs ep fc no go vs cs ns gs) (o : off (blk (a + 325) 4) H H1) (hr : Rdx D kA H1 (a + 325)) : Fs D kA H1 a W π ES u hs ep fc no go vs cs ns gs := by
  obtain ⟨a1, a2, a3, a4, a5, a6, a7, a8⟩ := h
  have hl := a7.2.1
  exact ⟨a1.off o (fun z => by have := z.1; omega) (fun z => by have := z.1; omega), a2.kept o (fun k hk q hq z => by have := z.1; have := sl_hi (a := a) hk; have := hq.2; omega) (fun q hq z => by have := (a7.1 q hq).1; have := z.2; omega),
    a3.off o (fun z => by have := z.1; omega) (fun z => by have := z.1; omega), a4.off o (fun z => by have := z.1; omega) (fun z => by have := z.1; have := z.2; omega), hr, a6, a7.off o, a8⟩
theorem Wn.so {n b : Nat} (h : ∀ k, k < n → Mc D kA H (sl a k) m_new (fun _ => False)) (o : sto b H H1) (hb : ∀ k, b < sl a k ∨ sl a k + 29 ≤ b) : ∀ k, k < n → Mc D kA H1 (sl a k) m_new (fun _ => False) := fun k hk =>
  (h k hk).keep (o.off (F := fun q => q = b) rfl) (fun q z e => by have e : q = b := e; have := hb k; have := z.1; have := z.2; omega) (fun _ z => z.elim)
theorem Wn.nw {n : Nat} (h : ∀ k, k < n → Mc D kA H (sl a k) m_new (fun _ => False)) (o : off (fun _ => False) H H1) : ∀ k, k < n → Mc D kA H1 (sl a k) m_new (fun _ => False) := fun k hk =>
  (h k hk).keep o (fun _ _ e => e) (fun _ z => z.elim)
theorem Wn.cl {n m N : Nat} (h : ∀ k, k < n → Mc D kA H (sl a k) m_new (fun _ => False)) (o : off (blk m N) H H1) (hb : ∀ k, k < n → sl a k + 29 ≤ m) : ∀ k, k < n → Mc D kA H1 (sl a k) m_new (fun _ => False) := fun k hk =>
  (h k hk).keep o (fun q z e => by have := hb k hk; have := z.2; have := e.1; omega) (fun _ z => z.elim)
theorem Wn.add {n m : Nat} (h : ∀ k, k < n → Mc D kA H (sl a k) m_new (fun _ => False)) (hm : Mt D kA H m m_new (fun _ => none)) (e : m = sl a n) : ∀ k, k < n + 1 → Mc D kA H (sl a k) m_new (fun _ => False) := fun k hk => by
  rcases Nat.lt_succ_iff_lt_or_eq.mp hk with z | rfl
  · exact h k z
  · subst e
    exact ⟨_, hm, fun _ _ => rfl, fun _ z => z.elim⟩
end FSN
set_option maxRecDepth 100000 in
set_option maxHeartbeats 4000000 in
theorem c_X5_type (l : Launch) (D : va_G) (kA : Nat → ClassId) (Hs : Heap) (σ : SG) (H0 : Heap) (hg : Ag Hs H0) (a : Nat) (W : Nat → MS) (π : Nat → Nat) (ES : Nat → Prop) (u : Nat) (hs ep fc : Int32) (no : Nat) (go : Nat → Int32) (vs cs ns : Nat) (gs : Nat → Int32) (c : Nat) (hc : c < 65536) (hF : Fs D kA H0 a W π ES u hs ep fc no go vs cs ns gs) (hnt : l.stackTraces = false) (hbs : Hs.size ≤ a) : CtSX l D kA Hs σ yX5_type cX5_type 2 (some .int) 8 136 1 200 H0 [.ref a, .int (nI c)] (fun q => q = a + 323 ∨ q = vs) (pI fun v9 H => 32 ≤ c ∧ c ≤ 126 ∧ ns < 60 ∧ v9 = nI (ns + 1) ∧ ∃ vs1 cs1 g1, (vs1 = vs ∨ H0.size ≤ vs1) ∧ Fs D kA H a W π ES u hs ep fc no go vs1 cs1 (ns + 1) g1 ∧ (∀ j, j < ns → g1 j = gs j) ∧ g1 ns = nI c) (fun E H => ((E = "java/lang/IllegalArgumentException" ∧ (c < 32 ∨ 126 < c)) ∨ (E = "java/lang/IllegalStateException" ∧ 32 ≤ c ∧ c ≤ 126 ∧ 60 ≤ ns)) ∧ Fs D kA H a W π ES u hs ep fc no go vs cs ns gs) := by
  rcases Nat.lt_or_ge ns cs with hcap | hcap
  · refine CtSX.of mi_X5_type (by decide +kernel) (Nat.le_of_ble_eq_true rfl) (ls0 := [(0, _), (1, _)]) rfl hg (fun q z => z.elim (fun e => e ▸ (by omega)) (fun e => e ▸ (by have := hF.2.2.2.2.2.2.1.2.1; omega))) ?_
    intro Pp Ee Ss Mm Ar Bl Me Cc Z hsH hnm
    have Y := Z.1
    have hnc := hF.2.2.2.1.2.2.2.1
    have hcap120 := hF.2.2.2.1.2.2.2.2.1
    refine V_iload_n Y.1 1 dX5_type_0 (rfl : _ = 1) rfl rfl ?_
    refine V_bipush Y.1 (v := 32) dX5_type_1 (rfl : _ = 3) (by decide) ?_
    refine V_icmp_lt Y.1 (tgt := 12) dX5_type_3 (by decide) (rfl : _ = 6) (fun c_3 => ?_) (fun c_3 => ?_)
    · have c3 : c < 32 := Nat.not_le.mp fun z => Int32.not_le.mpr c_3 ((nI_leI (a := 32) (b := c) (by omega) (by omega)).mpr z)
      refine V_thr Z hnt th_X5_240 (show ("MetroFares", 242, "no printable character") ∈ wL by decide +kernel) dX5_type_12 dX5_type_15 dX5_type_16 dX5_type_18 dX5_type_21 (Nat.le_of_ble_eq_true rfl) (Nat.le_of_ble_eq_true rfl) (Nat.le_of_ble_eq_true rfl) (Nat.le_of_ble_eq_true rfl) (fun H9 o9 => VX_out Y.1 hnm (Nat.le_of_ble_eq_true rfl) (Nat.le_of_ble_eq_true rfl) ⟨Or.inl ⟨rfl, Or.inl c3⟩, hF.new o9⟩)
    · have c3 : 32 ≤ c := (nI_leI (a := 32) (b := c) (by omega) (by omega)).mp (Int32.not_lt.mp c_3)
      refine V_iload_n Y.1 1 dX5_type_6 (rfl : _ = 7) rfl rfl ?_
      refine V_bipush Y.1 (v := 126) dX5_type_7 (rfl : _ = 9) (by decide) ?_
      refine V_icmp_le Y.1 (tgt := 22) dX5_type_9 (by decide) (rfl : _ = 12) (fun c_9 => ?_) (fun c_9 => ?_)
      · have c9 : c ≤ 126 := (nI_leI (a := c) (b := 126) (by omega) (by omega)).mp c_9
        refine V_aload_n Y.1 0 dX5_type_22 (rfl : _ = 23) rfl rfl ?_
        refine V_get Y.1 fi_X5_33 hF.1.1 rfl dX5_type_23 (rfl : _ = 26) ?_
        refine V_cP Y (sV Z (c_J4_length_8abf5 l D kA Hs σ _ hg _ _ _ _ _ hF.2.2.2.1) mi_J4_length_8abf5 vi_X5_228 rfl hF.2.2.2.1.1.choose_spec rfl rfl (Nat.le_of_ble_eq_true rfl) ⟨Nat.le_of_ble_eq_true rfl, Nat.le_of_ble_eq_true rfl⟩ (Nat.le_of_ble_eq_true rfl) (Nat.le_of_ble_eq_true rfl) dX5_type_26) (rfl : _ = 29) ?_
        refine V_bipush Y.1 (v := 60) dX5_type_29 (rfl : _ = 31) (by decide) ?_
        refine V_icmp_lt Y.1 (tgt := 44) dX5_type_31 (by decide) (rfl : _ = 34) (fun c_31 => ?_) (fun c_31 => ?_)
        · have c31 : ns < 60 := (nI_ltI (a := ns) (b := 60) (by omega) (by omega)).mp c_31
          refine V_aload_n Y.1 0 dX5_type_44 (rfl : _ = 45) rfl rfl ?_
          refine V_get Y.1 fi_X5_33 hF.1.1 rfl dX5_type_45 (rfl : _ = 48) ?_
          refine V_iload_n Y.1 1 dX5_type_48 (rfl : _ = 49) rfl rfl ?_
          refine V_cR Y (sV Z (c_J4_append_k l D kA Hs σ _ hg _ _ _ ns gs c (by omega) hcap hF.2.2.2.1 (by omega) (by have := hF.2.2.2.2.2.2.1.2.1; omega)) mi_J4_append_cf468 vi_X5_225 rfl hF.2.2.2.1.1.choose_spec rfl rfl (Nat.le_of_ble_eq_true rfl) ⟨Nat.le_of_ble_eq_true rfl, Nat.le_of_ble_eq_true rfl⟩ (Nat.le_of_ble_eq_true rfl) (Nat.le_of_ble_eq_true rfl) dX5_type_49) (fun q z => Or.inl z) (rfl : _ = 52) (fun v_49 H49_19 hq_49 o_49 => ?_)
          obtain ⟨-, hS9, z9⟩ := hq_49
          have hg := hg.keep o_49 (fun q z => z.elim (fun e => e ▸ (by omega)) (fun e => e ▸ (by have := hF.2.2.2.2.2.2.1.2.1; omega)))
          have hF := hF.scr o_49 (fun q z => z) hS9 (hF.2.2.2.2.2.2.1.off o_49)
          refine V_pop Y.1 dX5_type_52 (rfl : _ = 53) rfl ?_
          refine V_aload_n Y.1 0 dX5_type_53 (rfl : _ = 54) rfl rfl ?_
          refine V_get Y.1 fi_X5_33 hF.1.1 rfl dX5_type_54 (rfl : _ = 57) ?_
          refine V_cP Y (sV Z (c_J4_length_8abf5 l D kA Hs σ _ hg _ _ _ _ _ hF.2.2.2.1) mi_J4_length_8abf5 vi_X5_228 rfl hF.2.2.2.1.1.choose_spec rfl rfl (Nat.le_of_ble_eq_true rfl) ⟨Nat.le_of_ble_eq_true rfl, Nat.le_of_ble_eq_true rfl⟩ (Nat.le_of_ble_eq_true rfl) (Nat.le_of_ble_eq_true rfl) dX5_type_57) (rfl : _ = 60) ?_
          exact V_X (V_ret Y.1 dX5_type_60 rfl (Nat.le_of_ble_eq_true rfl) (Nat.le_of_ble_eq_true rfl) ⟨c3, c9, c31, rfl, _, _, _, Or.inl rfl, hF, fun j hj => pk_un (by omega), pk_us⟩)
        · have c31 : 60 ≤ ns := Nat.not_lt.mp fun z => c_31 ((nI_ltI (a := ns) (b := 60) (by omega) (by omega)).mpr z)
          refine V_thr Z hnt th_X5_245 (show ("MetroFares", 247, "the script buffer is full") ∈ wL by decide +kernel) dX5_type_34 dX5_type_37 dX5_type_38 dX5_type_40 dX5_type_43 (Nat.le_of_ble_eq_true rfl) (Nat.le_of_ble_eq_true rfl) (Nat.le_of_ble_eq_true rfl) (Nat.le_of_ble_eq_true rfl) (fun H9 o9 => VX_out Y.1 hnm (Nat.le_of_ble_eq_true rfl) (Nat.le_of_ble_eq_true rfl) ⟨Or.inr ⟨rfl, c3, c9, c31⟩, hF.new o9⟩)
      · have c9 : 126 < c := Nat.not_le.mp fun z => c_9 ((nI_leI (a := c) (b := 126) (by omega) (by omega)).mpr z)
        refine V_thr Z hnt th_X5_240 (show ("MetroFares", 242, "no printable character") ∈ wL by decide +kernel) dX5_type_12 dX5_type_15 dX5_type_16 dX5_type_18 dX5_type_21 (Nat.le_of_ble_eq_true rfl) (Nat.le_of_ble_eq_true rfl) (Nat.le_of_ble_eq_true rfl) (Nat.le_of_ble_eq_true rfl) (fun H9 o9 => VX_out Y.1 hnm (Nat.le_of_ble_eq_true rfl) (Nat.le_of_ble_eq_true rfl) ⟨Or.inl ⟨rfl, Or.inr c9⟩, hF.new o9⟩)
  · refine CtSX.of mi_X5_type (by decide +kernel) (Nat.le_of_ble_eq_true rfl) (ls0 := [(0, _), (1, _)]) rfl hg (fun q z => z.elim (fun e => e ▸ (by omega)) (fun e => e ▸ (by have := hF.2.2.2.2.2.2.1.2.1; omega))) ?_
    intro Pp Ee Ss Mm Ar Bl Me Cc Z hsH hnm
    have Y := Z.1
    have hnc := hF.2.2.2.1.2.2.2.1
    have hcap120 := hF.2.2.2.1.2.2.2.2.1
    refine V_iload_n Y.1 1 dX5_type_0 (rfl : _ = 1) rfl rfl ?_
    refine V_bipush Y.1 (v := 32) dX5_type_1 (rfl : _ = 3) (by decide) ?_
    refine V_icmp_lt Y.1 (tgt := 12) dX5_type_3 (by decide) (rfl : _ = 6) (fun c_3 => ?_) (fun c_3 => ?_)
    · have c3 : c < 32 := Nat.not_le.mp fun z => Int32.not_le.mpr c_3 ((nI_leI (a := 32) (b := c) (by omega) (by omega)).mpr z)
      refine V_thr Z hnt th_X5_240 (show ("MetroFares", 242, "no printable character") ∈ wL by decide +kernel) dX5_type_12 dX5_type_15 dX5_type_16 dX5_type_18 dX5_type_21 (Nat.le_of_ble_eq_true rfl) (Nat.le_of_ble_eq_true rfl) (Nat.le_of_ble_eq_true rfl) (Nat.le_of_ble_eq_true rfl) (fun H9 o9 => VX_out Y.1 hnm (Nat.le_of_ble_eq_true rfl) (Nat.le_of_ble_eq_true rfl) ⟨Or.inl ⟨rfl, Or.inl c3⟩, hF.new o9⟩)
    · have c3 : 32 ≤ c := (nI_leI (a := 32) (b := c) (by omega) (by omega)).mp (Int32.not_lt.mp c_3)
      refine V_iload_n Y.1 1 dX5_type_6 (rfl : _ = 7) rfl rfl ?_
      refine V_bipush Y.1 (v := 126) dX5_type_7 (rfl : _ = 9) (by decide) ?_
      refine V_icmp_le Y.1 (tgt := 22) dX5_type_9 (by decide) (rfl : _ = 12) (fun c_9 => ?_) (fun c_9 => ?_)
      · have c9 : c ≤ 126 := (nI_leI (a := c) (b := 126) (by omega) (by omega)).mp c_9
        refine V_aload_n Y.1 0 dX5_type_22 (rfl : _ = 23) rfl rfl ?_
        refine V_get Y.1 fi_X5_33 hF.1.1 rfl dX5_type_23 (rfl : _ = 26) ?_
        refine V_cP Y (sV Z (c_J4_length_8abf5 l D kA Hs σ _ hg _ _ _ _ _ hF.2.2.2.1) mi_J4_length_8abf5 vi_X5_228 rfl hF.2.2.2.1.1.choose_spec rfl rfl (Nat.le_of_ble_eq_true rfl) ⟨Nat.le_of_ble_eq_true rfl, Nat.le_of_ble_eq_true rfl⟩ (Nat.le_of_ble_eq_true rfl) (Nat.le_of_ble_eq_true rfl) dX5_type_26) (rfl : _ = 29) ?_
        refine V_bipush Y.1 (v := 60) dX5_type_29 (rfl : _ = 31) (by decide) ?_
        refine V_icmp_lt Y.1 (tgt := 44) dX5_type_31 (by decide) (rfl : _ = 34) (fun c_31 => ?_) (fun c_31 => ?_)
        · have c31 : ns < 60 := (nI_ltI (a := ns) (b := 60) (by omega) (by omega)).mp c_31
          refine V_aload_n Y.1 0 dX5_type_44 (rfl : _ = 45) rfl rfl ?_
          refine V_get Y.1 fi_X5_33 hF.1.1 rfl dX5_type_45 (rfl : _ = 48) ?_
          refine V_iload_n Y.1 1 dX5_type_48 (rfl : _ = 49) rfl rfl ?_
          refine V_cR Y (sV Z (c_J4_append_g l D kA Hs σ _ hg _ _ _ ns gs c (by omega) (by omega) (by omega) hF.2.2.2.1 (by omega)) mi_J4_append_cf468 vi_X5_225 rfl hF.2.2.2.1.1.choose_spec rfl rfl (Nat.le_of_ble_eq_true rfl) ⟨Nat.le_of_ble_eq_true rfl, Nat.le_of_ble_eq_true rfl⟩ (Nat.le_of_ble_eq_true rfl) (Nat.le_of_ble_eq_true rfl) dX5_type_49) (fun q z => Or.inl (Or.inl z)) (rfl : _ = 52) (fun v_49 H49_19 hq_49 o_49 => ?_)
          obtain ⟨-, hS9, z9⟩ := hq_49
          have hg := hg.keep o_49 (fun q z => z ▸ (by omega))
          have hF := hF.scr o_49 (fun q z => Or.inl z) hS9 (hF.2.2.2.2.2.2.1.scr z9)
          refine V_pop Y.1 dX5_type_52 (rfl : _ = 53) rfl ?_
          refine V_aload_n Y.1 0 dX5_type_53 (rfl : _ = 54) rfl rfl ?_
          refine V_get Y.1 fi_X5_33 hF.1.1 rfl dX5_type_54 (rfl : _ = 57) ?_
          refine V_cP Y (sV Z (c_J4_length_8abf5 l D kA Hs σ _ hg _ _ _ _ _ hF.2.2.2.1) mi_J4_length_8abf5 vi_X5_228 rfl hF.2.2.2.1.1.choose_spec rfl rfl (Nat.le_of_ble_eq_true rfl) ⟨Nat.le_of_ble_eq_true rfl, Nat.le_of_ble_eq_true rfl⟩ (Nat.le_of_ble_eq_true rfl) (Nat.le_of_ble_eq_true rfl) dX5_type_57) (rfl : _ = 60) ?_
          exact V_X (V_ret Y.1 dX5_type_60 rfl (Nat.le_of_ble_eq_true rfl) (Nat.le_of_ble_eq_true rfl) ⟨c3, c9, c31, rfl, _, _, _, Or.inr (Nat.le_refl _), hF, fun j hj => by rw [pk_un (by omega)]; unfold va_cpy; rw [if_pos (by omega)]; congr 1; omega, pk_us⟩)
        · have c31 : 60 ≤ ns := Nat.not_lt.mp fun z => c_31 ((nI_ltI (a := ns) (b := 60) (by omega) (by omega)).mpr z)
          refine V_thr Z hnt th_X5_245 (show ("MetroFares", 247, "the script buffer is full") ∈ wL by decide +kernel) dX5_type_34 dX5_type_37 dX5_type_38 dX5_type_40 dX5_type_43 (Nat.le_of_ble_eq_true rfl) (Nat.le_of_ble_eq_true rfl) (Nat.le_of_ble_eq_true rfl) (Nat.le_of_ble_eq_true rfl) (fun H9 o9 => VX_out Y.1 hnm (Nat.le_of_ble_eq_true rfl) (Nat.le_of_ble_eq_true rfl) ⟨Or.inr ⟨rfl, c3, c9, c31⟩, hF.new o9⟩)
      · have c9 : 126 < c := Nat.not_le.mp fun z => c_9 ((nI_leI (a := c) (b := 126) (by omega) (by omega)).mpr z)
        refine V_thr Z hnt th_X5_240 (show ("MetroFares", 242, "no printable character") ∈ wL by decide +kernel) dX5_type_12 dX5_type_15 dX5_type_16 dX5_type_18 dX5_type_21 (Nat.le_of_ble_eq_true rfl) (Nat.le_of_ble_eq_true rfl) (Nat.le_of_ble_eq_true rfl) (Nat.le_of_ble_eq_true rfl) (fun H9 o9 => VX_out Y.1 hnm (Nat.le_of_ble_eq_true rfl) (Nat.le_of_ble_eq_true rfl) ⟨Or.inl ⟨rfl, Or.inr c9⟩, hF.new o9⟩)

set_option maxRecDepth 100000 in
set_option maxHeartbeats 4000000 in
theorem c_X5_firstFailedCommand (l : Launch) (D : va_G) (kA : Nat → ClassId) (H0 : Heap) (a : Nat) (W : Nat → MS) (π : Nat → Nat) (ES : Nat → Prop) (u : Nat) (hs ep fc : Int32) (no : Nat) (go : Nat → Int32) (vs cs ns : Nat) (gs : Nat → Int32) (c J1 J2 J3 : Nat → Int32) (n1 p1 : Nat) (y1 : Int32) (j : Nat) (hF : Fs D kA H0 a W π ES u hs ep fc no go vs cs ns gs) (hR : Rd D kA H0 (a + 325) J1 J2 J3 n1 p1 y1) (hn1 : n1 ≤ 9) (hJ : ∀ i, i < n1 → cmdOK J1 J2 J3 c i) (hj : j ≤ n1) (hno : ∀ i, i < j → m_pb (W (π 0)) c i = 0) (hend : j < n1 → ¬ m_pb (W (π 0)) c j = 0) (hMI : ∀ i, i < j → ∃ n d, MI (m_st (W (π 0)) c i) n d) : Ct l D kA yX5_firstFailedCommand cX5_firstFailedCommand 5 (some .int) 6 142 72 216 H0 [.ref a] (blk (sl a (π 0)) 29) (pI fun v9 H => v9 = (if j < n1 then nI j else -1) ∧ Fs D kA H a (va_up W (π 0) (m_st (W (π 0)) c j)) π (gro ES H0 H) u hs ep fc no go vs cs ns gs ∧ Rd D kA H (a + 325) J1 J2 J3 n1 p1 y1) := by
  refine Ct.of mi_X5_firstFailedCommand (Nat.le_of_ble_eq_true rfl) (ls0 := [(0, _)]) rfl ?_
  intro Pp Ee Ss Mm Ar Bl Me Cc Y hsH hnm
  have hp0 := hF.2.2.2.2.2.1.1 0 (by decide)
  have lp : ∀ (m i : Nat) (H : Heap), i + m = j → Fs D kA H a (va_up W (π 0) (m_st (W (π 0)) c i)) π (gro ES H0 H) u hs ep fc no go vs cs ns gs → Rd D kA H (a + 325) J1 J2 J3 n1 p1 y1 → H0.size ≤ H.size → V Pp l Ee (rmO 6 142 72 216) Ss Mm Ar Bl Me Cc 5 (AA H0 (blk (sl a (π 0)) 29)) (QC Bl Ar Ss 72 216 H0 (blk (sl a (π 0)) 29) (pI fun v9 H => v9 = (if j < n1 then nI j else -1) ∧ Fs D kA H a (va_up W (π 0) (m_st (W (π 0)) c j)) π (gro ES H0 H) u hs ep fc no go vs cs ns gs ∧ Rd D kA H (a + 325) J1 J2 J3 n1 p1 y1)) H (8 * i) (24 * i) 2 [(1, .int (nI i)), (0, .ref a)] [] := by
    clear hF hR
    intro m
    induction m with
    | zero =>
      intro i H hij hF hR sz
      obtain rfl : i = j := by omega
      obtain ⟨E0, hE⟩ := hF.now
      have hM : Mc D kA H (sl a (π 0)) (m_st (W (π 0)) c i) (gro ES H0 H) := by have h9 := hF.now; rwa [vu_eq] at h9
      rcases Nat.lt_or_ge i n1 with hlt | hge
      · refine V_iload_n Y.1 0 dX5_firstFailedCommand_2 (rfl : _ = 3) rfl rfl ?_
        refine V_aload_n Y.1 1 dX5_firstFailedCommand_3 (rfl : _ = 4) rfl rfl ?_
        refine V_get Y.1 fi_X5_39 hF.1.1 rfl dX5_firstFailedCommand_4 (rfl : _ = 7) ?_
        refine V_get Y.1 fi_X5_274 hR.1 rfl dX5_firstFailedCommand_7 (rfl : _ = 10) ?_
        refine V_icmp_ge Y.1 (tgt := 84) dX5_firstFailedCommand_10 (by decide) (rfl : _ = 13) (fun c_n => absurd c_n (fun q => absurd ((nI_leI (a := n1) (b := i) (by omega) (by omega)).mp q) (by omega))) (fun _ => ?_)
        refine V_iload_n Y.1 0 dX5_firstFailedCommand_13 (rfl : _ = 14) rfl rfl ?_
        refine V_bipush Y.1 (v := 10) dX5_firstFailedCommand_14 (rfl : _ = 16) (by decide) ?_
        refine V_icmp_ge Y.1 (tgt := 84) dX5_firstFailedCommand_16 (by decide) (rfl : _ = 19) (fun c_n => absurd c_n (fun q => absurd ((nI_leI (a := 10) (b := i) (by omega) (by omega)).mp q) (by omega))) (fun _ => ?_)
        refine V_aload_n Y.1 1 dX5_firstFailedCommand_19 (rfl : _ = 20) rfl rfl ?_
        refine V_get Y.1 fi_X5_39 hF.1.1 rfl dX5_firstFailedCommand_20 (rfl : _ = 23) ?_
        refine V_get Y.1 fi_X5_313 hR.1 rfl dX5_firstFailedCommand_23 (rfl : _ = 26) ?_
        refine V_iload_n Y.1 0 dX5_firstFailedCommand_26 (rfl : _ = 27) rfl rfl ?_
        refine V_iald Y.1 (v := nI (s_k c i)) hR.2.1 (vp_in_nI (by omega) (by omega)) (by rw [nI_clamp (by omega)]; exact (hJ i hlt).1.trans (s_k_spec c i).2) dX5_firstFailedCommand_27 (rfl : _ = 28) ?_
        refine V_istore_n Y.1 (ls' := [(2, _), (1, _), (0, _)]) dX5_firstFailedCommand_28 (rfl : _ = 29) rfl (by decide) rfl ?_
        refine V_aload_n Y.1 2 dX5_firstFailedCommand_29 (rfl : _ = 30) rfl rfl ?_
        refine V_get Y.1 fi_X5_39 hF.1.1 rfl dX5_firstFailedCommand_30 (rfl : _ = 33) ?_
        refine V_get Y.1 fi_X5_316 hR.1 rfl dX5_firstFailedCommand_33 (rfl : _ = 36) ?_
        refine V_iload_n Y.1 1 dX5_firstFailedCommand_36 (rfl : _ = 37) rfl rfl ?_
        refine V_iald Y.1 (v := s_x c i) hR.2.2.1 (vp_in_nI (by omega) (by omega)) (by rw [nI_clamp (by omega)]; exact (hJ i hlt).2.1) dX5_firstFailedCommand_37 (rfl : _ = 38) ?_
        refine V_istore_n Y.1 (ls' := [(3, _), (2, _), (1, _), (0, _)]) dX5_firstFailedCommand_38 (rfl : _ = 39) rfl (by decide) rfl ?_
        refine V_aload_n Y.1 3 dX5_firstFailedCommand_39 (rfl : _ = 40) rfl rfl ?_
        refine V_get Y.1 fi_X5_39 hF.1.1 rfl dX5_firstFailedCommand_40 (rfl : _ = 43) ?_
        refine V_get Y.1 fi_X5_319 hR.1 rfl dX5_firstFailedCommand_43 (rfl : _ = 46) ?_
        refine V_iload_n Y.1 2 dX5_firstFailedCommand_46 (rfl : _ = 47) rfl rfl ?_
        refine V_iald Y.1 (v := s_y c i) hR.2.2.2 (vp_in_nI (by omega) (by omega)) (by rw [nI_clamp (by omega)]; exact (hJ i hlt).2.2) dX5_firstFailedCommand_47 (rfl : _ = 48) ?_
        refine V_istore Y.1 (ls' := [(4, _), (3, _), (2, _), (1, _), (0, _)]) dX5_firstFailedCommand_48 (rfl : _ = 50) (by decide) rfl ?_
        refine V_aload_n Y.1 4 dX5_firstFailedCommand_50 (rfl : _ = 51) rfl rfl ?_
        refine V_get Y.1 fi_X5_10 hF.1.1 rfl dX5_firstFailedCommand_51 (rfl : _ = 54) ?_
        refine V_iload_n Y.1 2 dX5_firstFailedCommand_54 (rfl : _ = 55) rfl rfl ?_
        refine V_iload_n Y.1 1 dX5_firstFailedCommand_55 (rfl : _ = 56) rfl rfl ?_
        refine V_iload Y.1 0 dX5_firstFailedCommand_56 (rfl : _ = 58) rfl ?_
        refine V_cP Y (rV Y (c_X3_problemOf_all l D kA _ _ _ _ (s_k c i) (s_k_spec c i).1 (s_x c i) (s_y c i) hM) mi_X3_problemOf vi_X5_291 rfl hE.1.1 rfl rfl (Nat.le_of_ble_eq_true rfl) ⟨Nat.le_of_ble_eq_true rfl, Nat.le_of_ble_eq_true rfl⟩ (by show 8 * i + 0 ≤ 72; omega) (by show 24 * i + 0 ≤ 216; omega) dX5_firstFailedCommand_58) (rfl : _ = 61) ?_
        refine V_if_eq Y.1 (tgt := 66) dX5_firstFailedCommand_61 (by decide) (rfl : _ = 64) (fun c_n => absurd c_n (hend hlt)) (fun _ => ?_)
        refine V_iload_n Y.1 3 dX5_firstFailedCommand_64 (rfl : _ = 65) rfl rfl ?_
        exact V_ret Y.1 dX5_firstFailedCommand_65 rfl (by omega) (by omega) ⟨(if_pos hlt).symm, hF, hR⟩
      · refine V_iload_n Y.1 0 dX5_firstFailedCommand_2 (rfl : _ = 3) rfl rfl ?_
        refine V_aload_n Y.1 1 dX5_firstFailedCommand_3 (rfl : _ = 4) rfl rfl ?_
        refine V_get Y.1 fi_X5_39 hF.1.1 rfl dX5_firstFailedCommand_4 (rfl : _ = 7) ?_
        refine V_get Y.1 fi_X5_274 hR.1 rfl dX5_firstFailedCommand_7 (rfl : _ = 10) ?_
        refine V_icmp_ge Y.1 (tgt := 84) dX5_firstFailedCommand_10 (by decide) (rfl : _ = 13) (fun _ => ?_) (fun c_n => absurd ((nI_leI (a := n1) (b := i) (by omega) (by omega)).mpr hge) c_n)
        refine V_iconst Y.1 (v := -1) dX5_firstFailedCommand_84 (rfl : _ = 85) (by decide) ?_
        exact V_ret Y.1 dX5_firstFailedCommand_85 rfl (by omega) (by omega) ⟨(if_neg (by omega)).symm, hF, hR⟩
    | succ m ih =>
      intro i H hij hF hR sz
      obtain ⟨E0, hE⟩ := hF.now
      have hM : Mc D kA H (sl a (π 0)) (m_st (W (π 0)) c i) (gro ES H0 H) := by have h9 := hF.now; rwa [vu_eq] at h9
      obtain ⟨n, d, hI⟩ := hMI i (by omega)
      refine V_iload_n Y.1 0 dX5_firstFailedCommand_2 (rfl : _ = 3) rfl rfl ?_
      refine V_aload_n Y.1 1 dX5_firstFailedCommand_3 (rfl : _ = 4) rfl rfl ?_
      refine V_get Y.1 fi_X5_39 hF.1.1 rfl dX5_firstFailedCommand_4 (rfl : _ = 7) ?_
      refine V_get Y.1 fi_X5_274 hR.1 rfl dX5_firstFailedCommand_7 (rfl : _ = 10) ?_
      refine V_icmp_ge Y.1 (tgt := 84) dX5_firstFailedCommand_10 (by decide) (rfl : _ = 13) (fun c_n => absurd c_n (fun q => absurd ((nI_leI (a := n1) (b := i) (by omega) (by omega)).mp q) (by omega))) (fun _ => ?_)
      refine V_iload_n Y.1 0 dX5_firstFailedCommand_13 (rfl : _ = 14) rfl rfl ?_
      refine V_bipush Y.1 (v := 10) dX5_firstFailedCommand_14 (rfl : _ = 16) (by decide) ?_
      refine V_icmp_ge Y.1 (tgt := 84) dX5_firstFailedCommand_16 (by decide) (rfl : _ = 19) (fun c_n => absurd c_n (fun q => absurd ((nI_leI (a := 10) (b := i) (by omega) (by omega)).mp q) (by omega))) (fun _ => ?_)
      refine V_aload_n Y.1 1 dX5_firstFailedCommand_19 (rfl : _ = 20) rfl rfl ?_
      refine V_get Y.1 fi_X5_39 hF.1.1 rfl dX5_firstFailedCommand_20 (rfl : _ = 23) ?_
      refine V_get Y.1 fi_X5_313 hR.1 rfl dX5_firstFailedCommand_23 (rfl : _ = 26) ?_
      refine V_iload_n Y.1 0 dX5_firstFailedCommand_26 (rfl : _ = 27) rfl rfl ?_
      refine V_iald Y.1 (v := nI (s_k c i)) hR.2.1 (vp_in_nI (by omega) (by omega)) (by rw [nI_clamp (by omega)]; exact (hJ i (by omega)).1.trans (s_k_spec c i).2) dX5_firstFailedCommand_27 (rfl : _ = 28) ?_
      refine V_istore_n Y.1 (ls' := [(2, _), (1, _), (0, _)]) dX5_firstFailedCommand_28 (rfl : _ = 29) rfl (by decide) rfl ?_
      refine V_aload_n Y.1 2 dX5_firstFailedCommand_29 (rfl : _ = 30) rfl rfl ?_
      refine V_get Y.1 fi_X5_39 hF.1.1 rfl dX5_firstFailedCommand_30 (rfl : _ = 33) ?_
      refine V_get Y.1 fi_X5_316 hR.1 rfl dX5_firstFailedCommand_33 (rfl : _ = 36) ?_
      refine V_iload_n Y.1 1 dX5_firstFailedCommand_36 (rfl : _ = 37) rfl rfl ?_
      refine V_iald Y.1 (v := s_x c i) hR.2.2.1 (vp_in_nI (by omega) (by omega)) (by rw [nI_clamp (by omega)]; exact (hJ i (by omega)).2.1) dX5_firstFailedCommand_37 (rfl : _ = 38) ?_
      refine V_istore_n Y.1 (ls' := [(3, _), (2, _), (1, _), (0, _)]) dX5_firstFailedCommand_38 (rfl : _ = 39) rfl (by decide) rfl ?_
      refine V_aload_n Y.1 3 dX5_firstFailedCommand_39 (rfl : _ = 40) rfl rfl ?_
      refine V_get Y.1 fi_X5_39 hF.1.1 rfl dX5_firstFailedCommand_40 (rfl : _ = 43) ?_
      refine V_get Y.1 fi_X5_319 hR.1 rfl dX5_firstFailedCommand_43 (rfl : _ = 46) ?_
      refine V_iload_n Y.1 2 dX5_firstFailedCommand_46 (rfl : _ = 47) rfl rfl ?_
      refine V_iald Y.1 (v := s_y c i) hR.2.2.2 (vp_in_nI (by omega) (by omega)) (by rw [nI_clamp (by omega)]; exact (hJ i (by omega)).2.2) dX5_firstFailedCommand_47 (rfl : _ = 48) ?_
      refine V_istore Y.1 (ls' := [(4, _), (3, _), (2, _), (1, _), (0, _)]) dX5_firstFailedCommand_48 (rfl : _ = 50) (by decide) rfl ?_
      refine V_aload_n Y.1 4 dX5_firstFailedCommand_50 (rfl : _ = 51) rfl rfl ?_
      refine V_get Y.1 fi_X5_10 hF.1.1 rfl dX5_firstFailedCommand_51 (rfl : _ = 54) ?_
      refine V_iload_n Y.1 2 dX5_firstFailedCommand_54 (rfl : _ = 55) rfl rfl ?_
      refine V_iload_n Y.1 1 dX5_firstFailedCommand_55 (rfl : _ = 56) rfl rfl ?_
      refine V_iload Y.1 0 dX5_firstFailedCommand_56 (rfl : _ = 58) rfl ?_
      refine V_cP Y (rV Y (c_X3_problemOf_all l D kA _ _ _ _ (s_k c i) (s_k_spec c i).1 (s_x c i) (s_y c i) hM) mi_X3_problemOf vi_X5_291 rfl hE.1.1 rfl rfl (Nat.le_of_ble_eq_true rfl) ⟨Nat.le_of_ble_eq_true rfl, Nat.le_of_ble_eq_true rfl⟩ (by show 8 * i + 0 ≤ 72; omega) (by show 24 * i + 0 ≤ 216; omega) dX5_firstFailedCommand_58) (rfl : _ = 61) ?_
      refine V_if_eq Y.1 (tgt := 66) dX5_firstFailedCommand_61 (by decide) (rfl : _ = 64) (fun _ => ?_) (fun c_n => absurd (hno i (by omega)) c_n)
      refine V_aload_n Y.1 4 dX5_firstFailedCommand_66 (rfl : _ = 67) rfl rfl ?_
      refine V_get Y.1 fi_X5_10 hF.1.1 rfl dX5_firstFailedCommand_67 (rfl : _ = 70) ?_
      refine V_iload_n Y.1 2 dX5_firstFailedCommand_70 (rfl : _ = 71) rfl rfl ?_
      refine V_iload_n Y.1 1 dX5_firstFailedCommand_71 (rfl : _ = 72) rfl rfl ?_
      refine V_iload Y.1 0 dX5_firstFailedCommand_72 (rfl : _ = 74) rfl ?_
      refine V_cI Y (rV Y (c_X3_performU l D kA _ (sl a (π 0)) _ (gro ES H0 H) (s_k c i) (s_k_spec c i).1 (s_x c i) (s_y c i) n d hM hI (hno i (by omega))) mi_X3_perform vi_X5_297 rfl hE.1.1 rfl rfl (Nat.le_of_ble_eq_true rfl) ⟨Nat.le_of_ble_eq_true rfl, Nat.le_of_ble_eq_true rfl⟩ (by show 8 * i + 8 ≤ 72; omega) (by show 24 * i + 24 ≤ 216; omega) dX5_firstFailedCommand_74) (fun q z => Or.inl z) (rfl : _ = 77) (fun v_74 H74_38 hq_74 o_74 => ?_)
      obtain ⟨-, hm74⟩ := hq_74
      rw [gro_tr sz o_74.1] at hm74
      have hL9 := hF.2.2.2.2.2.2.1.gro o_74.1
      rw [gro_tr sz o_74.1] at hL9
      have hF := hF.setw hp0 o_74 hm74 (fun q z => z.elim Or.inl (fun y => Or.inr ⟨y.1, Nat.lt_of_lt_of_le y.2 o_74.1⟩)) hL9
      rw [vu_vu, ← m_st_s hI] at hF
      have hR := hR.off o_74 (fun q h z => by have := h.1; have := z.2; have := sl_hi (a := a) hp0; omega)
      have sz := Nat.le_trans sz o_74.1
      refine V_pop Y.1 dX5_firstFailedCommand_77 (rfl : _ = 78) rfl ?_
      refine V_iinc Y.1 (v := nI (i + 1)) (ls' := [(1, _), (4, _), (3, _), (2, _), (0, _)]) 3 dX5_firstFailedCommand_78 (rfl : _ = 81) rfl (nI_1 _) (by decide) rfl ?_
      refine V_goto Y.1 (tgt := 2) dX5_firstFailedCommand_81 (by decide) ?_
      exact V_forget (ls' := [(1, _), (0, _)]) [0, 4] rfl (ih (i + 1) _ (by omega) hF hR sz)
  refine V_iconst Y.1 (v := 0) dX5_firstFailedCommand_0 (rfl : _ = 1) (by decide) ?_
  refine V_istore_n Y.1 (ls' := [(1, _), (0, _)]) dX5_firstFailedCommand_1 (rfl : _ = 2) rfl (by decide) rfl ?_
  exact lp j 0 _ (by omega) (by rw [gro_z rfl, show m_st (W (π 0)) c 0 = (W (π 0)) from rfl, vu_self]; exact hF) hR (Nat.le_refl _)

set_option maxRecDepth 100000 in
set_option maxHeartbeats 4000000 in
theorem c_X5_runScript (l : Launch) (D : va_G) (kA : Nat → ClassId) (Hs : Heap) (σ : SG) (H0 : Heap) (hg : Ag Hs H0) (a : Nat) (W : Nat → MS) (π : Nat → Nat) (ES : Nat → Prop) (u : Nat) (hs ep fc : Int32) (no : Nat) (go : Nat → Int32) (vs cs ns : Nat) (gs : Nat → Int32) (t cc0 : Nat → Int32) (z : RK) (j n d : Nat) (hF : Fs D kA H0 a W π ES u hs ep fc no go vs cs ns gs) (hnt : l.stackTraces = false) (hI : MI (W (π 0)) n d) (hbs : Hs.size ≤ a) (ht : Tx gs t ns) (hlen : ns ≤ 60) (hz : q_cmds t ns 61 (q_cmd t ns (0, 0, 0, cc0)) = z) (hq : (z.1 = 0 ∧ ns ≤ z.2.1) → j ≤ z.2.2.1 ∧ (∀ i, i < j → m_pb (W (π 0)) z.2.2.2 i = 0) ∧ (j < z.2.2.1 → ¬ m_pb (W (π 0)) z.2.2.2 j = 0) ∧ ∀ i, i < j → ∃ n d, MI (m_st (W (π 0)) z.2.2.2 i) n d) : CtSX l D kA Hs σ yX5_runScript cX5_runScript 3 (some .int) 10 199 73 222 H0 [.ref a] (blk a 329) (pI fun v9 H => (z.1 = 0 ∧ ns ≤ z.2.1) ∧ ¬ j < z.2.2.1 ∧ v9 = nI z.2.2.1 ∧ Fs D kA H a (va_up (va_up W (π 1) (m_copy (W (π 1)) (W (π 0)) n)) (π 0) (m_st (W (π 0)) z.2.2.2 j)) (p_push π u) (gro ES H0 H) (if u < 8 then u + 1 else 8) hs ep fc no go vs cs 0 gs) (fun E H => (E = "java/lang/IllegalArgumentException" ∧ ¬ (z.1 = 0 ∧ ns ≤ z.2.1) ∧ Fs D kA H a W π ES u hs (nI z.2.1) fc no go vs cs 0 gs) ∨ (E = "java/lang/IllegalStateException" ∧ (z.1 = 0 ∧ ns ≤ z.2.1) ∧ j < z.2.2.1 ∧ Fs D kA H a (va_up (va_up W (π 1) (m_copy (W (π 1)) (W (π 0)) n)) (π 0) (m_st (W (π 0)) z.2.2.2 j)) (p_swap π 0 1) (gro ES H0 H) u hs ep (nI j) no go vs cs 0 gs)) := by
  refine CtSX.of mi_X5_runScript (by decide +kernel) (Nat.le_of_ble_eq_true rfl) (ls0 := [(0, _)]) rfl hg (fun q z => Nat.le_trans hbs z.1) ?_
  intro Pp Ee Ss Mm Ar Bl Me Cc Z hsH hnm
  have Y := Z.1
  have hp0 := hF.2.2.2.2.2.1.1 0 (by decide)
  have hp1 := hF.2.2.2.2.2.1.1 1 (by decide)
  have h01 : π 1 ≠ π 0 := fun e => absurd (hF.2.2.2.2.2.1.2.1 1 0 (by decide) (by decide) e) (by decide)
  have hL0 := hF.2.2.2.2.2.2.1
  have hvs := hL0.2.1
  have e0 : (va_up W (π 1) (m_copy (W (π 1)) (W (π 0)) n)) (π 0) = W (π 0) := vu_ne h01.symm
  obtain ⟨K1, K2, K3, n0, p0, y0, hR⟩ := hF.2.2.2.2.1
  refine V_aload_n Y.1 0 dX5_runScript_0 (rfl : _ = 1) rfl rfl ?_
  refine V_get Y.1 fi_X5_39 hF.1.1 rfl dX5_runScript_1 (rfl : _ = 4) ?_
  refine V_aload_n Y.1 0 dX5_runScript_4 (rfl : _ = 5) rfl rfl ?_
  refine V_get Y.1 fi_X5_33 hF.1.1 rfl dX5_runScript_5 (rfl : _ = 8) ?_
  refine V_cI Y (sV Z (c_X4_readScript l D kA Hs σ _ hg (a + 325) (a + 323) vs cs ns n0 p0 gs t K1 K2 K3 y0 cc0 hR hF.2.2.2.1 ht hlen (by omega) (by omega) (by omega)) mi_X4_readScript vi_X5_250 rfl hR.1 rfl rfl (Nat.le_of_ble_eq_true rfl) ⟨Nat.le_of_ble_eq_true rfl, Nat.le_of_ble_eq_true rfl⟩ (Nat.le_of_ble_eq_true rfl) (Nat.le_of_ble_eq_true rfl) dX5_runScript_8) (fun q z => Or.inl ⟨by have := z.1; omega, by have := z.2; omega⟩) (rfl : _ = 11) (fun v_8 H8_4 hq_8 o_8 => ?_)
  obtain ⟨hv8, J1, J2, J3, n1, y1, hR, hf8⟩ := hq_8
  rw [hz] at hv8 hR hf8
  have hF := hF.rdr o_8 ⟨_, _, _, _, _, _, hR⟩
  have hg := hg.keep o_8 (fun q z => by have := z.1; omega)
  refine V_istore_n Y.1 (ls' := [(1, _), (0, _)]) dX5_runScript_11 (rfl : _ = 12) rfl (by decide) rfl ?_
  refine V_aload_n Y.1 1 dX5_runScript_12 (rfl : _ = 13) rfl rfl ?_
  refine V_get Y.1 fi_X5_33 hF.1.1 rfl dX5_runScript_13 (rfl : _ = 16) ?_
  refine V_iconst Y.1 (v := 0) dX5_runScript_16 (rfl : _ = 17) (by decide) ?_
  refine V_cV Y (sV Z (c_J4_setLength_d00df l D kA Hs σ _ hg _ _ _ ns gs hF.2.2.2.1 (by omega)) mi_J4_setLength_d00df vi_X5_218 rfl hF.2.2.2.1.1.choose_spec rfl rfl (Nat.le_of_ble_eq_true rfl) ⟨Nat.le_of_ble_eq_true rfl, Nat.le_of_ble_eq_true rfl⟩ (Nat.le_of_ble_eq_true rfl) (Nat.le_of_ble_eq_true rfl) dX5_runScript_17) (fun q z => Or.inl (z ▸ ⟨by omega, by omega⟩)) (rfl : _ = 20) (fun H17_13 hq_17 o_17 => ?_)
  obtain ⟨hS17, z17⟩ := hq_17
  have hg := hg.keep o_17 (fun q z => z ▸ (by omega))
  have hR := hR.off o_17 (fun q h z => by have := h.1; have z : q = a + 323 := z; omega)
  have hF := hF.scr o_17 (fun q z => Or.inl z) hS17 (hF.2.2.2.2.2.2.1.off o_17)
  refine V_iload_n Y.1 0 dX5_runScript_20 (rfl : _ = 21) rfl rfl ?_
  refine V_if_ne Y.1 (tgt := 46) dX5_runScript_21 (by decide) (rfl : _ = 24) (fun c_21 => ?_) (fun c_21 => ?_)
  · have hfm : (z.1 = 0 ∧ ns ≤ z.2.1) := Decidable.byContradiction fun q => c_21 (by rw [hv8, if_neg q])
    obtain ⟨hn9, hn1, hJ⟩ := hf8 hfm
    obtain ⟨q1, q2, q3, q4⟩ := hq hfm
    obtain ⟨E0, hE⟩ := hF.now
    refine V_aload_n Y.1 1 dX5_runScript_46 (rfl : _ = 47) rfl rfl ?_
    refine V_get Y.1 fi_X5_16 hF.1.1 rfl dX5_runScript_47 (rfl : _ = 50) ?_
    refine V_aload_n Y.1 1 dX5_runScript_50 (rfl : _ = 51) rfl rfl ?_
    refine V_get Y.1 fi_X5_10 hF.1.1 rfl dX5_runScript_51 (rfl : _ = 54) ?_
    obtain ⟨v1, ho1⟩ := (hF.2.1 (π 1) hp1).ob
    refine V_cV Y (rV Y (c_X3_copyFrom l D kA _ (sl a (π 1)) (W (π 1)) ES (sl a (π 0)) (W (π 0)) n hI.1 hI.2.1 (hF.2.1 _ hp1) hF.now (sl_ap h01) hI.hok) mi_X3_copyFrom vi_X5_259 rfl ho1 rfl rfl (Nat.le_of_ble_eq_true rfl) ⟨Nat.le_of_ble_eq_true rfl, Nat.le_of_ble_eq_true rfl⟩ (Nat.le_of_ble_eq_true rfl) (Nat.le_of_ble_eq_true rfl) dX5_runScript_54) (fun q z => Or.inl (blk_sl hp1 q z)) (rfl : _ = 57) (fun H54_29 hq_54 o_54 => ?_)
    have ho1 := ho1
    obtain ⟨hm54, z54⟩ := hq_54
    have hF := hF.setw hp1 o_54 hm54 (fun q z => z) (hF.2.2.2.2.2.2.1.off o_54)
    have hR := hR.off o_54 (fun q h z => by have := h.1; have := z.2; have := sl_hi (a := a) hp1; omega)
    refine V_aload_n Y.1 1 dX5_runScript_57 (rfl : _ = 58) rfl rfl ?_
    refine V_cI Y (rV Y (c_X5_firstFailedCommand l D kA _ _ _ _ _ _ _ _ _ _ _ _ _ _ _ z.2.2.2 J1 J2 J3 n1 _ y1 j hF hR hn1 hJ (by omega) (by rw [e0]; exact q2) (by rw [e0, hn9]; exact q3) (by rw [e0]; exact q4)) mi_X5_firstFailedCommand vi_X5_263 rfl hF.1.1 rfl rfl (Nat.le_of_ble_eq_true rfl) ⟨Nat.le_of_ble_eq_true rfl, Nat.le_of_ble_eq_true rfl⟩ (Nat.le_of_ble_eq_true rfl) (Nat.le_of_ble_eq_true rfl) dX5_runScript_58) (fun q z => Or.inl (blk_sl hp0 q z)) (rfl : _ = 61) (fun v_58 H58_35 hq_58 o_58 => ?_)
    obtain ⟨hv58, hF, hR⟩ := hq_58
    rw [e0] at hF
    refine V_istore_n Y.1 (ls' := [(2, _), (1, _), (0, _)]) dX5_runScript_61 (rfl : _ = 62) rfl (by decide) rfl ?_
    refine V_iload_n Y.1 0 dX5_runScript_62 (rfl : _ = 63) rfl rfl ?_
    refine V_iconst Y.1 (v := -1) dX5_runScript_63 (rfl : _ = 64) (by decide) ?_
    refine V_icmp_eq Y.1 (tgt := 87) dX5_runScript_64 (by decide) (rfl : _ = 67) (fun c_64 => ?_) (fun c_64 => ?_)
    · have hge : ¬ j < n1 := fun q => by rw [hv58, if_pos q] at c_64; exact nI_nm1 (by omega) c_64
      refine V_aload_n Y.1 2 dX5_runScript_87 (rfl : _ = 88) rfl rfl ?_
      refine V_cV Y (rV Y (c_X5_pushSpare l D kA _ a π u hs ep fc hF.1 hF.2.2.2.2.2.2.2.1 hF.2.2.2.2.2.1.1 (fun k hk => (hF.2.1 k hk).ob)) mi_X5_pushSpare vi_X5_271 rfl hF.1.1 rfl rfl (Nat.le_of_ble_eq_true rfl) ⟨Nat.le_of_ble_eq_true rfl, Nat.le_of_ble_eq_true rfl⟩ (Nat.le_of_ble_eq_true rfl) (Nat.le_of_ble_eq_true rfl) dX5_runScript_88) (fun q z => Or.inl (z.elim (fun e => e ▸ ⟨by omega, by omega⟩) (fun e => e ▸ ⟨by omega, by omega⟩))) (rfl : _ = 91) (fun H88_44 hq_88 o_88 => ?_)
      have hF := hF.rol o_88 hq_88.1 (hF.2.2.2.2.2.1.push hF.2.2.2.2.2.2.2.1) (by split <;> omega) hF.2.2.2.2.2.2.2.2
      have hR := hR.off o_88 (fun q h z => by have := h.1; exact z.elim (fun e => by omega) (fun e => by omega))
      refine V_aload_n Y.1 2 dX5_runScript_91 (rfl : _ = 92) rfl rfl ?_
      refine V_get Y.1 fi_X5_39 hF.1.1 rfl dX5_runScript_92 (rfl : _ = 95) ?_
      refine V_get Y.1 fi_X5_274 hR.1 rfl dX5_runScript_95 (rfl : _ = 98) ?_
      refine V_nm (v := nI z.2.2.1) (congrArg nI hn9) ?_
      exact V_X (V_ret Y.1 dX5_runScript_98 rfl (Nat.le_of_ble_eq_true rfl) (Nat.le_of_ble_eq_true rfl) ⟨hfm, by rw [← hn9]; exact hge, rfl, (hF.mono (fun q y => y.elim Or.inl (fun w => Or.inr ⟨Nat.le_trans o_8.1 (Nat.le_trans o_17.1 (Nat.le_trans o_54.1 w.1)), Nat.lt_of_lt_of_le w.2 o_88.1⟩)) (hL0.gro (Nat.le_trans o_8.1 (Nat.le_trans o_17.1 (Nat.le_trans o_54.1 (Nat.le_trans o_58.1 o_88.1))))))⟩)
    · have hlt : j < n1 := Decidable.byContradiction fun q => c_64 (by rw [hv58, if_neg q])
      rw [if_pos hlt] at hv58
      subst hv58
      refine V_aload_n Y.1 2 dX5_runScript_67 (rfl : _ = 68) rfl rfl ?_
      refine V_cV Y (rV Y (c_X5_takeBackToSpare l D kA _ a π u hs ep fc hF.1) mi_X5_takeBackToSpare vi_X5_266 rfl hF.1.1 rfl rfl (Nat.le_of_ble_eq_true rfl) ⟨Nat.le_of_ble_eq_true rfl, Nat.le_of_ble_eq_true rfl⟩ (Nat.le_of_ble_eq_true rfl) (Nat.le_of_ble_eq_true rfl) dX5_runScript_68) (fun q z => Or.inl (z ▸ ⟨by omega, by omega⟩)) (rfl : _ = 71) (fun H68_56 hq_68 o_68 => ?_)
      have hF := hF.rol (o_68.mono (G := fun q => q = a ∨ q = a + 88) (fun q _ z => Or.inl z)) hq_68.1 (hF.2.2.2.2.2.1.swap (by decide) (by decide) (by decide) (by decide) (by decide)) hF.2.2.2.2.2.2.2.1 hF.2.2.2.2.2.2.2.2
      have hR := hR.off o_68 (fun q h z => by have := h.1; have z : q = a := z; omega)
      refine V_aload_n Y.1 2 dX5_runScript_71 (rfl : _ = 72) rfl rfl ?_
      refine V_iload_n Y.1 0 dX5_runScript_72 (rfl : _ = 73) rfl rfl ?_
      refine V_put Y.1 fi_X5_47 fw_X5 rfl rfl hF.1.1 (Or.inl ⟨by omega, by omega⟩) rfl rfl (Nat.le_of_ble_eq_true rfl) dX5_runScript_73 (rfl : _ = 76) (fun H73_61 h_new o_73 => ?_)
      have hF := hF.rol (o_73.off (F := fun q => q = a ∨ q = a + 88) (Or.inl rfl)) (show Ob D kA _ a (p_swap π 0 1) u hs ep (nI j) from ⟨h_new, hF.1.2.sto o_73 (by omega)⟩) hF.2.2.2.2.2.1 (hF.2.2.2.2.2.2.2.1) (hF.2.2.2.2.2.2.2.2)
      have hR := hR.off (o_73.off (F := fun q => q = a) rfl) (fun q h z => by have := h.1; have z : q = a := z; omega)
      clear h_new
      refine V_thrW Z hnt th_X5_245 (show ("MetroFares", 269, "a command failed") ∈ wL by decide +kernel) dX5_runScript_76 dX5_runScript_79 dX5_runScript_80 dX5_runScript_83 dX5_runScript_86 (Nat.le_of_ble_eq_true rfl) (Nat.le_of_ble_eq_true rfl) (Nat.le_of_ble_eq_true rfl) (Nat.le_of_ble_eq_true rfl) (fun H9 o9 => VX_out Y.1 hnm (Nat.le_of_ble_eq_true rfl) (Nat.le_of_ble_eq_true rfl) (Or.inr ⟨rfl, hfm, by rw [← hn9]; exact hlt, ((hF.new o9).mono (fun q y => y.elim Or.inl (fun w => Or.inr ⟨Nat.le_trans o_8.1 (Nat.le_trans o_17.1 (Nat.le_trans o_54.1 w.1)), Nat.lt_of_lt_of_le w.2 (Nat.le_trans o_68.1 (Nat.le_trans (Nat.le_of_eq o_73.1.symm) o9.1))⟩)) (hL0.gro (Nat.le_trans o_8.1 (Nat.le_trans o_17.1 (Nat.le_trans o_54.1 (Nat.le_trans o_58.1 (Nat.le_trans o_68.1 (Nat.le_trans (Nat.le_of_eq o_73.1.symm) o9.1))))))))⟩))
  · have hnf : ¬ (z.1 = 0 ∧ ns ≤ z.2.1) := fun q => by rw [hv8, if_pos q] at c_21; exact absurd c_21 (by decide)
    refine V_aload_n Y.1 1 dX5_runScript_24 (rfl : _ = 25) rfl rfl ?_
    refine V_aload_n Y.1 1 dX5_runScript_25 (rfl : _ = 26) rfl rfl ?_
    refine V_get Y.1 fi_X5_39 hF.1.1 rfl dX5_runScript_26 (rfl : _ = 29) ?_
    refine V_get Y.1 fi_X5_254 hR.1 rfl dX5_runScript_29 (rfl : _ = 32) ?_
    refine V_put Y.1 fi_X5_43 fw_X5 rfl rfl hF.1.1 (Or.inl ⟨by omega, by omega⟩) rfl rfl (Nat.le_of_ble_eq_true rfl) dX5_runScript_32 (rfl : _ = 35) (fun H32_71 h_new o_32 => ?_)
    have hF := hF.rol (o_32.off (F := fun q => q = a ∨ q = a + 88) (Or.inl rfl)) (show Ob D kA _ a π u hs (nI z.2.1) fc from ⟨h_new, hF.1.2.sto o_32 (by omega)⟩) hF.2.2.2.2.2.1 (hF.2.2.2.2.2.2.2.1) (hF.2.2.2.2.2.2.2.2)
    have hR := hR.off (o_32.off (F := fun q => q = a) rfl) (fun q h z => by have := h.1; have z : q = a := z; omega)
    clear h_new
    refine V_thrW Z hnt th_X5_240 (show ("MetroFares", 257, "not the form of a script") ∈ wL by decide +kernel) dX5_runScript_35 dX5_runScript_38 dX5_runScript_39 dX5_runScript_42 dX5_runScript_45 (Nat.le_of_ble_eq_true rfl) (Nat.le_of_ble_eq_true rfl) (Nat.le_of_ble_eq_true rfl) (Nat.le_of_ble_eq_true rfl) (fun H9 o9 => VX_out Y.1 hnm (Nat.le_of_ble_eq_true rfl) (Nat.le_of_ble_eq_true rfl) (Or.inl ⟨rfl, hnf, hF.new o9⟩))

set_option maxRecDepth 100000 in
set_option maxHeartbeats 4000000 in
theorem c_X5_init (l : Launch) (D : va_G) (kA : Nat → ClassId) (Hs : Heap) (σ : SG) (H0 : Heap) (hg : Ag Hs H0) (a : Nat) (fs : List Value) (h0 : hp D H0 a (eO 9 fs)) (hf : fs = [.null, .null, .null, .null, .null, .null, .null, .int 0, .int 0, .int 0, .int 0]) (hsz : H0.size = a + 1) (hbs : Hs.size ≤ a) : CtS l D kA Hs σ yX5_init cX5_init 2 none 3 66 328 2700 H0 [.ref a] (blk a 329) (pV fun H => Fs D kA H a (fun _ => m_new) (fun j => j) (fun _ => False) 0 0 (-1) (-1) 0 (fun _ => 0) (a + 324) 16 0 (fun _ => 0) ∧ H.size = a + 329) := by
  refine CtS.of mi_X5_init (Nat.le_of_ble_eq_true rfl) (ls0 := [(0, _)]) rfl hg (fun q z => Nat.le_trans hbs z.1) ?_
  intro Pp Ee Ss Mm Ar Bl Me Cc Z hsH hnm
  have Y := Z.1
  subst hf
  have lp : ∀ (m j : Nat) (H : Heap) (f : Nat → Option Nat), j + m = 8 → hp D H a (eO 9 [.ref (a + 88), .ref (a + 59), .null, .null, .null, .ref (a + 1), .ref (a + 30), .int 0, .int 0, .int 0, .int 0]) → hp D H (a + 88) (eR kA 5 8 f) → (∀ i, i < j → f i = some (sl a (3 + i))) → (∀ k, k < 3 + j → Mc D kA H (sl a k) m_new (fun _ => False)) → Ag Hs H → H.size = a + 89 + 29 * j → V Pp l Ee (rmO 3 66 328 2700) Ss Mm Ar Bl Me Cc 2 (AA H0 (blk a 329)) (QC Bl Ar Ss 328 2700 H0 (blk a 329) (pV fun H => Fs D kA H a (fun _ => m_new) (fun j => j) (fun _ => False) 0 0 (-1) (-1) 0 (fun _ => 0) (a + 324) 16 0 (fun _ => 0) ∧ H.size = a + 329)) H (88 + 29 * j) (695 + 229 * j) 48 [(1, .int (nI j)), (0, .ref a)] [] := by
    clear h0 hg hsz
    intro m
    induction m with
    | zero =>
      intro j H f hj h0 h2 hf hW hg sz
      obtain rfl : j = 8 := by omega
      refine V_iload_n Y.1 0 dX5_init_48 (rfl : _ = 49) rfl rfl ?_
      refine V_bipush Y.1 (v := 8) dX5_init_49 (rfl : _ = 51) (by decide) ?_
      refine V_icmp_ge Y.1 (tgt := 73) dX5_init_51 (by decide) (rfl : _ = 54) (fun _ => ?_) (fun c_n => absurd ((nI_leI (a := 8) (b := 8) (by omega) (by omega)).mpr (Nat.le_refl _)) c_n)
      refine V_aload_n Y.1 1 dX5_init_73 (rfl : _ = 74) rfl rfl ?_
      refine V_new Y.1 (ci := 1) (fs := [.null, .int 0, .int 0, .int 0]) rfl in_J4 tyJ4_ok cl_X5_26 inst_J4 ini_J4 (by decide) (Nat.le_of_ble_eq_true rfl) (Nat.le_of_ble_eq_true rfl) dX5_init_74 (rfl : _ = 77) (fun H74_4 q_74 eq_74 z_74 h_new o_74 => ?_)
      have e_q74 : q_74 = (a + 89 + 29 * 8) := eq_74.trans sz
      have sz : Array.size H74_4 = (a + 89 + 29 * 8) + 1 := by rw [z_74, e_q74]
      have h0 := h0.off o_74 id
      have h2 := h2.off o_74 id
      have ho74 := h_new
      obtain rfl : q_74 = a + 321 := by omega
      have hg := hg.keep o_74 (fun _ z => z.elim)
      have hW := Wn.nw hW o_74
      refine V_dup Y.1 dX5_init_77 (rfl : _ = 78) rfl ?_
      refine V_cV Y (sI Z (c_J4_init_da8c8 l D kA Hs σ _ hg (a + 321) _ ho74 rfl (by omega)) mi_J4_init_da8c8 ii_X5_28 rfl rfl (Nat.le_of_ble_eq_true rfl) ⟨Nat.le_of_ble_eq_true rfl, Nat.le_of_ble_eq_true rfl⟩ (Nat.le_of_ble_eq_true rfl) (Nat.le_of_ble_eq_true rfl) dX5_init_78) (fun q hq => (Or.inl (blk_sub (by omega) (by omega) q hq))) (rfl : _ = 81) (fun H78_14 hq_78 o_78 => ?_)
      obtain ⟨hS9, z78⟩ := hq_78
      obtain ⟨v9, e9, hSo⟩ : ∃ v9, v9 = a + 321 + 1 ∧ Sb D kA _ (a + 321) v9 16 0 (fun _ => 0) := ⟨_, by omega, hS9⟩
      subst e9
      have h0 := h0.off o_78 (fun z => by have := z.1; omega)
      have h2 := h2.off o_78 (fun z => by have := z.1; omega)
      have hg := hg.keep o_78 (fun q z => by have := z.1; omega)
      have hW := Wn.cl hW o_78 (fun k hk => by have := sl_hi (a := a) (k := k) (by omega); omega)
      have sz : Array.size H78_14 = (a + 321 + 2) := by omega
      refine V_putF Y.1 fi_X5_29 fw_X5 rfl (by rw [hnm]; rfl) rfl rfl h0 (Or.inl ⟨by omega, by omega⟩) rfl rfl (Nat.le_of_ble_eq_true rfl) dX5_init_81 (rfl : _ = 84) (fun H81_23 h_new o_81 => ?_)
      have h0 : hp D _ _ (.inr (9, [_, _, _, _, _, _, _, _, _, _, _])) := h_new
      have h2 := h2.sto o_81 (by omega)
      have sz : Array.size H81_23 = (a + 321 + 2) := o_81.1.trans sz
      clear h_new
      have hW := Wn.so hW o_81 (fun k => by have := sl_lo a k; have := sl_88 (a := a) (k := k); omega)
      have hg := hg.put o_81 hbs
      have hSo := hSo.off (o_81.off (F := fun q => q = a) rfl) (fun z => by have z : _ = a := z; omega) (fun z => by have z : _ = a := z; omega)
      refine V_aload_n Y.1 1 dX5_init_84 (rfl : _ = 85) rfl rfl ?_
      refine V_new Y.1 (ci := 1) (fs := [.null, .int 0, .int 0, .int 0]) rfl in_J4 tyJ4_ok cl_X5_26 inst_J4 ini_J4 (by decide) (Nat.le_of_ble_eq_true rfl) (Nat.le_of_ble_eq_true rfl) dX5_init_85 (rfl : _ = 88) (fun H85_32 q_85 eq_85 z_85 h_new o_85 => ?_)
      have e_q85 : q_85 = (a + 321 + 2) := eq_85.trans sz
      have sz : Array.size H85_32 = (a + 321 + 2) + 1 := by rw [z_85, e_q85]
      have h0 := h0.off o_85 id
      have h2 := h2.off o_85 id
      have ho85 := h_new
      obtain rfl : q_85 = a + 323 := by omega
      have hg := hg.keep o_85 (fun _ z => z.elim)
      have hW := Wn.nw hW o_85
      have hSo := hSo.off o_85 (fun z => z) (fun z => z)
      refine V_dup Y.1 dX5_init_88 (rfl : _ = 89) rfl ?_
      refine V_cV Y (sI Z (c_J4_init_da8c8 l D kA Hs σ _ hg (a + 323) _ ho85 rfl (by omega)) mi_J4_init_da8c8 ii_X5_28 rfl rfl (Nat.le_of_ble_eq_true rfl) ⟨Nat.le_of_ble_eq_true rfl, Nat.le_of_ble_eq_true rfl⟩ (Nat.le_of_ble_eq_true rfl) (Nat.le_of_ble_eq_true rfl) dX5_init_89) (fun q hq => (Or.inl (blk_sub (by omega) (by omega) q hq))) (rfl : _ = 92) (fun H89_43 hq_89 o_89 => ?_)
      obtain ⟨hS9, z89⟩ := hq_89
      obtain ⟨v9, e9, hSs⟩ : ∃ v9, v9 = a + 323 + 1 ∧ Sb D kA _ (a + 323) v9 16 0 (fun _ => 0) := ⟨_, by omega, hS9⟩
      subst e9
      have h0 := h0.off o_89 (fun z => by have := z.1; omega)
      have h2 := h2.off o_89 (fun z => by have := z.1; omega)
      have hg := hg.keep o_89 (fun q z => by have := z.1; omega)
      have hW := Wn.cl hW o_89 (fun k hk => by have := sl_hi (a := a) (k := k) (by omega); omega)
      have hSo := hSo.off o_89 (fun z => by have := z.1; omega) (fun z => by have := z.1; omega)
      have sz : Array.size H89_43 = (a + 323 + 2) := by omega
      refine V_putF Y.1 fi_X5_33 fw_X5 rfl (by rw [hnm]; rfl) rfl rfl h0 (Or.inl ⟨by omega, by omega⟩) rfl rfl (Nat.le_of_ble_eq_true rfl) dX5_init_92 (rfl : _ = 95) (fun H92_53 h_new o_92 => ?_)
      have h0 : hp D _ _ (.inr (9, [_, _, _, _, _, _, _, _, _, _, _])) := h_new
      have h2 := h2.sto o_92 (by omega)
      have sz : Array.size H92_53 = (a + 323 + 2) := o_92.1.trans sz
      clear h_new
      have hW := Wn.so hW o_92 (fun k => by have := sl_lo a k; have := sl_88 (a := a) (k := k); omega)
      have hg := hg.put o_92 hbs
      have hSo := hSo.off (o_92.off (F := fun q => q = a) rfl) (fun z => by have z : _ = a := z; omega) (fun z => by have z : _ = a := z; omega)
      have hSs := hSs.off (o_92.off (F := fun q => q = a) rfl) (fun z => by have z : _ = a := z; omega) (fun z => by have z : _ = a := z; omega)
      refine V_aload_n Y.1 1 dX5_init_95 (rfl : _ = 96) rfl rfl ?_
      refine V_new Y.1 (ci := 8) (fs := [.null, .null, .null, .int 0, .int 0, .int 0]) rfl in_X4 tyX4_ok cl_X5_36 inst_X4 ini_X4 (by decide) (Nat.le_of_ble_eq_true rfl) (Nat.le_of_ble_eq_true rfl) dX5_init_96 (rfl : _ = 99) (fun H96_63 q_96 eq_96 z_96 h_new o_96 => ?_)
      have e_q96 : q_96 = (a + 323 + 2) := eq_96.trans sz
      have sz : Array.size H96_63 = (a + 323 + 2) + 1 := by rw [z_96, e_q96]
      have h0 := h0.off o_96 id
      have h2 := h2.off o_96 id
      have hr := h_new
      obtain rfl : q_96 = a + 325 := by omega
      have hg := hg.keep o_96 (fun _ z => z.elim)
      have hW := Wn.nw hW o_96
      have hSo := hSo.off o_96 (fun z => z) (fun z => z)
      have hSs := hSs.off o_96 (fun z => z) (fun z => z)
      refine V_dup Y.1 dX5_init_99 (rfl : _ = 100) rfl ?_
      refine V_cV Y (rI Y (c_X4_init l D kA _ (a + 325) _ hr rfl (by omega)) mi_X4_init ii_X5_38 rfl rfl (Nat.le_of_ble_eq_true rfl) ⟨Nat.le_of_ble_eq_true rfl, Nat.le_of_ble_eq_true rfl⟩ (Nat.le_of_ble_eq_true rfl) (Nat.le_of_ble_eq_true rfl) dX5_init_100) (fun q hq => (Or.inl (blk_sub (by omega) (by omega) q hq))) (rfl : _ = 103) (fun H100_75 hq_100 o_100 => ?_)
      obtain ⟨hR, z100⟩ := hq_100
      have h0 := h0.off o_100 (fun z => by have := z.1; omega)
      have h2 := h2.off o_100 (fun z => by have := z.1; omega)
      have hW := Wn.cl hW o_100 (fun k hk => by have := sl_hi (a := a) (k := k) (by omega); omega)
      have hSo := hSo.off o_100 (fun z => by have := z.1; omega) (fun z => by have := z.1; omega)
      have hSs := hSs.off o_100 (fun z => by have := z.1; omega) (fun z => by have := z.1; omega)
      have sz : Array.size H100_75 = (a + 329) := by omega
      refine V_putF Y.1 fi_X5_39 fw_X5 rfl (by rw [hnm]; rfl) rfl rfl h0 (Or.inl ⟨by omega, by omega⟩) rfl rfl (Nat.le_of_ble_eq_true rfl) dX5_init_103 (rfl : _ = 106) (fun H103_83 h_new o_103 => ?_)
      have h0 : hp D _ _ (.inr (9, [_, _, _, _, _, _, _, _, _, _, _])) := h_new
      have h2 := h2.sto o_103 (by omega)
      have sz : Array.size H103_83 = (a + 329) := o_103.1.trans sz
      clear h_new
      have hW := Wn.so hW o_103 (fun k => by have := sl_lo a k; have := sl_88 (a := a) (k := k); omega)
      have hSo := hSo.off (o_103.off (F := fun q => q = a) rfl) (fun z => by have z : _ = a := z; omega) (fun z => by have z : _ = a := z; omega)
      have hSs := hSs.off (o_103.off (F := fun q => q = a) rfl) (fun z => by have z : _ = a := z; omega) (fun z => by have z : _ = a := z; omega)
      have hR := hR.off (o_103.off (F := fun q => q = a) rfl) (fun q h z => by have := h.1; have z : q = a := z; omega)
      refine V_aload_n Y.1 1 dX5_init_106 (rfl : _ = 107) rfl rfl ?_
      refine V_iconst Y.1 (v := -1) dX5_init_107 (rfl : _ = 108) (by decide) ?_
      refine V_put Y.1 fi_X5_43 fw_X5 rfl rfl h0 (Or.inl ⟨by omega, by omega⟩) rfl rfl (Nat.le_of_ble_eq_true rfl) dX5_init_108 (rfl : _ = 111) (fun H108_94 h_new o_108 => ?_)
      have h0 : hp D _ _ (.inr (9, [_, _, _, _, _, _, _, _, _, _, _])) := h_new
      have h2 := h2.sto o_108 (by omega)
      have sz : Array.size H108_94 = (a + 329) := o_108.1.trans sz
      clear h_new
      have hW := Wn.so hW o_108 (fun k => by have := sl_lo a k; have := sl_88 (a := a) (k := k); omega)
      have hSo := hSo.off (o_108.off (F := fun q => q = a) rfl) (fun z => by have z : _ = a := z; omega) (fun z => by have z : _ = a := z; omega)
      have hSs := hSs.off (o_108.off (F := fun q => q = a) rfl) (fun z => by have z : _ = a := z; omega) (fun z => by have z : _ = a := z; omega)
      have hR := hR.off (o_108.off (F := fun q => q = a) rfl) (fun q h z => by have := h.1; have z : q = a := z; omega)
      refine V_aload_n Y.1 1 dX5_init_111 (rfl : _ = 112) rfl rfl ?_
      refine V_iconst Y.1 (v := -1) dX5_init_112 (rfl : _ = 113) (by decide) ?_
      refine V_put Y.1 fi_X5_47 fw_X5 rfl rfl h0 (Or.inl ⟨by omega, by omega⟩) rfl rfl (Nat.le_of_ble_eq_true rfl) dX5_init_113 (rfl : _ = 116) (fun H113_105 h_new o_113 => ?_)
      have h0 : hp D _ _ (.inr (9, [_, _, _, _, _, _, _, _, _, _, _])) := h_new
      have h2 := h2.sto o_113 (by omega)
      have sz : Array.size H113_105 = (a + 329) := o_113.1.trans sz
      clear h_new
      have hW := Wn.so hW o_113 (fun k => by have := sl_lo a k; have := sl_88 (a := a) (k := k); omega)
      have hSo := hSo.off (o_113.off (F := fun q => q = a) rfl) (fun z => by have z : _ = a := z; omega) (fun z => by have z : _ = a := z; omega)
      have hSs := hSs.off (o_113.off (F := fun q => q = a) rfl) (fun z => by have z : _ = a := z; omega) (fun z => by have z : _ = a := z; omega)
      have hR := hR.off (o_113.off (F := fun q => q = a) rfl) (fun q h z => by have := h.1; have z : q = a := z; omega)
      exact V_retV Y.1 dX5_init_116 (Nat.le_of_ble_eq_true rfl) (Nat.le_of_ble_eq_true rfl) ⟨⟨⟨by show hp D _ a (eO 9 [.ref (a + 88), .ref (sl a 2), .ref (a + 321), .ref (a + 323), .ref (a + 325), .ref (sl a 0), .ref (sl a 1), .int (nI 0), .int 0, .int (-1), .int (-1)]); rw [show sl a 2 = a + 59 from rfl, show sl a 0 = a + 1 from rfl, show sl a 1 = a + 30 from rfl]; exact h0, h2.congR (fun i hi => hf i hi)⟩, hW, hSo, hSs, ⟨_, _, _, _, _, _, hR⟩, ⟨fun j hj => hj, fun i j _ _ e => e, rfl⟩, ⟨fun q z => z.elim, Or.inl rfl, by omega, by omega⟩, Nat.zero_le _, Or.inl rfl⟩, sz⟩
    | succ m ih =>
      intro j H f hj h0 h2 hf hW hg sz
      refine V_iload_n Y.1 0 dX5_init_48 (rfl : _ = 49) rfl rfl ?_
      refine V_bipush Y.1 (v := 8) dX5_init_49 (rfl : _ = 51) (by decide) ?_
      refine V_icmp_ge Y.1 (tgt := 73) dX5_init_51 (by decide) (rfl : _ = 54) (fun c_n => absurd c_n (fun q => absurd ((nI_leI (a := 8) (b := j) (by omega) (by omega)).mp q) (by omega))) (fun _ => ?_)
      refine V_aload_n Y.1 1 dX5_init_54 (rfl : _ = 55) rfl rfl ?_
      refine V_get Y.1 fi_X5_22 h0 rfl dX5_init_55 (rfl : _ = 58) ?_
      refine V_iload_n Y.1 0 dX5_init_58 (rfl : _ = 59) rfl rfl ?_
      refine V_new Y.1 (ci := 7) (fs := [.null, .null, .int 0, .int 0, .int 0, .int 0, .int 0, .int 0, .int 0]) rfl in_X3 tyX3_ok cl_X5_7 inst_X3 ini_X3 (by decide) (by show 88 + 29 * j + 1 ≤ 328; omega) (by show 695 + 229 * j + 9 ≤ 2700; omega) dX5_init_59 (rfl : _ = 62) (fun H59_6 q_59 eq_59 z_59 h_new o_59 => ?_)
      have e_q59 : q_59 = (a + 89 + 29 * j) := eq_59.trans sz
      have sz : Array.size H59_6 = (a + 89 + 29 * j) + 1 := by rw [z_59, e_q59]
      have h0 := h0.off o_59 id
      have h2 := h2.off o_59 id
      have hm := h_new
      have e59 : q_59 = sl a (3 + j) := by unfold sl; rw [if_neg (by omega)]; omega
      subst e59
      have hg := hg.keep o_59 (fun _ z => z.elim)
      have hW := Wn.nw hW o_59
      have s1 := sl_lo a (3 + j)
      have s2 := sl_hi (a := a) (k := 3 + j) (by omega)
      have s3 : a + 89 ≤ sl a (3 + j) := by unfold sl; rw [if_neg (by omega)]; omega
      refine V_dup Y.1 dX5_init_62 (rfl : _ = 63) rfl ?_
      refine V_cV Y (rI Y (c_X3_init l D kA _ (sl a (3 + j)) _ hm rfl (by omega)) mi_X3_init ii_X5_9 rfl rfl (Nat.le_of_ble_eq_true rfl) ⟨Nat.le_of_ble_eq_true rfl, Nat.le_of_ble_eq_true rfl⟩ (by show 88 + 29 * j + 1 + 28 ≤ 328; omega) (by show 695 + 229 * j + 9 + 220 ≤ 2700; omega) dX5_init_63) (fun q hq => (Or.inl (blk_sub (by omega) (by omega) q hq))) (rfl : _ = 66) (fun H63_20 hq_63 o_63 => ?_)
      obtain ⟨hT, z63⟩ := hq_63
      have h0 := h0.off o_63 (fun z => by have := z.1; omega)
      have h2 := h2.off o_63 (fun z => by have := z.1; omega)
      have hg := hg.keep o_63 (fun q z => by have := z.1; omega)
      have hW := Wn.add (Wn.cl hW o_63 (fun k hk => sl_up (a := a) hk)) hT rfl
      have sz : Array.size H63_20 = (a + 89 + 29 * (j + 1)) := by omega
      refine V_astM Y.1 h2 (Or.inl ⟨by omega, by omega⟩) (vp_in_nI (by omega) (by omega)) hT.1 dX5_init_66 (rfl : _ = 67) (fun H66_27 h_new o_66 => ?_)
      have h2 := h_new
      have h0 := h0.sto o_66 (by omega)
      have sz : Array.size H66_27 = (a + 89 + 29 * (j + 1)) := o_66.1.trans sz
      clear h_new
      rw [nI_clamp (by omega)] at h2
      have hW := Wn.so hW o_66 (fun k => by have := sl_lo a k; have := sl_88 (a := a) (k := k); omega)
      have hg := hg.put o_66 (by omega)
      refine V_iinc Y.1 (v := nI (j + 1)) (ls' := [(1, _), (0, _)]) 0 dX5_init_67 (rfl : _ = 70) rfl (nI_1 _) (by decide) rfl ?_
      refine V_goto Y.1 (tgt := 48) dX5_init_70 (by decide) ?_
      have hf9 : ∀ i, i < j + 1 → va_up f j (some (sl a (3 + j))) i = some (sl a (3 + i)) := fun i hi => by
        rcases Nat.lt_succ_iff_lt_or_eq.mp hi with z | rfl
        · rw [vu_ne (by omega)]; exact hf i z
        · exact vu_eq
      exact V_forget (ls' := [(1, _), (0, _)]) [0, 1] rfl (ih (j + 1) _ _ (by omega) h0 h2 hf9 hW hg sz)
  have sz : H0.size = H0.size := rfl
  refine V_aload_n Y.1 0 dX5_init_0 (rfl : _ = 1) rfl rfl ?_
  refine V_objInit Y.1 ow_X5_1 dX5_init_1 (rfl : _ = 4) (Nat.le_of_ble_eq_true rfl) (Nat.le_of_ble_eq_true rfl) (Nat.le_of_ble_eq_true rfl) (Nat.le_of_ble_eq_true rfl) ?_
  refine V_aload_n Y.1 0 dX5_init_4 (rfl : _ = 5) rfl rfl ?_
  refine V_new Y.1 (ci := 7) (fs := [.null, .null, .int 0, .int 0, .int 0, .int 0, .int 0, .int 0, .int 0]) rfl in_X3 tyX3_ok cl_X5_7 inst_X3 ini_X3 (by decide) (Nat.le_of_ble_eq_true rfl) (Nat.le_of_ble_eq_true rfl) dX5_init_5 (rfl : _ = 8) (fun H5_3 q_5 eq_5 z_5 h_new o_5 => ?_)
  have e_q5 : q_5 = H0.size := eq_5.trans sz
  have sz : Array.size H5_3 = H0.size + 1 := by rw [z_5, e_q5]
  have h0 := h0.off o_5 id
  have hm5 := h_new
  obtain rfl : q_5 = a + 1 := by omega
  have hg := hg.keep o_5 (fun _ z => z.elim)
  refine V_dup Y.1 dX5_init_8 (rfl : _ = 9) rfl ?_
  refine V_cV Y (rI Y (c_X3_init l D kA _ (a + 1) _ hm5 rfl (by omega)) mi_X3_init ii_X5_9 rfl rfl (Nat.le_of_ble_eq_true rfl) ⟨Nat.le_of_ble_eq_true rfl, Nat.le_of_ble_eq_true rfl⟩ (Nat.le_of_ble_eq_true rfl) (Nat.le_of_ble_eq_true rfl) dX5_init_9) (fun q hq => (Or.inl (blk_sub (by omega) (by omega) q hq))) (rfl : _ = 12) (fun H9_11 hq_9 o_9 => ?_)
  obtain ⟨hT, z9⟩ := hq_9
  have h0 := h0.off o_9 (fun z => by have := z.1; omega)
  have hg := hg.keep o_9 (fun q z => by have := z.1; omega)
  have hW : ∀ k, k < 1 → Mc D kA _ (sl a k) m_new (fun _ => False) := Wn.add (n := 0) (fun k hk => absurd hk (Nat.not_lt_zero k)) hT (by unfold sl; split <;> omega)
  have sz : Array.size H9_11 = (a + 1 + 29) := by omega
  refine V_put Y.1 fi_X5_10 fw_X5 rfl rfl h0 (Or.inl ⟨by omega, by omega⟩) rfl rfl (Nat.le_of_ble_eq_true rfl) dX5_init_12 (rfl : _ = 15) (fun H12_17 h_new o_12 => ?_)
  have h0 : hp D _ _ (.inr (9, [_, _, _, _, _, _, _, _, _, _, _])) := h_new
  have sz : Array.size H12_17 = (a + 1 + 29) := o_12.1.trans sz
  clear h_new
  have hW := Wn.so hW o_12 (fun k => by have := sl_lo a k; have := sl_88 (a := a) (k := k); omega)
  have hg := hg.put o_12 hbs
  refine V_aload_n Y.1 0 dX5_init_15 (rfl : _ = 16) rfl rfl ?_
  refine V_new Y.1 (ci := 7) (fs := [.null, .null, .int 0, .int 0, .int 0, .int 0, .int 0, .int 0, .int 0]) rfl in_X3 tyX3_ok cl_X5_7 inst_X3 ini_X3 (by decide) (Nat.le_of_ble_eq_true rfl) (Nat.le_of_ble_eq_true rfl) dX5_init_16 (rfl : _ = 19) (fun H16_24 q_16 eq_16 z_16 h_new o_16 => ?_)
  have e_q16 : q_16 = (a + 1 + 29) := eq_16.trans sz
  have sz : Array.size H16_24 = (a + 1 + 29) + 1 := by rw [z_16, e_q16]
  have h0 := h0.off o_16 id
  have hm16 := h_new
  obtain rfl : q_16 = a + 30 := by omega
  have hg := hg.keep o_16 (fun _ z => z.elim)
  have hW := Wn.nw hW o_16
  refine V_dup Y.1 dX5_init_19 (rfl : _ = 20) rfl ?_
  refine V_cV Y (rI Y (c_X3_init l D kA _ (a + 30) _ hm16 rfl (by omega)) mi_X3_init ii_X5_9 rfl rfl (Nat.le_of_ble_eq_true rfl) ⟨Nat.le_of_ble_eq_true rfl, Nat.le_of_ble_eq_true rfl⟩ (Nat.le_of_ble_eq_true rfl) (Nat.le_of_ble_eq_true rfl) dX5_init_20) (fun q hq => (Or.inl (blk_sub (by omega) (by omega) q hq))) (rfl : _ = 23) (fun H20_33 hq_20 o_20 => ?_)
  obtain ⟨hT, z20⟩ := hq_20
  have h0 := h0.off o_20 (fun z => by have := z.1; omega)
  have hg := hg.keep o_20 (fun q z => by have := z.1; omega)
  have hW := Wn.add (Wn.cl hW o_20 (fun k hk => by unfold sl; split <;> omega)) hT (by unfold sl; split <;> omega)
  have sz : Array.size H20_33 = (a + 30 + 29) := by omega
  refine V_put Y.1 fi_X5_16 fw_X5 rfl rfl h0 (Or.inl ⟨by omega, by omega⟩) rfl rfl (Nat.le_of_ble_eq_true rfl) dX5_init_23 (rfl : _ = 26) (fun H23_39 h_new o_23 => ?_)
  have h0 : hp D _ _ (.inr (9, [_, _, _, _, _, _, _, _, _, _, _])) := h_new
  have sz : Array.size H23_39 = (a + 30 + 29) := o_23.1.trans sz
  clear h_new
  have hW := Wn.so hW o_23 (fun k => by have := sl_lo a k; have := sl_88 (a := a) (k := k); omega)
  have hg := hg.put o_23 hbs
  refine V_aload_n Y.1 0 dX5_init_26 (rfl : _ = 27) rfl rfl ?_
  refine V_new Y.1 (ci := 7) (fs := [.null, .null, .int 0, .int 0, .int 0, .int 0, .int 0, .int 0, .int 0]) rfl in_X3 tyX3_ok cl_X5_7 inst_X3 ini_X3 (by decide) (Nat.le_of_ble_eq_true rfl) (Nat.le_of_ble_eq_true rfl) dX5_init_27 (rfl : _ = 30) (fun H27_46 q_27 eq_27 z_27 h_new o_27 => ?_)
  have e_q27 : q_27 = (a + 30 + 29) := eq_27.trans sz
  have sz : Array.size H27_46 = (a + 30 + 29) + 1 := by rw [z_27, e_q27]
  have h0 := h0.off o_27 id
  have hm27 := h_new
  obtain rfl : q_27 = a + 59 := by omega
  have hg := hg.keep o_27 (fun _ z => z.elim)
  have hW := Wn.nw hW o_27
  refine V_dup Y.1 dX5_init_30 (rfl : _ = 31) rfl ?_
  refine V_cV Y (rI Y (c_X3_init l D kA _ (a + 59) _ hm27 rfl (by omega)) mi_X3_init ii_X5_9 rfl rfl (Nat.le_of_ble_eq_true rfl) ⟨Nat.le_of_ble_eq_true rfl, Nat.le_of_ble_eq_true rfl⟩ (Nat.le_of_ble_eq_true rfl) (Nat.le_of_ble_eq_true rfl) dX5_init_31) (fun q hq => (Or.inl (blk_sub (by omega) (by omega) q hq))) (rfl : _ = 34) (fun H31_55 hq_31 o_31 => ?_)
  obtain ⟨hT, z31⟩ := hq_31
  have h0 := h0.off o_31 (fun z => by have := z.1; omega)
  have hg := hg.keep o_31 (fun q z => by have := z.1; omega)
  have hW := Wn.add (Wn.cl hW o_31 (fun k hk => by unfold sl; split <;> omega)) hT (by unfold sl; split <;> omega)
  have sz : Array.size H31_55 = (a + 59 + 29) := by omega
  refine V_putF Y.1 fi_X5_19 fw_X5 rfl (by rw [hnm]; rfl) rfl rfl h0 (Or.inl ⟨by omega, by omega⟩) rfl rfl (Nat.le_of_ble_eq_true rfl) dX5_init_34 (rfl : _ = 37) (fun H34_61 h_new o_34 => ?_)
  have h0 : hp D _ _ (.inr (9, [_, _, _, _, _, _, _, _, _, _, _])) := h_new
  have sz : Array.size H34_61 = (a + 59 + 29) := o_34.1.trans sz
  clear h_new
  have hW := Wn.so hW o_34 (fun k => by have := sl_lo a k; have := sl_88 (a := a) (k := k); omega)
  have hg := hg.put o_34 hbs
  refine V_aload_n Y.1 0 dX5_init_37 (rfl : _ = 38) rfl rfl ?_
  refine V_bipush Y.1 (v := 8) dX5_init_38 (rfl : _ = 40) (by decide) ?_
  refine V_newM Y.1 (N := 8) cl_X5_7 Y.2.2 (by decide) (by decide) (Nat.le_of_ble_eq_true rfl) (Nat.le_of_ble_eq_true rfl) (Nat.le_of_ble_eq_true rfl) dX5_init_40 (rfl : _ = 43) (fun H40_69 q_40 eq_40 z_40 h_new o_40 => ?_)
  have e_q40 : q_40 = (a + 59 + 29) := eq_40.trans sz
  have sz : Array.size H40_69 = (a + 59 + 29) + 1 := by rw [z_40, e_q40]
  have h0 := h0.off o_40 id
  have h2 := h_new
  obtain rfl : q_40 = a + 88 := by omega
  have hg := hg.keep o_40 (fun _ z => z.elim)
  have hW := Wn.nw hW o_40
  refine V_putF Y.1 fi_X5_22 fw_X5 rfl (by rw [hnm]; rfl) rfl rfl h0 (Or.inl ⟨by omega, by omega⟩) rfl rfl (Nat.le_of_ble_eq_true rfl) dX5_init_43 (rfl : _ = 46) (fun H43_77 h_new o_43 => ?_)
  have h0 : hp D _ _ (.inr (9, [_, _, _, _, _, _, _, _, _, _, _])) := h_new
  have h2 := h2.sto o_43 (by omega)
  have sz : Array.size H43_77 = (a + 59 + 29) + 1 := o_43.1.trans sz
  clear h_new
  have hW := Wn.so hW o_43 (fun k => by have := sl_lo a k; have := sl_88 (a := a) (k := k); omega)
  have hg := hg.put o_43 hbs
  refine V_iconst Y.1 (v := 0) dX5_init_46 (rfl : _ = 47) (by decide) ?_
  refine V_istore_n Y.1 (ls' := [(1, _), (0, _)]) dX5_init_47 (rfl : _ = 48) rfl (by decide) rfl ?_
  exact V_forget (ls' := [(1, _), (0, _)]) [0, 1] rfl (lp 8 0 _ _ (by omega) h0 h2 (fun i hi => absurd hi (Nat.not_lt_zero i)) hW hg (by omega))
