/-! The law's sum, as a function of the row. -/
def sr_a (s : Nat → Int32) : Int64 := 31 * (31 * (31 * (31 * (31 * (31 * (7 + (s 1).toInt64) + (s 2).toInt64) + (s 3).toInt64) + (s 4).toInt64) + (s 5).toInt64) + (s 6).toInt64) + (100 * s 7).toInt64 + (s 8).toInt64
def sr_st (s : Nat → Int32) : Nat → Int64
  | 0 => sr_a s
  | k + 1 => 37 * sr_st s k + (10 * s (21 + k)).toInt64 + (s (9 + k)).toInt64
def sr_ts (s : Nat → Int32) (i : Nat) : Int32 := if ro s i 2 < 0 then -13 else ro s i 2
def sr_ml (s : Nat → Int32) (i : Nat) : Int32 := if ro s i 2 < 0 then -13 else ro s i 3 + 180 - s 1
def sr_js (s : Nat → Int32) (i : Nat) : Int32 := if ro s i 2 < 0 then -13 else ro s i 4
def sr_rp (s : Nat → Int32) (i : Nat) : Int32 := if ro s i 8 < 0 then 0 else if 2 < s 1 / 1440 - ro s i 9 then 0 else 1
def sr_b (s : Nat → Int32) (i : Nat) (h : Int64) : Int64 := 47 * (43 * (41 * h + (2 * ro s i 1).toInt64 + (ro s i 0).toInt64) + (200 * sr_ts s i).toInt64 + (sr_ml s i).toInt64) + (20 * sr_js s i).toInt64 + (sr_rp s i).toInt64
def sr_d (s : Nat → Int32) (i d : Nat) (h : Int64) : Nat → Int64
  | 0 => h
  | k + 1 => 53 * sr_d s i d h k + (r_sum s i (d + k)).toInt64
def sr_w (s : Nat → Int32) (i : Nat) (h : Int64) : Nat → Int64
  | 0 => h
  | k + 1 => 3 * sr_w s i h k + (r_cont s i (nI k)).toInt64
def sr_c (s : Nat → Int32) (t : Nat) : Nat → Int64
  | 0 => sr_st s 12
  | k + 1 => sr_w s k (sr_d s k (t / 1440 - 2) (sr_b s k (sr_c s t k)) (t / 1440 + 1 - (t / 1440 - 2))) 12
def SR (s : Nat → Int32) (n t : Nat) : Int64 := sr_c s t n
theorem mx_0 {d : Nat} (h : d < 2 ^ 30) : (if (0 : Int32) < nI d - 2 then nI d - 2 else 0) = nI (d - 2) := by
  have e2 : (nI d - 2).toInt = (d : Int) - 2 := by rw [i_sub] <;> rw [nI_toInt (by omega), show (2 : Int32).toInt = 2 from by decide] <;> omega
  by_cases h2 : 2 < d
  · rw [if_pos (by rw [Int32.lt_iff_toInt_lt, e2, i_zero]; omega)]
    exact pk_sub (b := 2) (by omega)
  · rw [if_neg (by rw [Int32.lt_iff_toInt_lt, e2, i_zero]; omega), show d - 2 = 0 by omega]
    rfl
theorem c_S_tripStart (l : Launch) (D : va_G) (kA : Nat → ClassId) (Hs : Heap) (σ : SG) (H0 : Heap) (hg : Ag Hs H0) (a : Nat) (M : MS) (s : Nat → Int32) (n t q u : Nat) (p : Nat → Nat → Int32) (no : Nat) (go : Nat → Int32) (ns : Nat) (X : Nat → Prop) (i : Nat) (hJ : Lw D kA Hs H0 a M s n t q u p no go ns X) (hnt : l.stackTraces = false) (hi : i < n) : CtW l D kA Hs σ yL_tripStart cL_tripStart 3 (some .int) [(0, 5, 6, 20), (0, 5, 10, 36)] 11 183 4 24 H0 [.ref a, .int (nI i)] (nof) (pI fun k9 H9 => k9 = sr_ts s i) := by
  refine CtW.mono (c_L_tripStart l D kA Hs σ H0 hg a M s n t q u p no go ns X (nI i) hJ hnt) (fun v9 H9 o9 hp9 => ?_)
  have hq := hJ.sq
  have h8 := hq.1.1.1.2.1
  obtain ⟨r9, e9, h1, -⟩ := hp9
  obtain ⟨hsc, -, -⟩ := hq.1.1.2.2.2.2.2.2.2 i hi
  refine ⟨r9, e9, ?_⟩
  rw [h1, if_neg (bc_y hq hi), mc_i M (show i < 2 ^ 31 by omega)]
  unfold sr_ts
  rcases hsc.tr with ⟨a1, b1⟩ | ⟨a1, j, b, hj, e2, e6, e4, e3, -⟩
  · rw [if_pos a1, if_pos (by rw [b1]; decide)]
  · have e5 := (hsc.jo (Or.inl a1)).1
    obtain ⟨j5, -, e5, e7⟩ := e5
    rw [if_neg (by rw [a1]; decide), if_neg (by rw [e6]; exact nI_pos (by omega))]
    rw [e2, e6]

theorem c_S_minutesLeft (l : Launch) (D : va_G) (kA : Nat → ClassId) (Hs : Heap) (σ : SG) (H0 : Heap) (hg : Ag Hs H0) (a : Nat) (M : MS) (s : Nat → Int32) (n t q u : Nat) (p : Nat → Nat → Int32) (no : Nat) (go : Nat → Int32) (ns : Nat) (X : Nat → Prop) (i : Nat) (hJ : Lw D kA Hs H0 a M s n t q u p no go ns X) (hnt : l.stackTraces = false) (hi : i < n) : CtW l D kA Hs σ yL_minutesLeft cL_minutesLeft 3 (some .int) [(0, 5, 6, 20), (0, 5, 10, 36)] 11 183 4 24 H0 [.ref a, .int (nI i)] (nof) (pI fun k9 H9 => k9 = sr_ml s i) := by
  refine CtW.mono (c_L_minutesLeft l D kA Hs σ H0 hg a M s n t q u p no go ns X (nI i) hJ hnt) (fun v9 H9 o9 hp9 => ?_)
  have hq := hJ.sq
  have h8 := hq.1.1.1.2.1
  obtain ⟨r9, e9, h1, -⟩ := hp9
  obtain ⟨hsc, -, -⟩ := hq.1.1.2.2.2.2.2.2.2 i hi
  refine ⟨r9, e9, ?_⟩
  rw [h1, if_neg (bc_y hq hi), mc_i M (show i < 2 ^ 31 by omega)]
  unfold sr_ml
  rcases hsc.tr with ⟨a1, b1⟩ | ⟨a1, j, b, hj, e2, e6, e4, e3, -⟩
  · rw [if_pos a1, if_pos (by rw [b1]; decide)]
  · have e5 := (hsc.jo (Or.inl a1)).1
    obtain ⟨j5, -, e5, e7⟩ := e5
    rw [if_neg (by rw [a1]; decide), if_neg (by rw [e6]; exact nI_pos (by omega))]
    rw [e4, e3, hq.1.1.2.1.2.1]

theorem c_S_journeyStart (l : Launch) (D : va_G) (kA : Nat → ClassId) (Hs : Heap) (σ : SG) (H0 : Heap) (hg : Ag Hs H0) (a : Nat) (M : MS) (s : Nat → Int32) (n t q u : Nat) (p : Nat → Nat → Int32) (no : Nat) (go : Nat → Int32) (ns : Nat) (X : Nat → Prop) (i : Nat) (hJ : Lw D kA Hs H0 a M s n t q u p no go ns X) (hnt : l.stackTraces = false) (hi : i < n) : CtW l D kA Hs σ yL_journeyStart cL_journeyStart 3 (some .int) [(0, 5, 6, 20), (0, 5, 10, 36)] 11 183 4 24 H0 [.ref a, .int (nI i)] (nof) (pI fun k9 H9 => k9 = sr_js s i) := by
  refine CtW.mono (c_L_journeyStart l D kA Hs σ H0 hg a M s n t q u p no go ns X (nI i) hJ hnt) (fun v9 H9 o9 hp9 => ?_)
  have hq := hJ.sq
  have h8 := hq.1.1.1.2.1
  obtain ⟨r9, e9, h1, -⟩ := hp9
  obtain ⟨hsc, -, -⟩ := hq.1.1.2.2.2.2.2.2.2 i hi
  refine ⟨r9, e9, ?_⟩
  rw [h1, if_neg (bc_y hq hi), mc_i M (show i < 2 ^ 31 by omega)]
  unfold sr_js
  rcases hsc.tr with ⟨a1, b1⟩ | ⟨a1, j, b, hj, e2, e6, e4, e3, -⟩
  · rw [if_pos a1, if_pos (by rw [b1]; decide)]
  · have e5 := (hsc.jo (Or.inl a1)).1
    obtain ⟨j5, -, e5, e7⟩ := e5
    rw [if_neg (by rw [a1]; decide), if_neg (by rw [e6]; exact nI_pos (by omega))]
    rw [e5, e7]

set_option maxRecDepth 100000 in
set_option maxHeartbeats 4000000 in
theorem c_L_sum (l : Launch) (D : va_G) (kA : Nat → ClassId) (Hs : Heap) (σ : SG) (H0 : Heap) (hg : Ag Hs H0) (a : Nat) (M : MS) (s : Nat → Int32) (n t q u : Nat) (p : Nat → Nat → Int32) (no : Nat) (go : Nat → Int32) (ns : Nat) (X : Nat → Prop)  (hJ : Lw D kA Hs H0 a M s n t q u p no go ns X) (hnt : l.stackTraces = false)  : CtS l D kA Hs σ yL_sum cL_sum 5 (some .long) 12 205 800 4800 H0 [.ref a] (nof) (pL fun v9 H => v9 = SR s n t) := by
  refine CtS.of mi_L_sum (Nat.le_of_ble_eq_true rfl) (ls0 := [(0, _)]) rfl hg (fun _ z => z.elim) ?_
  intro Pp Ee Ss Mm Ar Bl Me Cc Z hsH hnm
  have Y := Z.1
  have hq := hJ.sq
  have h8 : n ≤ 8 := hq.1.1.1.2.1
  have h30 := hq.1.1.t30
  have e1 : s 1 = nI t := hq.1.1.1.2.2.1
  have e0 : M.1 0 = nI n := hq.1.1.2.1.1.trans hq.1.1.1.1
  have eM1 : M.1 1 = nI t := hq.1.1.2.1.2.1.trans e1
  have outer : ∀ (f c : Nat) (H : Heap), c + f = n → off nof H0 H → V Pp l Ee (rmO 12 205 800 4800) Ss Mm Ar Bl Me Cc 5 (AA H0 (nof)) (QC Bl Ar Ss 800 4800 H0 (nof) (pL fun v9 H => v9 = SR s n t)) H (96 + 84 * c) (576 + 504 * c) 130 [(3, .int (nI c)), (1, .long (sr_c s t c)), (0, .ref a)] [] := by
    intro f
    induction f with
    | zero =>
      intro c H hr o0
      obtain rfl : n = c := by omega
      have hJ1 := hJ.new o0
      refine V_iload_n Y.1 0 dL_sum_130 (rfl : _ = 131) rfl rfl ?_
      refine V_aload_n Y.1 2 dL_sum_131 (rfl : _ = 132) rfl rfl ?_
      refine V_cPk Y (sV Z (c_D_cardCount l D kA Hs σ _ hJ1.ag a M s n t q u p no go ns X hJ1 hnt) mi_X5_cardCount vi_L_229 rfl hJ1.rcv.choose_spec rfl rfl (Nat.le_of_ble_eq_true rfl) ⟨Nat.le_of_ble_eq_true rfl, Nat.le_of_ble_eq_true rfl⟩ (by show _ ≤ 800; omega) (by show _ ≤ 4800; omega) dL_sum_132) (fun _ z => z.elim) (rfl : _ = 135) ?_
      refine V_nm (v := nI n) e0 ?_
      refine V_icmp_ge Y.1 (tgt := 310) dL_sum_135 (by decide) (rfl : _ = 138) (fun _ => ?_) (fun c_n => absurd (Int32.le_refl _) c_n)
      refine V_lload_n Y.1 1 dL_sum_310 (rfl : _ = 311) rfl rfl ?_
      exact V_retL Y.1 dL_sum_311 (by omega) (by omega) rfl
    | succ f ih =>
      intro c H hr o0
      have hJ1 := hJ.new o0
      have hc : c < n := by omega
      obtain ⟨hsc, -, -⟩ := hq.1.1.2.2.2.2.2.2.2 c hc
      have wou : ∀ (g k : Nat) (H : Heap) (h : Int64), k + g = 12 → off nof H0 H → h = sr_d s c (t / 1440 - 2) (sr_b s c (sr_c s t c)) (t / 1440 + 1 - (t / 1440 - 2)) → V Pp l Ee (rmO 12 205 800 4800) Ss Mm Ar Bl Me Cc 5 (AA H0 (nof)) (QC Bl Ar Ss 800 4800 H0 (nof) (pL fun v9 H => v9 = SR s n t)) H (96 + 84 * c + 36 + 4 * k) (576 + 504 * c + 216 + 24 * k) 268 [(4, .int (nI k)), (3, .int (nI c)), (1, .long (sr_w s c h k)), (0, .ref a)] [] := by
        intro g
        induction g with
        | zero =>
          intro k H h hg9 o0 hh
          obtain rfl : k = 12 := by omega
          subst hh
          refine V_iload Y.1 0 dL_sum_268 (rfl : _ = 270) rfl ?_
          refine V_bipush Y.1 (v := 12) dL_sum_270 (rfl : _ = 272) (by decide) ?_
          refine V_icmp_ge Y.1 (tgt := 304) dL_sum_272 (by decide) (rfl : _ = 275) (fun _ => ?_) (fun c_n => absurd (by decide) c_n)
          refine V_iinc Y.1 (v := nI (c + 1)) (ls' := [(3, _), (4, _), (1, _), (0, _)]) 1 dL_sum_304 (rfl : _ = 307) rfl (nI_add _ 1) (by decide) rfl ?_
          refine V_goto Y.1 (tgt := 130) dL_sum_307 (by decide) ?_
          exact V_forget (ls' := [(3, _), (1, _), (0, _)]) [0, 2, 3] rfl (V_widen (by omega) (by omega) (ih (c + 1) _ (by omega) o0))
        | succ g ih2 =>
          intro k H h hg9 o0 hh
          have hJ1 := hJ.new o0
          have hk : k < 12 := by omega
          have ewc : k_cont (M.2.2.2.1 c) (nI k) (M.1 1) = r_cont s c (nI k) := by rw [eM1]; exact (cont_eq hsc e1 hk).symm
          have ew01 : r_cont s c (nI k) = 0 ∨ r_cont s c (nI k) = 1 := by unfold r_cont; (repeat' split) <;> first | exact Or.inl rfl | exact Or.inr rfl
          have k295 : V Pp l Ee (rmO 12 205 800 4800) Ss Mm Ar Bl Me Cc 5 (AA H0 (nof)) (QC Bl Ar Ss 800 4800 H0 (nof) (pL fun v9 H => v9 = SR s n t)) H (96 + 84 * c + 36 + 4 * k + 4) (576 + 504 * c + 216 + 24 * k + 24) 295 [(4, .int (nI k)), (3, .int (nI c)), (1, .long (sr_w s c h k)), (0, .ref a)] [.int (r_cont s c (nI k)), .long (3 * sr_w s c h k)] := by
            refine V_i2l Y.1 dL_sum_295 (rfl : _ = 296) rfl ?_
            refine V_ladd Y.1 dL_sum_296 (rfl : _ = 297) ?_
            refine V_lstore_n Y.1 (ls' := [(1, _), (4, _), (3, _), (0, _)]) dL_sum_297 (rfl : _ = 298) rfl (by decide) rfl ?_
            refine V_iinc Y.1 (v := nI (k + 1)) (ls' := [(4, _), (1, _), (3, _), (0, _)]) 1 dL_sum_298 (rfl : _ = 301) rfl (nI_add _ 1) (by decide) rfl ?_
            refine V_goto Y.1 (tgt := 268) dL_sum_301 (by decide) ?_
            exact V_forget (ls' := [(4, _), (3, _), (1, _), (0, _)]) [0, 2, 1, 3] rfl (V_widen (by omega) (by omega) (ih2 (k + 1) _ h (by omega) o0 hh))
          refine V_iload Y.1 0 dL_sum_268 (rfl : _ = 270) rfl ?_
          refine V_bipush Y.1 (v := 12) dL_sum_270 (rfl : _ = 272) (by decide) ?_
          refine V_icmp_ge Y.1 (tgt := 304) dL_sum_272 (by decide) (rfl : _ = 275) (fun c_n => absurd c_n (fun q9 => absurd ((nI_leI (a := 12) (b := k) (by omega) (by omega)).mp q9) (by omega))) (fun _ => ?_)
          refine V_ldc2 Y.1 cn_L_363 dL_sum_275 (rfl : _ = 278) ?_
          refine V_lload_n Y.1 2 dL_sum_278 (rfl : _ = 279) rfl rfl ?_
          refine V_lmul Y.1 dL_sum_279 (rfl : _ = 280) ?_
          refine V_aload_n Y.1 3 dL_sum_280 (rfl : _ = 281) rfl rfl ?_
          refine V_iload_n Y.1 1 dL_sum_281 (rfl : _ = 282) rfl rfl ?_
          refine V_iload Y.1 0 dL_sum_282 (rfl : _ = 284) rfl ?_
          refine V_cPk Y (sV Z (c_D_wouldContinue l D kA Hs σ _ hJ1.ag a M s n t q u p no go ns X c k hJ1 hnt hc hk) mi_X5_wouldContinue vi_L_85 rfl hJ1.rcv.choose_spec rfl rfl (Nat.le_of_ble_eq_true rfl) ⟨Nat.le_of_ble_eq_true rfl, Nat.le_of_ble_eq_true rfl⟩ (by show _ ≤ 800; omega) (by show _ ≤ 4800; omega) dL_sum_284) (fun _ z => z.elim) (rfl : _ = 287) ?_
          refine V_nm (v := r_cont s c (nI k)) ewc ?_
          refine V_if_eq Y.1 (tgt := 294) dL_sum_287 (by decide) (rfl : _ = 290) (fun c_287 => ?_) (fun c_287 => ?_)
          · refine V_iconst Y.1 (v := 0) dL_sum_294 (rfl : _ = 295) (by decide) ?_
            refine V_nm (v := r_cont s c (nI k)) c_287.symm ?_
            exact k295
          · refine V_iconst Y.1 (v := 1) dL_sum_290 (rfl : _ = 291) (by decide) ?_
            refine V_goto Y.1 (tgt := 295) dL_sum_291 (by decide) ?_
            refine V_nm (v := r_cont s c (nI k)) (ew01.resolve_left c_287).symm ?_
            exact k295
      have day : ∀ (g k : Nat) (H : Heap) (h : Int64), k + g = t / 1440 + 1 - (t / 1440 - 2) → off nof H0 H → h = sr_b s c (sr_c s t c) → V Pp l Ee (rmO 12 205 800 4800) Ss Mm Ar Bl Me Cc 5 (AA H0 (nof)) (QC Bl Ar Ss 800 4800 H0 (nof) (pL fun v9 H => v9 = SR s n t)) H (96 + 84 * c + 24 + 4 * k) (576 + 504 * c + 144 + 24 * k) 235 [(4, .int (nI (t / 1440 - 2 + k))), (3, .int (nI c)), (1, .long (sr_d s c (t / 1440 - 2) h k)), (0, .ref a)] [] := by
        intro g
        induction g with
        | zero =>
          intro k H h hg9 o0 hh
          have hJ1 := hJ.new o0
          subst hh
          have ek : k = t / 1440 + 1 - (t / 1440 - 2) := by omega
          subst ek
          refine V_iload Y.1 0 dL_sum_235 (rfl : _ = 237) rfl ?_
          refine V_aload_n Y.1 3 dL_sum_237 (rfl : _ = 238) rfl rfl ?_
          refine V_cPk Y (sV Z (c_D_day l D kA Hs σ _ hJ1.ag a M s n t q u p no go ns X hJ1 hnt) mi_X5_day vi_L_221 rfl hJ1.rcv.choose_spec rfl rfl (Nat.le_of_ble_eq_true rfl) ⟨Nat.le_of_ble_eq_true rfl, Nat.le_of_ble_eq_true rfl⟩ (by show _ ≤ 800; omega) (by show _ ≤ 4800; omega) dL_sum_238) (fun _ z => z.elim) (rfl : _ = 241) ?_
          refine V_nm (v := nI (t / 1440)) hq.1.1.day ?_
          refine V_icmp_gt Y.1 (tgt := 265) dL_sum_241 (by decide) (rfl : _ = 244) (fun _ => ?_) (fun c_n => absurd (nI_lt (by omega) (by omega)) c_n)
          refine V_iconst Y.1 (v := 0) dL_sum_265 (rfl : _ = 266) (by decide) ?_
          refine V_istore Y.1 (ls' := [(4, _), (3, _), (1, _), (0, _)]) dL_sum_266 (rfl : _ = 268) (by decide) rfl ?_
          exact V_forget (ls' := [(4, _), (3, _), (1, _), (0, _)]) [0, 1, 2, 3] rfl (V_widen (by omega) (by omega) (wou 12 0 _ _ (by omega) o0 (Eq.refl _)))
        | succ g ih2 =>
          intro k H h hg9 o0 hh
          have hJ1 := hJ.new o0
          have eson : k_sumOf (M.2.2.2.1 c) (t / 1440 - 2 + k) = r_sum s c (t / 1440 - 2 + k) := (r_sum_eq hsc (by omega)).symm
          refine V_iload Y.1 0 dL_sum_235 (rfl : _ = 237) rfl ?_
          refine V_aload_n Y.1 3 dL_sum_237 (rfl : _ = 238) rfl rfl ?_
          refine V_cPk Y (sV Z (c_D_day l D kA Hs σ _ hJ1.ag a M s n t q u p no go ns X hJ1 hnt) mi_X5_day vi_L_221 rfl hJ1.rcv.choose_spec rfl rfl (Nat.le_of_ble_eq_true rfl) ⟨Nat.le_of_ble_eq_true rfl, Nat.le_of_ble_eq_true rfl⟩ (by show _ ≤ 800; omega) (by show _ ≤ 4800; omega) dL_sum_238) (fun _ z => z.elim) (rfl : _ = 241) ?_
          refine V_nm (v := nI (t / 1440)) hq.1.1.day ?_
          refine V_icmp_gt Y.1 (tgt := 265) dL_sum_241 (by decide) (rfl : _ = 244) (fun c_n => absurd c_n (nI_nlt (by omega) (by omega))) (fun _ => ?_)
          refine V_ldc2 Y.1 cn_L_361 dL_sum_244 (rfl : _ = 247) ?_
          refine V_lload_n Y.1 2 dL_sum_247 (rfl : _ = 248) rfl rfl ?_
          refine V_lmul Y.1 dL_sum_248 (rfl : _ = 249) ?_
          refine V_aload_n Y.1 3 dL_sum_249 (rfl : _ = 250) rfl rfl ?_
          refine V_iload_n Y.1 1 dL_sum_250 (rfl : _ = 251) rfl rfl ?_
          refine V_iload Y.1 0 dL_sum_251 (rfl : _ = 253) rfl ?_
          refine V_cPk Y (sV Z (c_D_chargedOn l D kA Hs σ _ hJ1.ag a M s n t q u p no go ns X c (t / 1440 - 2 + k) hJ1 hnt hc (by omega) (by omega)) mi_X5_chargedOn vi_L_91 rfl hJ1.rcv.choose_spec rfl rfl (Nat.le_of_ble_eq_true rfl) ⟨Nat.le_of_ble_eq_true rfl, Nat.le_of_ble_eq_true rfl⟩ (by show _ ≤ 800; omega) (by show _ ≤ 4800; omega) dL_sum_253) (fun _ z => z.elim) (rfl : _ = 256) ?_
          refine V_nm (v := r_sum s c (t / 1440 - 2 + k)) eson ?_
          refine V_i2l Y.1 dL_sum_256 (rfl : _ = 257) rfl ?_
          refine V_ladd Y.1 dL_sum_257 (rfl : _ = 258) ?_
          refine V_lstore_n Y.1 (ls' := [(1, _), (4, _), (3, _), (0, _)]) dL_sum_258 (rfl : _ = 259) rfl (by decide) rfl ?_
          refine V_iinc Y.1 (v := nI (t / 1440 - 2 + (k + 1))) (ls' := [(4, _), (1, _), (3, _), (0, _)]) 1 dL_sum_259 (rfl : _ = 262) rfl (nI_add _ 1) (by decide) rfl ?_
          refine V_goto Y.1 (tgt := 235) dL_sum_262 (by decide) ?_
          exact V_forget (ls' := [(4, _), (3, _), (1, _), (0, _)]) [0, 2, 1, 3] rfl (V_widen (by omega) (by omega) (ih2 (k + 1) _ h (by omega) o0 hh))
      have ez : ro s c 0 = 0 ∨ ro s c 0 = 1 := by rw [hsc.e0]; exact hsc.z0
      have erp : (if (M.2.2.2.1 c).1 10 = 0 then 0 else m_rep M (nI c)) = sr_rp s c := by
        unfold m_rep sr_rp
        rw [mc_i M (show c < 2 ^ 31 by omega), hq.1.1.2.1.2.1]
        rcases hsc.nc with ⟨a1, b1⟩ | ⟨a1, j, e, x9, hj, -, b1, he, b2, b3, -⟩
        · rw [if_pos a1, if_pos (by rw [b1]; decide)]
        · rw [if_neg (show ¬ (M.2.2.2.1 c).1 10 = 0 by rw [a1]; decide), if_neg (show ¬ ro s c 8 < 0 by rw [b1]; exact nI_pos (by omega)), b2, b3]
      have ez2 : sr_rp s c = 0 ∨ sr_rp s c = 1 := by unfold sr_rp; (repeat' split) <;> first | exact Or.inl rfl | exact Or.inr rfl
      have k220 : ∀ H, off nof H0 H → V Pp l Ee (rmO 12 205 800 4800) Ss Mm Ar Bl Me Cc 5 (AA H0 (nof)) (QC Bl Ar Ss 800 4800 H0 (nof) (pL fun v9 H => v9 = SR s n t)) H (96 + 84 * c + 24) (576 + 504 * c + 144) 220 [(1, .long (43 * (41 * sr_c s t c + (2 * ro s c 1).toInt64 + (ro s c 0).toInt64) + (200 * sr_ts s c).toInt64 + (sr_ml s c).toInt64)), (3, .int (nI c)), (0, .ref a)] [.int (sr_rp s c), .long (47 * (43 * (41 * sr_c s t c + (2 * ro s c 1).toInt64 + (ro s c 0).toInt64) + (200 * sr_ts s c).toInt64 + (sr_ml s c).toInt64) + (20 * sr_js s c).toInt64)] := by
        intro H o0
        have hJ1 := hJ.new o0
        refine V_i2l Y.1 dL_sum_220 (rfl : _ = 221) rfl ?_
        refine V_ladd Y.1 dL_sum_221 (rfl : _ = 222) ?_
        refine V_lstore_n Y.1 (ls' := [(1, _), (3, _), (0, _)]) dL_sum_222 (rfl : _ = 223) rfl (by decide) rfl ?_
        refine V_iconst Y.1 (v := 0) dL_sum_223 (rfl : _ = 224) (by decide) ?_
        refine V_aload_n Y.1 2 dL_sum_224 (rfl : _ = 225) rfl rfl ?_
        refine V_cPk Y (sV Z (c_D_day l D kA Hs σ _ hJ1.ag a M s n t q u p no go ns X hJ1 hnt) mi_X5_day vi_L_221 rfl hJ1.rcv.choose_spec rfl rfl (Nat.le_of_ble_eq_true rfl) ⟨Nat.le_of_ble_eq_true rfl, Nat.le_of_ble_eq_true rfl⟩ (by show _ ≤ 800; omega) (by show _ ≤ 4800; omega) dL_sum_225) (fun _ z => z.elim) (rfl : _ = 228) ?_
        refine V_nm (v := nI (t / 1440)) hq.1.1.day ?_
        refine V_iconst Y.1 (v := 2) dL_sum_228 (rfl : _ = 229) (by decide) ?_
        refine V_isub Y.1 dL_sum_229 (rfl : _ = 230) ?_
        refine V_mmax Y.1 mw_L_175 (Nat.le_of_ble_eq_true rfl) (Nat.le_of_ble_eq_true rfl) (by show _ ≤ 800; omega) (by show _ ≤ 4800; omega) dL_sum_230 (rfl : _ = 233) ?_
        refine V_nm (v := nI (t / 1440 - 2)) (mx_0 (by omega)) ?_
        refine V_istore Y.1 (ls' := [(4, _), (1, _), (3, _), (0, _)]) dL_sum_233 (rfl : _ = 235) (by decide) rfl ?_
        exact V_forget (ls' := [(4, _), (3, _), (1, _), (0, _)]) [0, 2, 1, 3] rfl (V_widen (by omega) (by omega) (day (t / 1440 + 1 - (t / 1440 - 2)) 0 _ _ (by omega) o0 (Eq.refl _)))
      have k165 : V Pp l Ee (rmO 12 205 800 4800) Ss Mm Ar Bl Me Cc 5 (AA H0 (nof)) (QC Bl Ar Ss 800 4800 H0 (nof) (pL fun v9 H => v9 = SR s n t)) H (96 + 84 * c + 8) (576 + 504 * c + 48) 165 [(3, .int (nI c)), (1, .long (sr_c s t c)), (0, .ref a)] [.int (ro s c 0), .long (41 * sr_c s t c + (2 * ro s c 1).toInt64)] := by
        refine V_i2l Y.1 dL_sum_165 (rfl : _ = 166) rfl ?_
        refine V_ladd Y.1 dL_sum_166 (rfl : _ = 167) ?_
        refine V_lstore_n Y.1 (ls' := [(1, _), (3, _), (0, _)]) dL_sum_167 (rfl : _ = 168) rfl (by decide) rfl ?_
        refine V_ldc2 Y.1 cn_L_357 dL_sum_168 (rfl : _ = 171) ?_
        refine V_lload_n Y.1 0 dL_sum_171 (rfl : _ = 172) rfl rfl ?_
        refine V_lmul Y.1 dL_sum_172 (rfl : _ = 173) ?_
        refine V_sipush Y.1 (v := 200) dL_sum_173 (rfl : _ = 176) (by decide) ?_
        refine V_aload_n Y.1 2 dL_sum_176 (rfl : _ = 177) rfl rfl ?_
        refine V_iload_n Y.1 1 dL_sum_177 (rfl : _ = 178) rfl rfl ?_
        refine V_cI Y (sW Z (c_S_tripStart l D kA Hs σ _ hJ1.ag a M s n t q u p no go ns X c hJ1 hnt hc) mh_L_tripStart si_L_247 rfl rfl (Nat.le_of_ble_eq_true rfl) ⟨Nat.le_of_ble_eq_true rfl, Nat.le_of_ble_eq_true rfl⟩ (by show _ ≤ 800; omega) (by show _ ≤ 4800; omega) dL_sum_178) (fun _ z => z.elim) (rfl : _ = 181) (fun v_178 H178_9 hq_178 o_178 => ?_)
        obtain rfl := hq_178
        have o0 := o0.tr o_178
        have hJ1 := hJ.new o0
        refine V_imul Y.1 dL_sum_181 (rfl : _ = 182) ?_
        refine V_i2l Y.1 dL_sum_182 (rfl : _ = 183) rfl ?_
        refine V_ladd Y.1 dL_sum_183 (rfl : _ = 184) ?_
        refine V_aload_n Y.1 2 dL_sum_184 (rfl : _ = 185) rfl rfl ?_
        refine V_iload_n Y.1 1 dL_sum_185 (rfl : _ = 186) rfl rfl ?_
        refine V_cI Y (sW Z (c_S_minutesLeft l D kA Hs σ _ hJ1.ag a M s n t q u p no go ns X c hJ1 hnt hc) mh_L_minutesLeft si_L_251 rfl rfl (Nat.le_of_ble_eq_true rfl) ⟨Nat.le_of_ble_eq_true rfl, Nat.le_of_ble_eq_true rfl⟩ (by show _ ≤ 800; omega) (by show _ ≤ 4800; omega) dL_sum_186) (fun _ z => z.elim) (rfl : _ = 189) (fun v_186 H186_18 hq_186 o_186 => ?_)
        obtain rfl := hq_186
        have o0 := o0.tr o_186
        have hJ1 := hJ.new o0
        refine V_i2l Y.1 dL_sum_189 (rfl : _ = 190) rfl ?_
        refine V_ladd Y.1 dL_sum_190 (rfl : _ = 191) ?_
        refine V_lstore_n Y.1 (ls' := [(1, _), (3, _), (0, _)]) dL_sum_191 (rfl : _ = 192) rfl (by decide) rfl ?_
        refine V_ldc2 Y.1 cn_L_359 dL_sum_192 (rfl : _ = 195) ?_
        refine V_lload_n Y.1 0 dL_sum_195 (rfl : _ = 196) rfl rfl ?_
        refine V_lmul Y.1 dL_sum_196 (rfl : _ = 197) ?_
        refine V_bipush Y.1 (v := 20) dL_sum_197 (rfl : _ = 199) (by decide) ?_
        refine V_aload_n Y.1 2 dL_sum_199 (rfl : _ = 200) rfl rfl ?_
        refine V_iload_n Y.1 1 dL_sum_200 (rfl : _ = 201) rfl rfl ?_
        refine V_cI Y (sW Z (c_S_journeyStart l D kA Hs σ _ hJ1.ag a M s n t q u p no go ns X c hJ1 hnt hc) mh_L_journeyStart si_L_249 rfl rfl (Nat.le_of_ble_eq_true rfl) ⟨Nat.le_of_ble_eq_true rfl, Nat.le_of_ble_eq_true rfl⟩ (by show _ ≤ 800; omega) (by show _ ≤ 4800; omega) dL_sum_201) (fun _ z => z.elim) (rfl : _ = 204) (fun v_201 H201_31 hq_201 o_201 => ?_)
        obtain rfl := hq_201
        have o0 := o0.tr o_201
        have hJ1 := hJ.new o0
        refine V_imul Y.1 dL_sum_204 (rfl : _ = 205) ?_
        refine V_i2l Y.1 dL_sum_205 (rfl : _ = 206) rfl ?_
        refine V_ladd Y.1 dL_sum_206 (rfl : _ = 207) ?_
        refine V_aload_n Y.1 2 dL_sum_207 (rfl : _ = 208) rfl rfl ?_
        refine V_iload_n Y.1 1 dL_sum_208 (rfl : _ = 209) rfl rfl ?_
        refine V_cPk Y (sV Z (c_D_isRepairable l D kA Hs σ _ hJ1.ag a M s n t q u p no go ns X c hJ1 hnt hc) mi_X5_isRepairable vi_L_100 rfl hJ1.rcv.choose_spec rfl rfl (Nat.le_of_ble_eq_true rfl) ⟨Nat.le_of_ble_eq_true rfl, Nat.le_of_ble_eq_true rfl⟩ (by show _ ≤ 800; omega) (by show _ ≤ 4800; omega) dL_sum_209) (fun _ z => z.elim) (rfl : _ = 212) ?_
        refine V_nm (v := sr_rp s c) erp ?_
        refine V_if_eq Y.1 (tgt := 219) dL_sum_212 (by decide) (rfl : _ = 215) (fun c_212 => ?_) (fun c_212 => ?_)
        · refine V_iconst Y.1 (v := 0) dL_sum_219 (rfl : _ = 220) (by decide) ?_
          refine V_nm (v := sr_rp s c) c_212.symm ?_
          exact V_widen (by omega) (by omega) (k220 _ o0)
        · refine V_iconst Y.1 (v := 1) dL_sum_215 (rfl : _ = 216) (by decide) ?_
          refine V_goto Y.1 (tgt := 220) dL_sum_216 (by decide) ?_
          refine V_nm (v := sr_rp s c) (ez2.resolve_left c_212).symm ?_
          exact V_widen (by omega) (by omega) (k220 _ o0)
      refine V_iload_n Y.1 0 dL_sum_130 (rfl : _ = 131) rfl rfl ?_
      refine V_aload_n Y.1 2 dL_sum_131 (rfl : _ = 132) rfl rfl ?_
      refine V_cPk Y (sV Z (c_D_cardCount l D kA Hs σ _ hJ1.ag a M s n t q u p no go ns X hJ1 hnt) mi_X5_cardCount vi_L_229 rfl hJ1.rcv.choose_spec rfl rfl (Nat.le_of_ble_eq_true rfl) ⟨Nat.le_of_ble_eq_true rfl, Nat.le_of_ble_eq_true rfl⟩ (by show _ ≤ 800; omega) (by show _ ≤ 4800; omega) dL_sum_132) (fun _ z => z.elim) (rfl : _ = 135) ?_
      refine V_nm (v := nI n) e0 ?_
      refine V_icmp_ge Y.1 (tgt := 310) dL_sum_135 (by decide) (rfl : _ = 138) (fun c_n => absurd c_n (fun q9 => absurd ((nI_leI (a := n) (b := c) (by omega) (by omega)).mp q9) (by omega))) (fun _ => ?_)
      refine V_ldc2 Y.1 cn_L_355 dL_sum_138 (rfl : _ = 141) ?_
      refine V_lload_n Y.1 1 dL_sum_141 (rfl : _ = 142) rfl rfl ?_
      refine V_lmul Y.1 dL_sum_142 (rfl : _ = 143) ?_
      refine V_iconst Y.1 (v := 2) dL_sum_143 (rfl : _ = 144) (by decide) ?_
      refine V_aload_n Y.1 2 dL_sum_144 (rfl : _ = 145) rfl rfl ?_
      refine V_iload_n Y.1 0 dL_sum_145 (rfl : _ = 146) rfl rfl ?_
      refine V_cPk Y (sV Z (c_D_balance l D kA Hs σ _ hJ1.ag a M s n t q u p no go ns X c hJ1 hnt hc) mi_X5_balance vi_L_70 rfl hJ1.rcv.choose_spec rfl rfl (Nat.le_of_ble_eq_true rfl) ⟨Nat.le_of_ble_eq_true rfl, Nat.le_of_ble_eq_true rfl⟩ (by show _ ≤ 800; omega) (by show _ ≤ 4800; omega) dL_sum_146) (fun _ z => z.elim) (rfl : _ = 149) ?_
      refine V_nm (v := ro s c 1) hsc.e1.symm ?_
      refine V_imul Y.1 dL_sum_149 (rfl : _ = 150) ?_
      refine V_i2l Y.1 dL_sum_150 (rfl : _ = 151) rfl ?_
      refine V_ladd Y.1 dL_sum_151 (rfl : _ = 152) ?_
      refine V_aload_n Y.1 2 dL_sum_152 (rfl : _ = 153) rfl rfl ?_
      refine V_iload_n Y.1 0 dL_sum_153 (rfl : _ = 154) rfl rfl ?_
      refine V_cPk Y (sV Z (c_D_isReduced l D kA Hs σ _ hJ1.ag a M s n t q u p no go ns X c hJ1 hnt hc) mi_X5_isReduced vi_L_66 rfl hJ1.rcv.choose_spec rfl rfl (Nat.le_of_ble_eq_true rfl) ⟨Nat.le_of_ble_eq_true rfl, Nat.le_of_ble_eq_true rfl⟩ (by show _ ≤ 800; omega) (by show _ ≤ 4800; omega) dL_sum_154) (fun _ z => z.elim) (rfl : _ = 157) ?_
      refine V_nm (v := ro s c 0) hsc.e0.symm ?_
      refine V_if_eq Y.1 (tgt := 164) dL_sum_157 (by decide) (rfl : _ = 160) (fun c_157 => ?_) (fun c_157 => ?_)
      · refine V_iconst Y.1 (v := 0) dL_sum_164 (rfl : _ = 165) (by decide) ?_
        refine V_nm (v := ro s c 0) c_157.symm ?_
        exact k165
      · refine V_iconst Y.1 (v := 1) dL_sum_160 (rfl : _ = 161) (by decide) ?_
        refine V_goto Y.1 (tgt := 165) dL_sum_161 (by decide) ?_
        refine V_nm (v := ro s c 0) (ez.resolve_left c_157).symm ?_
        exact k165
  have sta : ∀ (g k : Nat), k + g = 12 → V Pp l Ee (rmO 12 205 800 4800) Ss Mm Ar Bl Me Cc 5 (AA H0 (nof)) (QC Bl Ar Ss 800 4800 H0 (nof) (pL fun v9 H => v9 = SR s n t)) H0 (8 * k) (48 * k) 93 [(3, .int (nI k)), (1, .long (sr_st s k)), (0, .ref a)] [] := by
    intro g
    induction g with
    | zero =>
      intro k hg9
      obtain rfl : k = 12 := by omega
      refine V_iload_n Y.1 0 dL_sum_93 (rfl : _ = 94) rfl rfl ?_
      refine V_bipush Y.1 (v := 12) dL_sum_94 (rfl : _ = 96) (by decide) ?_
      refine V_icmp_ge Y.1 (tgt := 128) dL_sum_96 (by decide) (rfl : _ = 99) (fun _ => ?_) (fun c_n => absurd (by decide) c_n)
      refine V_iconst Y.1 (v := 0) dL_sum_128 (rfl : _ = 129) (by decide) ?_
      refine V_istore_n Y.1 (ls' := [(3, _), (1, _), (0, _)]) dL_sum_129 (rfl : _ = 130) rfl (by decide) rfl ?_
      exact V_forget (ls' := [(3, _), (1, _), (0, _)]) [0, 1, 2] rfl (V_widen (by omega) (by omega) (outer n 0 H0 (by omega) off.rf))
    | succ g ih =>
      intro k hg9
      have hk : k < 12 := by omega
      refine V_iload_n Y.1 0 dL_sum_93 (rfl : _ = 94) rfl rfl ?_
      refine V_bipush Y.1 (v := 12) dL_sum_94 (rfl : _ = 96) (by decide) ?_
      refine V_icmp_ge Y.1 (tgt := 128) dL_sum_96 (by decide) (rfl : _ = 99) (fun c_n => absurd c_n (fun q9 => absurd ((nI_leI (a := 12) (b := k) (by omega) (by omega)).mp q9) (by omega))) (fun _ => ?_)
      refine V_ldc2 Y.1 cn_L_353 dL_sum_99 (rfl : _ = 102) ?_
      refine V_lload_n Y.1 1 dL_sum_102 (rfl : _ = 103) rfl rfl ?_
      refine V_lmul Y.1 dL_sum_103 (rfl : _ = 104) ?_
      refine V_bipush Y.1 (v := 10) dL_sum_104 (rfl : _ = 106) (by decide) ?_
      refine V_aload_n Y.1 2 dL_sum_106 (rfl : _ = 107) rfl rfl ?_
      refine V_iload_n Y.1 0 dL_sum_107 (rfl : _ = 108) rfl rfl ?_
      refine V_cPk Y (sV Z (c_D_taps l D kA Hs σ _ hJ.ag a M s n t q u p no go ns X k hJ hnt hk) mi_X5_taps vi_L_60 rfl hJ.rcv.choose_spec rfl rfl (Nat.le_of_ble_eq_true rfl) ⟨Nat.le_of_ble_eq_true rfl, Nat.le_of_ble_eq_true rfl⟩ (by show _ ≤ 800; omega) (by show _ ≤ 4800; omega) dL_sum_108) (fun _ z => z.elim) (rfl : _ = 111) ?_
      refine V_nm (v := s (21 + k)) (hq.1.1.2.2.2.2.1 k hk).1 ?_
      refine V_imul Y.1 dL_sum_111 (rfl : _ = 112) ?_
      refine V_i2l Y.1 dL_sum_112 (rfl : _ = 113) rfl ?_
      refine V_ladd Y.1 dL_sum_113 (rfl : _ = 114) ?_
      refine V_aload_n Y.1 2 dL_sum_114 (rfl : _ = 115) rfl rfl ?_
      refine V_iload_n Y.1 0 dL_sum_115 (rfl : _ = 116) rfl rfl ?_
      refine V_cPk Y (sV Z (c_D_zone l D kA Hs σ _ hJ.ag a M s n t q u p no go ns X k hJ hnt hk) mi_X5_zone vi_L_48 rfl hJ.rcv.choose_spec rfl rfl (Nat.le_of_ble_eq_true rfl) ⟨Nat.le_of_ble_eq_true rfl, Nat.le_of_ble_eq_true rfl⟩ (by show _ ≤ 800; omega) (by show _ ≤ 4800; omega) dL_sum_116) (fun _ z => z.elim) (rfl : _ = 119) ?_
      refine V_nm (v := s (9 + k)) (hq.1.1.2.2.2.1 k hk).1 ?_
      refine V_i2l Y.1 dL_sum_119 (rfl : _ = 120) rfl ?_
      refine V_ladd Y.1 dL_sum_120 (rfl : _ = 121) ?_
      refine V_lstore_n Y.1 (ls' := [(1, _), (3, _), (0, _)]) dL_sum_121 (rfl : _ = 122) rfl (by decide) rfl ?_
      refine V_iinc Y.1 (v := nI (k + 1)) (ls' := [(3, _), (1, _), (0, _)]) 1 dL_sum_122 (rfl : _ = 125) rfl (nI_add _ 1) (by decide) rfl ?_
      refine V_goto Y.1 (tgt := 93) dL_sum_125 (by decide) ?_
      exact V_forget (ls' := [(3, _), (1, _), (0, _)]) [0, 1, 2] rfl (V_widen (by omega) (by omega) (ih (k + 1) (by omega)))
  refine V_ldc2 Y.1 cn_L_349 dL_sum_0 (rfl : _ = 3) ?_
  refine V_aload_n Y.1 0 dL_sum_3 (rfl : _ = 4) rfl rfl ?_
  refine V_cPk Y (sV Z (c_D_time l D kA Hs σ _ hJ.ag a M s n t q u p no go ns X hJ hnt) mi_X5_time vi_L_224 rfl hJ.rcv.choose_spec rfl rfl (Nat.le_of_ble_eq_true rfl) ⟨Nat.le_of_ble_eq_true rfl, Nat.le_of_ble_eq_true rfl⟩ (by show _ ≤ 800; omega) (by show _ ≤ 4800; omega) dL_sum_4) (fun _ z => z.elim) (rfl : _ = 7) ?_
  refine V_nm (v := s 1) hq.1.1.2.1.2.1 ?_
  refine V_i2l Y.1 dL_sum_7 (rfl : _ = 8) rfl ?_
  refine V_ladd Y.1 dL_sum_8 (rfl : _ = 9) ?_
  refine V_lstore_n Y.1 (ls' := [(1, _), (0, _)]) dL_sum_9 (rfl : _ = 10) rfl (by decide) rfl ?_
  refine V_ldc2 Y.1 cn_L_351 dL_sum_10 (rfl : _ = 13) ?_
  refine V_lload_n Y.1 0 dL_sum_13 (rfl : _ = 14) rfl rfl ?_
  refine V_lmul Y.1 dL_sum_14 (rfl : _ = 15) ?_
  refine V_aload_n Y.1 1 dL_sum_15 (rfl : _ = 16) rfl rfl ?_
  refine V_cPk Y (sV Z (c_D_baseFare l D kA Hs σ _ hJ.ag a M s n t q u p no go ns X hJ hnt) mi_X5_baseFare vi_L_178 rfl hJ.rcv.choose_spec rfl rfl (Nat.le_of_ble_eq_true rfl) ⟨Nat.le_of_ble_eq_true rfl, Nat.le_of_ble_eq_true rfl⟩ (by show _ ≤ 800; omega) (by show _ ≤ 4800; omega) dL_sum_16) (fun _ z => z.elim) (rfl : _ = 19) ?_
  refine V_nm (v := s 2) hq.1.1.2.1.2.2.2.2.2.2.2.1 ?_
  refine V_i2l Y.1 dL_sum_19 (rfl : _ = 20) rfl ?_
  refine V_ladd Y.1 dL_sum_20 (rfl : _ = 21) ?_
  refine V_lstore_n Y.1 (ls' := [(1, _), (0, _)]) dL_sum_21 (rfl : _ = 22) rfl (by decide) rfl ?_
  refine V_ldc2 Y.1 cn_L_351 dL_sum_22 (rfl : _ = 25) ?_
  refine V_lload_n Y.1 0 dL_sum_25 (rfl : _ = 26) rfl rfl ?_
  refine V_lmul Y.1 dL_sum_26 (rfl : _ = 27) ?_
  refine V_aload_n Y.1 1 dL_sum_27 (rfl : _ = 28) rfl rfl ?_
  refine V_cPk Y (sV Z (c_D_zoneFare l D kA Hs σ _ hJ.ag a M s n t q u p no go ns X hJ hnt) mi_X5_zoneFare vi_L_184 rfl hJ.rcv.choose_spec rfl rfl (Nat.le_of_ble_eq_true rfl) ⟨Nat.le_of_ble_eq_true rfl, Nat.le_of_ble_eq_true rfl⟩ (by show _ ≤ 800; omega) (by show _ ≤ 4800; omega) dL_sum_28) (fun _ z => z.elim) (rfl : _ = 31) ?_
  refine V_nm (v := s 3) hq.1.1.2.1.2.2.2.2.2.2.2.2 ?_
  refine V_i2l Y.1 dL_sum_31 (rfl : _ = 32) rfl ?_
  refine V_ladd Y.1 dL_sum_32 (rfl : _ = 33) ?_
  refine V_lstore_n Y.1 (ls' := [(1, _), (0, _)]) dL_sum_33 (rfl : _ = 34) rfl (by decide) rfl ?_
  refine V_ldc2 Y.1 cn_L_351 dL_sum_34 (rfl : _ = 37) ?_
  refine V_lload_n Y.1 0 dL_sum_37 (rfl : _ = 38) rfl rfl ?_
  refine V_lmul Y.1 dL_sum_38 (rfl : _ = 39) ?_
  refine V_aload_n Y.1 1 dL_sum_39 (rfl : _ = 40) rfl rfl ?_
  refine V_cPk Y (sV Z (c_D_loadedTotal l D kA Hs σ _ hJ.ag a M s n t q u p no go ns X hJ hnt) mi_X5_loadedTotal vi_L_266 rfl hJ.rcv.choose_spec rfl rfl (Nat.le_of_ble_eq_true rfl) ⟨Nat.le_of_ble_eq_true rfl, Nat.le_of_ble_eq_true rfl⟩ (by show _ ≤ 800; omega) (by show _ ≤ 4800; omega) dL_sum_40) (fun _ z => z.elim) (rfl : _ = 43) ?_
  refine V_nm (v := s 4) hq.1.1.2.1.2.2.1 ?_
  refine V_i2l Y.1 dL_sum_43 (rfl : _ = 44) rfl ?_
  refine V_ladd Y.1 dL_sum_44 (rfl : _ = 45) ?_
  refine V_lstore_n Y.1 (ls' := [(1, _), (0, _)]) dL_sum_45 (rfl : _ = 46) rfl (by decide) rfl ?_
  refine V_ldc2 Y.1 cn_L_351 dL_sum_46 (rfl : _ = 49) ?_
  refine V_lload_n Y.1 0 dL_sum_49 (rfl : _ = 50) rfl rfl ?_
  refine V_lmul Y.1 dL_sum_50 (rfl : _ = 51) ?_
  refine V_aload_n Y.1 1 dL_sum_51 (rfl : _ = 52) rfl rfl ?_
  refine V_cPk Y (sV Z (c_D_chargedTotal l D kA Hs σ _ hJ.ag a M s n t q u p no go ns X hJ hnt) mi_X5_chargedTotal vi_L_269 rfl hJ.rcv.choose_spec rfl rfl (Nat.le_of_ble_eq_true rfl) ⟨Nat.le_of_ble_eq_true rfl, Nat.le_of_ble_eq_true rfl⟩ (by show _ ≤ 800; omega) (by show _ ≤ 4800; omega) dL_sum_52) (fun _ z => z.elim) (rfl : _ = 55) ?_
  refine V_nm (v := s 5) hq.1.1.2.1.2.2.2.1 ?_
  refine V_i2l Y.1 dL_sum_55 (rfl : _ = 56) rfl ?_
  refine V_ladd Y.1 dL_sum_56 (rfl : _ = 57) ?_
  refine V_lstore_n Y.1 (ls' := [(1, _), (0, _)]) dL_sum_57 (rfl : _ = 58) rfl (by decide) rfl ?_
  refine V_ldc2 Y.1 cn_L_351 dL_sum_58 (rfl : _ = 61) ?_
  refine V_lload_n Y.1 0 dL_sum_61 (rfl : _ = 62) rfl rfl ?_
  refine V_lmul Y.1 dL_sum_62 (rfl : _ = 63) ?_
  refine V_aload_n Y.1 1 dL_sum_63 (rfl : _ = 64) rfl rfl ?_
  refine V_cPk Y (sV Z (c_D_paidBackTotal l D kA Hs σ _ hJ.ag a M s n t q u p no go ns X hJ hnt) mi_X5_paidBackTotal vi_L_272 rfl hJ.rcv.choose_spec rfl rfl (Nat.le_of_ble_eq_true rfl) ⟨Nat.le_of_ble_eq_true rfl, Nat.le_of_ble_eq_true rfl⟩ (by show _ ≤ 800; omega) (by show _ ≤ 4800; omega) dL_sum_64) (fun _ z => z.elim) (rfl : _ = 67) ?_
  refine V_nm (v := s 6) hq.1.1.2.1.2.2.2.2.1 ?_
  refine V_i2l Y.1 dL_sum_67 (rfl : _ = 68) rfl ?_
  refine V_ladd Y.1 dL_sum_68 (rfl : _ = 69) ?_
  refine V_lstore_n Y.1 (ls' := [(1, _), (0, _)]) dL_sum_69 (rfl : _ = 70) rfl (by decide) rfl ?_
  refine V_ldc2 Y.1 cn_L_351 dL_sum_70 (rfl : _ = 73) ?_
  refine V_lload_n Y.1 0 dL_sum_73 (rfl : _ = 74) rfl rfl ?_
  refine V_lmul Y.1 dL_sum_74 (rfl : _ = 75) ?_
  refine V_bipush Y.1 (v := 100) dL_sum_75 (rfl : _ = 77) (by decide) ?_
  refine V_aload_n Y.1 1 dL_sum_77 (rfl : _ = 78) rfl rfl ?_
  refine V_cPk Y (sV Z (c_D_completeTrips l D kA Hs σ _ hJ.ag a M s n t q u p no go ns X hJ hnt) mi_X5_completeTrips vi_L_313 rfl hJ.rcv.choose_spec rfl rfl (Nat.le_of_ble_eq_true rfl) ⟨Nat.le_of_ble_eq_true rfl, Nat.le_of_ble_eq_true rfl⟩ (by show _ ≤ 800; omega) (by show _ ≤ 4800; omega) dL_sum_78) (fun _ z => z.elim) (rfl : _ = 81) ?_
  refine V_nm (v := s 7) hq.1.1.2.1.2.2.2.2.2.1 ?_
  refine V_imul Y.1 dL_sum_81 (rfl : _ = 82) ?_
  refine V_i2l Y.1 dL_sum_82 (rfl : _ = 83) rfl ?_
  refine V_ladd Y.1 dL_sum_83 (rfl : _ = 84) ?_
  refine V_aload_n Y.1 1 dL_sum_84 (rfl : _ = 85) rfl rfl ?_
  refine V_cPk Y (sV Z (c_D_incompleteTrips l D kA Hs σ _ hJ.ag a M s n t q u p no go ns X hJ hnt) mi_X5_incompleteTrips vi_L_316 rfl hJ.rcv.choose_spec rfl rfl (Nat.le_of_ble_eq_true rfl) ⟨Nat.le_of_ble_eq_true rfl, Nat.le_of_ble_eq_true rfl⟩ (by show _ ≤ 800; omega) (by show _ ≤ 4800; omega) dL_sum_85) (fun _ z => z.elim) (rfl : _ = 88) ?_
  refine V_nm (v := s 8) hq.1.1.2.1.2.2.2.2.2.2.1 ?_
  refine V_i2l Y.1 dL_sum_88 (rfl : _ = 89) rfl ?_
  refine V_ladd Y.1 dL_sum_89 (rfl : _ = 90) ?_
  refine V_lstore_n Y.1 (ls' := [(1, _), (0, _)]) dL_sum_90 (rfl : _ = 91) rfl (by decide) rfl ?_
  refine V_iconst Y.1 (v := 0) dL_sum_91 (rfl : _ = 92) (by decide) ?_
  refine V_istore_n Y.1 (ls' := [(3, _), (1, _), (0, _)]) dL_sum_92 (rfl : _ = 93) rfl (by decide) rfl ?_
  exact V_forget (ls' := [(3, _), (1, _), (0, _)]) [0, 1, 2] rfl (V_widen (by omega) (by omega) (sta 12 0 (by omega)))

