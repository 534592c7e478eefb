/-! The law's loop. -/
theorem lo_cmp {N i : Nat} (hN : N ≤ 1536) (hi : i ≤ 2000) : (nI N - 3 < nI i) ↔ N < i + 3 := by
  have e1 := nI_toInt (n := N) (by omega)
  have e2 := nI_toInt (n := i) (by omega)
  rw [Int32.lt_iff_toInt_lt, Int32.toInt_sub, e1, e2, show (3 : Int32).toInt = 3 from rfl, Int.bmod_eq_of_le (by omega) (by omega)]
  omega
theorem an63 (x : Int32) : ∃ K, K < 64 ∧ x &&& 63 = nI K := by
  refine ⟨(x &&& 63).toBitVec.toNat, ?_, ?_⟩
  · have e : (x &&& 63).toBitVec.toNat = x.toBitVec.toNat &&& 63 := by simp
    rw [e]
    exact Nat.lt_of_le_of_lt Nat.and_le_right (by decide)
  · apply Int32.toBitVec_inj.mp
    apply BitVec.eq_of_toNat_eq
    have e : (x &&& 63).toBitVec.toNat = x.toBitVec.toNat &&& 63 := by simp
    have h : x.toBitVec.toNat &&& 63 ≤ 63 := Nat.and_le_right
    simp [nI]
theorem Inv.more {D : va_G} {kA : Nat → ClassId} {Hs H : Heap} {a q q' : Nat} (h : Inv D kA Hs a H q) (hq : q ≤ q') : Inv D kA Hs a H q' := by
  obtain ⟨W, π, ES, u, hs, ep, fc, no, go, vs, cs, ns, gs, F, s, b, v, p, uu, tt, cc, n, t, hC, hG⟩ := h
  exact ⟨W, π, ES, u, hs, ep, fc, no, go, vs, cs, ns, gs, F, s, b, v, p, uu, tt, cc, n, t, hC, hG.more hq⟩
theorem Inv.ag {D : va_G} {kA : Nat → ClassId} {Hs H : Heap} {a q : Nat} (h : Inv D kA Hs a H q) : Ag Hs H := by
  obtain ⟨W, π, ES, u, hs, ep, fc, no, go, vs, cs, ns, gs, F, s, b, v, p, uu, tt, cc, n, t, hC, hG⟩ := h
  exact hC.2.2.2.2.1
set_option maxRecDepth 100000 in
set_option maxHeartbeats 4000000 in
theorem lp_sw (l : Launch) (D : va_G) (kA : Nat → ClassId) (Hs : Heap) (σ : SG) (hnt : l.stackTraces = false) {Pp : Program} {Ee : Env} {Ss : State} {Mm : MethodId} {Ar : Array Value} {Bl : List Frame} {Me : Method} {Cc : Code} {Q : State → Prop} (Z : Ys Pp Ss Mm Ar Me Cc cL_law 9 (some .boolean) "MetroFaresLaw" D kA (AA Hs nof) Hs σ) (sa N : Nat) (f : Nat → Int32) (hsa : va_X sa N f Ss Ss.heap ∧ sa < Ss.heap.size ∧ ¬ AA Hs nof sa) (hN : N ≤ 1536) (a j : Nat) (hj : 3 * j + 3 ≤ N) (H : Heap) (hI : Inv D kA Hs a H (61 * j)) (kk : ∀ H1, Inv D kA Hs a H1 (61 * (j + 1)) → V Pp l Ee (rmO 2048 94400 603072 7194730) Ss Mm Ar Bl Me Cc 9 (AA Hs nof) Q H1 (400 + 200 * (j + 1)) (6000 + 400 * (j + 1)) 2781 [(5, .int (nI (3 * j))), (4, .ref (a + 338)), (3, .ref (a + 337)), (2, .ref (a + 329)), (1, .ref a), (0, .ref sa)] []) (h38 : V Pp l Ee (rmO 2048 94400 603072 7194730) Ss Mm Ar Bl Me Cc 9 (AA Hs nof) Q H (400 + 200 * (j)) (6000 + 400 * (j)) 2134 [(5, .int (nI (3 * j))), (4, .ref (a + 338)), (3, .ref (a + 337)), (2, .ref (a + 329)), (1, .ref a), (0, .ref sa)] []) (h39 : V Pp l Ee (rmO 2048 94400 603072 7194730) Ss Mm Ar Bl Me Cc 9 (AA Hs nof) Q H (400 + 200 * (j)) (6000 + 400 * (j)) 2199 [(5, .int (nI (3 * j))), (4, .ref (a + 338)), (3, .ref (a + 337)), (2, .ref (a + 329)), (1, .ref a), (0, .ref sa)] []) (h40 : V Pp l Ee (rmO 2048 94400 603072 7194730) Ss Mm Ar Bl Me Cc 9 (AA Hs nof) Q H (400 + 200 * (j)) (6000 + 400 * (j)) 2242 [(5, .int (nI (3 * j))), (4, .ref (a + 338)), (3, .ref (a + 337)), (2, .ref (a + 329)), (1, .ref a), (0, .ref sa)] []) (h41 : V Pp l Ee (rmO 2048 94400 603072 7194730) Ss Mm Ar Bl Me Cc 9 (AA Hs nof) Q H (400 + 200 * (j)) (6000 + 400 * (j)) 2308 [(5, .int (nI (3 * j))), (4, .ref (a + 338)), (3, .ref (a + 337)), (2, .ref (a + 329)), (1, .ref a), (0, .ref sa)] []) (K : Nat) (hK : K < 64) : V Pp l Ee (rmO 2048 94400 603072 7194730) Ss Mm Ar Bl Me Cc 9 (AA Hs nof) Q H (400 + 200 * (j)) (6000 + 400 * (j)) 44 [(5, .int (nI (3 * j))), (4, .ref (a + 338)), (3, .ref (a + 337)), (2, .ref (a + 329)), (1, .ref a), (0, .ref sa)] [.int (nI K)] := by
  have Y := Z.1
  by_cases e0 : K = 0
  · subst e0; exact V_tableIn Y.1 dL_law_44 (by decide) (by decide) (rfl : _ = some (228 : Int)) (rfl : _ = ((272 : Nat) : Int)) (lc_0 l D kA Hs σ hnt Z sa N f hsa hN a j hj H hI kk)
  by_cases e1 : K = 1
  · subst e1; exact V_tableIn Y.1 dL_law_44 (by decide) (by decide) (rfl : _ = some (300 : Int)) (rfl : _ = ((344 : Nat) : Int)) (lc_1 l D kA Hs σ hnt Z sa N f hsa hN a j hj H hI kk)
  by_cases e2 : K = 2
  · subst e2; exact V_tableIn Y.1 dL_law_44 (by decide) (by decide) (rfl : _ = some (368 : Int)) (rfl : _ = ((412 : Nat) : Int)) (lc_2 l D kA Hs σ hnt Z sa N f hsa hN a j hj H hI kk)
  by_cases e3 : K = 3
  · subst e3; exact V_tableIn Y.1 dL_law_44 (by decide) (by decide) (rfl : _ = some (443 : Int)) (rfl : _ = ((487 : Nat) : Int)) (lc_3 l D kA Hs σ hnt Z sa N f hsa hN a j hj H hI kk)
  by_cases e4 : K = 4
  · subst e4; exact V_tableIn Y.1 dL_law_44 (by decide) (by decide) (rfl : _ = some (511 : Int)) (rfl : _ = ((555 : Nat) : Int)) (lc_4 l D kA Hs σ hnt Z sa N f hsa hN a j hj H hI kk)
  by_cases e5 : K = 5
  · subst e5; exact V_tableIn Y.1 dL_law_44 (by decide) (by decide) (rfl : _ = some (579 : Int)) (rfl : _ = ((623 : Nat) : Int)) (lc_5 l D kA Hs σ hnt Z sa N f hsa hN a j hj H hI kk)
  by_cases e6 : K = 6
  · subst e6; exact V_tableIn Y.1 dL_law_44 (by decide) (by decide) (rfl : _ = some (647 : Int)) (rfl : _ = ((691 : Nat) : Int)) (lc_6 l D kA Hs σ hnt Z sa N f hsa hN a j hj H hI kk)
  by_cases e7 : K = 7
  · subst e7; exact V_tableIn Y.1 dL_law_44 (by decide) (by decide) (rfl : _ = some (715 : Int)) (rfl : _ = ((759 : Nat) : Int)) (lc_7 l D kA Hs σ hnt Z sa N f hsa hN a j hj H hI kk)
  by_cases e8 : K = 8
  · subst e8; exact V_tableIn Y.1 dL_law_44 (by decide) (by decide) (rfl : _ = some (771 : Int)) (rfl : _ = ((815 : Nat) : Int)) (lc_8 l D kA Hs σ hnt Z sa N f hsa hN a j hj H hI kk)
  by_cases e9 : K = 9
  · subst e9; exact V_tableIn Y.1 dL_law_44 (by decide) (by decide) (rfl : _ = some (784 : Int)) (rfl : _ = ((828 : Nat) : Int)) (lc_9 l D kA Hs σ hnt Z sa N f hsa hN a j hj H hI kk)
  by_cases e10 : K = 10
  · subst e10; exact V_tableIn Y.1 dL_law_44 (by decide) (by decide) (rfl : _ = some (797 : Int)) (rfl : _ = ((841 : Nat) : Int)) (lc_10 l D kA Hs σ hnt Z sa N f hsa hN a j hj H hI kk)
  by_cases e11 : K = 11
  · subst e11; exact V_tableIn Y.1 dL_law_44 (by decide) (by decide) (rfl : _ = some (853 : Int)) (rfl : _ = ((897 : Nat) : Int)) (lc_11 l D kA Hs σ hnt Z sa N f hsa hN a j hj H hI kk)
  by_cases e12 : K = 12
  · subst e12; exact V_tableIn Y.1 dL_law_44 (by decide) (by decide) (rfl : _ = some (921 : Int)) (rfl : _ = ((965 : Nat) : Int)) (lc_12 l D kA Hs σ hnt Z sa N f hsa hN a j hj H hI kk)
  by_cases e13 : K = 13
  · subst e13; exact V_tableIn Y.1 dL_law_44 (by decide) (by decide) (rfl : _ = some (989 : Int)) (rfl : _ = ((1033 : Nat) : Int)) (lc_13 l D kA Hs σ hnt Z sa N f hsa hN a j hj H hI kk)
  by_cases e14 : K = 14
  · subst e14; exact V_tableIn Y.1 dL_law_44 (by decide) (by decide) (rfl : _ = some (1057 : Int)) (rfl : _ = ((1101 : Nat) : Int)) (lc_14 l D kA Hs σ hnt Z sa N f hsa hN a j hj H hI kk)
  by_cases e15 : K = 15
  · subst e15; exact V_tableIn Y.1 dL_law_44 (by decide) (by decide) (rfl : _ = some (1070 : Int)) (rfl : _ = ((1114 : Nat) : Int)) (lc_15 l D kA Hs σ hnt Z sa N f hsa hN a j hj H hI kk)
  by_cases e16 : K = 16
  · subst e16; exact V_tableIn Y.1 dL_law_44 (by decide) (by decide) (rfl : _ = some (1083 : Int)) (rfl : _ = ((1127 : Nat) : Int)) (lc_16 l D kA Hs σ hnt Z sa N f hsa hN a j hj H hI kk)
  by_cases e17 : K = 17
  · subst e17; exact V_tableIn Y.1 dL_law_44 (by decide) (by decide) (rfl : _ = some (1096 : Int)) (rfl : _ = ((1140 : Nat) : Int)) (lc_17 l D kA Hs σ hnt Z sa N f hsa hN a j hj H hI kk)
  by_cases e18 : K = 18
  · subst e18; exact V_tableIn Y.1 dL_law_44 (by decide) (by decide) (rfl : _ = some (1152 : Int)) (rfl : _ = ((1196 : Nat) : Int)) (lc_18 l D kA Hs σ hnt Z sa N f hsa hN a j hj H hI kk)
  by_cases e19 : K = 19
  · subst e19; exact V_tableIn Y.1 dL_law_44 (by decide) (by decide) (rfl : _ = some (1208 : Int)) (rfl : _ = ((1252 : Nat) : Int)) (lc_19 l D kA Hs σ hnt Z sa N f hsa hN a j hj H hI kk)
  by_cases e20 : K = 20
  · subst e20; exact V_tableIn Y.1 dL_law_44 (by decide) (by decide) (rfl : _ = some (1221 : Int)) (rfl : _ = ((1265 : Nat) : Int)) (lc_20 l D kA Hs σ hnt Z sa N f hsa hN a j hj H hI kk)
  by_cases e21 : K = 21
  · subst e21; exact V_tableIn Y.1 dL_law_44 (by decide) (by decide) (rfl : _ = some (1284 : Int)) (rfl : _ = ((1328 : Nat) : Int)) (lc_21 l D kA Hs σ hnt Z sa N f hsa hN a j hj H hI kk)
  by_cases e22 : K = 22
  · subst e22; exact V_tableIn Y.1 dL_law_44 (by decide) (by decide) (rfl : _ = some (1340 : Int)) (rfl : _ = ((1384 : Nat) : Int)) (lc_22 l D kA Hs σ hnt Z sa N f hsa hN a j hj H hI kk)
  by_cases e23 : K = 23
  · subst e23; exact V_tableIn Y.1 dL_law_44 (by decide) (by decide) (rfl : _ = some (1403 : Int)) (rfl : _ = ((1447 : Nat) : Int)) (lc_23 l D kA Hs σ hnt Z sa N f hsa hN a j hj H hI kk)
  by_cases e24 : K = 24
  · subst e24; exact V_tableIn Y.1 dL_law_44 (by decide) (by decide) (rfl : _ = some (1459 : Int)) (rfl : _ = ((1503 : Nat) : Int)) (lc_24 l D kA Hs σ hnt Z sa N f hsa hN a j hj H hI kk)
  by_cases e25 : K = 25
  · subst e25; exact V_tableIn Y.1 dL_law_44 (by decide) (by decide) (rfl : _ = some (1515 : Int)) (rfl : _ = ((1559 : Nat) : Int)) (lc_25 l D kA Hs σ hnt Z sa N f hsa hN a j hj H hI kk)
  by_cases e26 : K = 26
  · subst e26; exact V_tableIn Y.1 dL_law_44 (by decide) (by decide) (rfl : _ = some (1571 : Int)) (rfl : _ = ((1615 : Nat) : Int)) (lc_26 l D kA Hs σ hnt Z sa N f hsa hN a j hj H hI kk)
  by_cases e27 : K = 27
  · subst e27; exact V_tableIn Y.1 dL_law_44 (by decide) (by decide) (rfl : _ = some (1646 : Int)) (rfl : _ = ((1690 : Nat) : Int)) (lc_27 l D kA Hs σ hnt Z sa N f hsa hN a j hj H hI kk)
  by_cases e28 : K = 28
  · subst e28; exact V_tableIn Y.1 dL_law_44 (by decide) (by decide) (rfl : _ = some (1714 : Int)) (rfl : _ = ((1758 : Nat) : Int)) (lc_28 l D kA Hs σ hnt Z sa N f hsa hN a j hj H hI kk)
  by_cases e29 : K = 29
  · subst e29; exact V_tableIn Y.1 dL_law_44 (by decide) (by decide) (rfl : _ = some (1782 : Int)) (rfl : _ = ((1826 : Nat) : Int)) (lc_29 l D kA Hs σ hnt Z sa N f hsa hN a j hj H hI kk)
  by_cases e30 : K = 30
  · subst e30; exact V_tableIn Y.1 dL_law_44 (by decide) (by decide) (rfl : _ = some (1850 : Int)) (rfl : _ = ((1894 : Nat) : Int)) (lc_30 l D kA Hs σ hnt Z sa N f hsa hN a j hj H hI kk)
  by_cases e31 : K = 31
  · subst e31; exact V_tableIn Y.1 dL_law_44 (by decide) (by decide) (rfl : _ = some (1906 : Int)) (rfl : _ = ((1950 : Nat) : Int)) (lc_31 l D kA Hs σ hnt Z sa N f hsa hN a j hj H hI kk)
  by_cases e32 : K = 32
  · subst e32; exact V_tableIn Y.1 dL_law_44 (by decide) (by decide) (rfl : _ = some (1969 : Int)) (rfl : _ = ((2013 : Nat) : Int)) (lc_32 l D kA Hs σ hnt Z sa N f hsa hN a j hj H hI kk)
  by_cases e33 : K = 33
  · subst e33; exact V_tableIn Y.1 dL_law_44 (by decide) (by decide) (rfl : _ = some (2025 : Int)) (rfl : _ = ((2069 : Nat) : Int)) (lc_33 l D kA Hs σ hnt Z sa N f hsa hN a j hj H hI kk)
  by_cases e34 : K = 34
  · subst e34; exact V_tableIn Y.1 dL_law_44 (by decide) (by decide) (rfl : _ = some (2038 : Int)) (rfl : _ = ((2082 : Nat) : Int)) (lc_34 l D kA Hs σ hnt Z sa N f hsa hN a j hj H hI kk)
  by_cases e35 : K = 35
  · subst e35; exact V_tableIn Y.1 dL_law_44 (by decide) (by decide) (rfl : _ = some (2051 : Int)) (rfl : _ = ((2095 : Nat) : Int)) (lc_35 l D kA Hs σ hnt Z sa N f hsa hN a j hj H hI kk)
  by_cases e36 : K = 36
  · subst e36; exact V_tableIn Y.1 dL_law_44 (by decide) (by decide) (rfl : _ = some (2064 : Int)) (rfl : _ = ((2108 : Nat) : Int)) (lc_36 l D kA Hs σ hnt Z sa N f hsa hN a j hj H hI kk)
  by_cases e37 : K = 37
  · subst e37; exact V_tableIn Y.1 dL_law_44 (by decide) (by decide) (rfl : _ = some (2077 : Int)) (rfl : _ = ((2121 : Nat) : Int)) (lc_37 l D kA Hs σ hnt Z sa N f hsa hN a j hj H hI kk)
  by_cases e38 : K = 38
  · subst e38; exact V_tableIn Y.1 dL_law_44 (by decide) (by decide) (rfl : _ = some (2090 : Int)) (rfl : _ = ((2134 : Nat) : Int)) h38
  by_cases e39 : K = 39
  · subst e39; exact V_tableIn Y.1 dL_law_44 (by decide) (by decide) (rfl : _ = some (2155 : Int)) (rfl : _ = ((2199 : Nat) : Int)) h39
  by_cases e40 : K = 40
  · subst e40; exact V_tableIn Y.1 dL_law_44 (by decide) (by decide) (rfl : _ = some (2198 : Int)) (rfl : _ = ((2242 : Nat) : Int)) h40
  by_cases e41 : K = 41
  · subst e41; exact V_tableIn Y.1 dL_law_44 (by decide) (by decide) (rfl : _ = some (2264 : Int)) (rfl : _ = ((2308 : Nat) : Int)) h41
  by_cases e42 : K = 42
  · subst e42; exact V_tableIn Y.1 dL_law_44 (by decide) (by decide) (rfl : _ = some (2308 : Int)) (rfl : _ = ((2352 : Nat) : Int)) (lc_42 l D kA Hs σ hnt Z sa N f hsa hN a j hj H hI kk)
  by_cases e43 : K = 43
  · subst e43; exact V_tableIn Y.1 dL_law_44 (by decide) (by decide) (rfl : _ = some (2321 : Int)) (rfl : _ = ((2365 : Nat) : Int)) (lc_43 l D kA Hs σ hnt Z sa N f hsa hN a j hj H hI kk)
  by_cases e44 : K = 44
  · subst e44; exact V_tableIn Y.1 dL_law_44 (by decide) (by decide) (rfl : _ = some (2377 : Int)) (rfl : _ = ((2421 : Nat) : Int)) (lc_44 l D kA Hs σ hnt Z sa N f hsa hN a j hj H hI kk)
  by_cases e45 : K = 45
  · subst e45; exact V_tableIn Y.1 dL_law_44 (by decide) (by decide) (rfl : _ = some (2390 : Int)) (rfl : _ = ((2434 : Nat) : Int)) (lc_45 l D kA Hs σ hnt Z sa N f hsa hN a j hj H hI kk)
  by_cases e46 : K = 46
  · subst e46; exact V_tableIn Y.1 dL_law_44 (by decide) (by decide) (rfl : _ = some (2446 : Int)) (rfl : _ = ((2490 : Nat) : Int)) (lc_46 l D kA Hs σ hnt Z sa N f hsa hN a j hj H hI kk)
  by_cases e47 : K = 47
  · subst e47; exact V_tableIn Y.1 dL_law_44 (by decide) (by decide) (rfl : _ = some (2504 : Int)) (rfl : _ = ((2548 : Nat) : Int)) (lc_47 l D kA Hs σ hnt Z sa N f hsa hN a j hj H hI kk)
  by_cases e48 : K = 48
  · subst e48; exact V_tableIn Y.1 dL_law_44 (by decide) (by decide) (rfl : _ = some (2548 : Int)) (rfl : _ = ((2592 : Nat) : Int)) (lc_48 l D kA Hs σ hnt Z sa N f hsa hN a j hj H hI kk)
  by_cases e49 : K = 49
  · subst e49; exact V_tableIn Y.1 dL_law_44 (by decide) (by decide) (rfl : _ = some (2592 : Int)) (rfl : _ = ((2636 : Nat) : Int)) (lc_49 l D kA Hs σ hnt Z sa N f hsa hN a j hj H hI kk)
  by_cases e50 : K = 50
  · subst e50; exact V_tableIn Y.1 dL_law_44 (by decide) (by decide) (rfl : _ = some (2636 : Int)) (rfl : _ = ((2680 : Nat) : Int)) (lc_50 l D kA Hs σ hnt Z sa N f hsa hN a j hj H hI kk)
  by_cases e51 : K = 51
  · subst e51; exact V_tableIn Y.1 dL_law_44 (by decide) (by decide) (rfl : _ = some (2680 : Int)) (rfl : _ = ((2724 : Nat) : Int)) (lc_51 l D kA Hs σ hnt Z sa N f hsa hN a j hj H hI kk)
  by_cases e52 : K = 52
  · subst e52; exact V_tableIn Y.1 dL_law_44 (by decide) (by decide) (rfl : _ = some (2693 : Int)) (rfl : _ = ((2737 : Nat) : Int)) (lc_52 l D kA Hs σ hnt Z sa N f hsa hN a j hj H hI kk)
  have t9 := nI_toInt (n := K) (by omega)
  exact V_tableOut Y.1 dL_law_44 (Or.inr (by rw [t9]; omega)) (rfl : _ = ((2781 : Nat) : Int)) (V_widen (by omega) (by omega) (kk _ (hI.more (by omega))))
set_option maxRecDepth 100000 in
set_option maxHeartbeats 4000000 in
theorem lp (l : Launch) (D : va_G) (kA : Nat → ClassId) (Hs : Heap) (σ : SG) (hnt : l.stackTraces = false) {Pp : Program} {Ee : Env} {Ss : State} {Mm : MethodId} {Ar : Array Value} {Bl : List Frame} {Me : Method} {Cc : Code} {Q : State → Prop} (Z : Ys Pp Ss Mm Ar Me Cc cL_law 9 (some .boolean) "MetroFaresLaw" D kA (AA Hs nof) Hs σ) (sa N : Nat) (f : Nat → Int32) (hsa : va_X sa N f Ss Ss.heap ∧ sa < Ss.heap.size ∧ ¬ AA Hs nof sa) (hN : N ≤ 1536) (a : Nat) (hfl : ∀ (j : Nat) (H : Heap), 3 * j + 3 ≤ N → Inv D kA Hs a H (61 * j) → (∀ H1, Inv D kA Hs a H1 (61 * (j + 1)) → V Pp l Ee (rmO 2048 94400 603072 7194730) Ss Mm Ar Bl Me Cc 9 (AA Hs nof) Q H1 (400 + 200 * (j + 1)) (6000 + 400 * (j + 1)) 2781 [(5, .int (nI (3 * j))), (4, .ref (a + 338)), (3, .ref (a + 337)), (2, .ref (a + 329)), (1, .ref a), (0, .ref sa)] []) → (V Pp l Ee (rmO 2048 94400 603072 7194730) Ss Mm Ar Bl Me Cc 9 (AA Hs nof) Q H (400 + 200 * (j)) (6000 + 400 * (j)) 2134 [(5, .int (nI (3 * j))), (4, .ref (a + 338)), (3, .ref (a + 337)), (2, .ref (a + 329)), (1, .ref a), (0, .ref sa)] []) ∧ (V Pp l Ee (rmO 2048 94400 603072 7194730) Ss Mm Ar Bl Me Cc 9 (AA Hs nof) Q H (400 + 200 * (j)) (6000 + 400 * (j)) 2199 [(5, .int (nI (3 * j))), (4, .ref (a + 338)), (3, .ref (a + 337)), (2, .ref (a + 329)), (1, .ref a), (0, .ref sa)] []) ∧ (V Pp l Ee (rmO 2048 94400 603072 7194730) Ss Mm Ar Bl Me Cc 9 (AA Hs nof) Q H (400 + 200 * (j)) (6000 + 400 * (j)) 2242 [(5, .int (nI (3 * j))), (4, .ref (a + 338)), (3, .ref (a + 337)), (2, .ref (a + 329)), (1, .ref a), (0, .ref sa)] []) ∧ (V Pp l Ee (rmO 2048 94400 603072 7194730) Ss Mm Ar Bl Me Cc 9 (AA Hs nof) Q H (400 + 200 * (j)) (6000 + 400 * (j)) 2308 [(5, .int (nI (3 * j))), (4, .ref (a + 338)), (3, .ref (a + 337)), (2, .ref (a + 329)), (1, .ref a), (0, .ref sa)] [])) (hend : ∀ (j : Nat) (H : Heap), j ≤ 512 → Ag Hs H → V Pp l Ee (rmO 2048 94400 603072 7194730) Ss Mm Ar Bl Me Cc 9 (AA Hs nof) Q H (400 + 200 * (j)) (6000 + 400 * (j)) 2787 [(5, .int (nI (3 * j))), (4, .ref (a + 338)), (3, .ref (a + 337)), (2, .ref (a + 329)), (1, .ref a), (0, .ref sa)] []) : ∀ (r j : Nat) (H : Heap), r + j = 513 → 3 * j ≤ N + 2 → Inv D kA Hs a H (61 * j) → V Pp l Ee (rmO 2048 94400 603072 7194730) Ss Mm Ar Bl Me Cc 9 (AA Hs nof) Q H (400 + 200 * (j)) (6000 + 400 * (j)) 28 [(5, .int (nI (3 * j))), (4, .ref (a + 338)), (3, .ref (a + 337)), (2, .ref (a + 329)), (1, .ref a), (0, .ref sa)] [] := by
  have Y := Z.1
  intro r
  induction r with
  | zero => intro j H hr hj; omega
  | succ r ih =>
    intro j H hr hj hI
    refine V_iload Y.1 0 dL_law_28 (rfl : _ = 30) rfl ?_
    refine V_aload_n Y.1 5 dL_law_30 (rfl : _ = 31) rfl rfl ?_
    refine V_slen Y.1 hsa dL_law_31 rfl ?_
    refine V_iconst Y.1 (v := 3) dL_law_32 (rfl : _ = 33) (by decide) ?_
    refine V_isub Y.1 dL_law_33 (rfl : _ = 34) ?_
    refine V_icmp_gt Y.1 dL_law_34 (rfl : _ = ((2787 : Nat) : Int)) (rfl : _ = 37) (fun _ => hend j H (by omega) hI.ag) (fun hlt => ?_)
    have hj3 : 3 * j + 3 ≤ N := by
      have h9 : ¬ N < 3 * j + 3 := fun z => hlt ((lo_cmp (i := 3 * j) hN (by omega)).mpr z)
      omega
    obtain ⟨K, hK, hx⟩ := an63 (f (3 * j))
    refine V_aload_n Y.1 5 dL_law_37 (rfl : _ = 38) rfl rfl ?_
    refine V_iload Y.1 0 dL_law_38 (rfl : _ = 40) rfl ?_
    refine V_sld Y.1 (v := f (3 * j)) hsa (vp_in_nI (by omega) (by omega)) (by rw [nI_clamp (by omega)]) dL_law_40 (rfl : _ = 41) ?_
    refine V_bipush Y.1 (v := 63) dL_law_41 (rfl : _ = 43) (by decide) ?_
    refine V_iand Y.1 dL_law_43 (rfl : _ = 44) ?_
    refine V_nm hx ?_
    have kk : ∀ H1, Inv D kA Hs a H1 (61 * (j + 1)) → V Pp l Ee (rmO 2048 94400 603072 7194730) Ss Mm Ar Bl Me Cc 9 (AA Hs nof) Q H1 (400 + 200 * (j + 1)) (6000 + 400 * (j + 1)) 2781 [(5, .int (nI (3 * j))), (4, .ref (a + 338)), (3, .ref (a + 337)), (2, .ref (a + 329)), (1, .ref a), (0, .ref sa)] [] := fun H1 hI1 => by
      refine V_iinc Y.1 0 dL_law_2781 (rfl : _ = 2784) rfl (v := nI (3 * (j + 1))) (by rw [show (Int32.ofInt 3) = (3 : Int32) from by decide, show (3 : Int32) = nI 3 from rfl, nI_add]; rfl) (by decide) (rfl : _ = [(5, _), (4, _), (3, _), (2, _), (1, _), (0, _)]) ?_
      refine V_goto Y.1 dL_law_2784 (rfl : _ = ((28 : Nat) : Int)) ?_
      exact ih (j + 1) H1 (by omega) (by omega) hI1
    obtain ⟨h38, h39, h40, h41⟩ := hfl j H hj3 hI kk
    exact lp_sw l D kA Hs σ hnt Z sa N f hsa hN a j hj3 H hI kk h38 h39 h40 h41 K hK
