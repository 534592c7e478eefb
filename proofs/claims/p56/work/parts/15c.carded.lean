/-! The law's cards: days, trips, caps, ranks, balances. -/
theorem ca_ahead (M : MS) (d : Nat) {n c : Nat} (h0 : 0 < c) (hc : c < n) : (k_sumOf (M.2.2.2.1 (caB M d n c)) d).toInt < (k_sumOf (M.2.2.2.1 (caB M d n (c - 1))) d).toInt ∨ ((k_sumOf (M.2.2.2.1 (caB M d n c)) d).toInt = (k_sumOf (M.2.2.2.1 (caB M d n (c - 1))) d).toInt ∧ (((M.2.2.2.1 (caB M d n (c - 1))).1 1).toInt < ((M.2.2.2.1 (caB M d n c)).1 1).toInt ∨ (((M.2.2.2.1 (caB M d n (c - 1))).1 1).toInt = ((M.2.2.2.1 (caB M d n c)).1 1).toInt ∧ caB M d n (c - 1) < caB M d n c))) := by
  obtain ⟨a1, a2⟩ := caB_ok M d hc
  obtain ⟨b1, b2⟩ := caB_ok M d (show c - 1 < n by omega)
  rw [m_rk_B] at a2 b2
  have h := of_decide_eq_true (rk_ahead b1 a1 (by rw [a2, b2]; omega))
  omega
theorem y_next {y : Int32} {v w : Int} (h : y.toInt = v) (h1 : -100 ≤ v) (h2 : v < 1000000000) (hw : v + 1 = w) : (y + Int32.ofInt 1).toInt = w := by
  rw [show Int32.ofInt 1 = (1 : Int32) from rfl, i_add (by rw [h, show (1 : Int32).toInt = 1 from by decide]; omega) (by rw [h, show (1 : Int32).toInt = 1 from by decide]; omega), h, show (1 : Int32).toInt = 1 from by decide]
  exact hw
/-- what a tap out costs: nothing negative, no more than is left or than the price; no transfer on a trip -/
theorem trip_b {M : MS} {s : Nat → Int32} {n t q c j w : Nat} (hq : SQ M s n t q) (hc : c < n) (h2 : (M.2.2.2.1 c).1 2 = 1) (h6 : 0 ≤ ((M.2.2.2.1 c).1 6).toInt ∧ ((M.2.2.2.1 c).1 6).toInt ≤ 1000000) (hj : j < 12) (hw : w < 12) :
    ¬ k_trip (M.2.2.2.1 c) M.2.1 (M.1 7) (M.1 8) j w (t / 1440) < 0 ∧ ¬ k_trip (M.2.2.2.1 c) M.2.1 (M.1 7) (M.1 8) j w (t / 1440) > (if k_price (M.2.2.2.1 c) (ln_fare M.2.1 (M.1 7) (M.1 8) j w) < k_left (M.2.2.2.1 c) (t / 1440) then k_price (M.2.2.2.1 c) (ln_fare M.2.1 (M.1 7) (M.1 8) j w) else k_left (M.2.2.2.1 c) (t / 1440)) ∧ k_cont (M.2.2.2.1 c) (nI w) (M.1 1) = 0 := by
  obtain ⟨hsc, -, -⟩ := hq.1.1.2.2.2.2.2.2.2 c hc
  obtain ⟨a1, a2, a3⟩ := k_left_b hsc (d := t / 1440) (by omega) (Nat.le_refl _)
  obtain ⟨v, hv, ev⟩ := hq.1.1.fare hj hw
  obtain ⟨x, hx, ex⟩ := price_b (κ := M.2.2.2.1 c) (v := v) (by omega)
  have e1 : k_price (M.2.2.2.1 c) (ln_fare M.2.1 (M.1 7) (M.1 8) j w) = nI x := by rw [ev, ex]
  have hxt : (nI x).toInt = x := nI_toInt (by omega)
  have z0 := i_zero
  have hsub := i_sub (a := nI x) (b := (M.2.2.2.1 c).1 6) (by omega) (by omega)
  refine ⟨?_, ?_, ?_⟩
  · unfold k_trip
    dsimp only
    rw [e1]
    simp only [Int32.lt_iff_toInt_lt, i_zero]
    (repeat' split) <;> (try simp only [i_zero]) <;> omega
  · unfold k_trip
    dsimp only
    rw [e1]
    simp only [gt_iff_lt, Int32.lt_iff_toInt_lt, i_zero]
    (repeat' split) <;> (try simp only [i_zero]) <;> omega
  · unfold k_cont
    rw [if_neg (fun z => by rw [h2] at z; exact absurd z.1 (by decide))]
set_option maxRecDepth 100000 in
set_option maxHeartbeats 4000000 in
theorem c_L_carded (l : Launch) (D : va_G) (kA : Nat → ClassId) (Hs : Heap) (σ : SG) (H0 : Heap) (hg : Ag Hs H0) (a : Nat) (M : MS) (s : Nat → Int32) (n t q u : Nat) (p : Nat → Nat → Int32) (no : Nat) (go : Nat → Int32) (ns : Nat) (X : Nat → Prop)  (hJ : Lw D kA Hs H0 a M s n t q u p no go ns X) (hnt : l.stackTraces = false) (hj6 : ∀ i, i < n → (M.2.2.2.1 i).1 2 = 1 → 0 ≤ ((M.2.2.2.1 i).1 6).toInt ∧ ((M.2.2.2.1 i).1 6).toInt ≤ 1000000) : CtS l D kA Hs σ yL_carded cL_carded 9 (some .boolean) 12 210 16500 97000 H0 [.ref a] (nof) (pI fun v9 H => v9 = 1) := by
  refine CtS.of mi_L_carded (Nat.le_of_ble_eq_true rfl) (ls0 := [(0, _)]) rfl hg (fun _ z => z.elim) ?_
  intro Pp Ee Ss Mm Ar Bl Me Cc Z hsH hnm
  have Y := Z.1
  have hq := hJ.sq
  have h8 : n ≤ 8 := hq.1.1.1.2.1
  have h30 := hq.1.1.t30
  have hd20 : t / 1440 < 2 ^ 20 := by omega
  have hal := fun i (hi : i < n) => hq.1.1.2.2.2.2.2.2.2 i hi
  have tail : ∀ H, off nof H0 H → V Pp l Ee (rmO 12 210 16500 97000) Ss Mm Ar Bl Me Cc 9 (AA H0 (nof)) (QC Bl Ar Ss 16500 97000 H0 (nof) (pI fun v9 H => v9 = 1)) H 16000 96000 449 [(2, .int (m_bal M n)), (1, .int (nI n)), (0, .ref a)] [] := by
    intro H o0
    have hJ1 := hJ.new o0
    refine V_iload_n Y.1 0 dL_carded_449 (rfl : _ = 450) rfl rfl ?_
    refine V_aload_n Y.1 2 dL_carded_450 (rfl : _ = 451) rfl rfl ?_
    refine V_cPk Y (sV Z (c_D_loadedTotal l D kA Hs σ _ hJ1.ag a M s n t q u p no go ns X hJ1 hnt) mi_X5_loadedTotal vi_L_266 rfl hJ1.rcv.choose_spec rfl rfl (Nat.le_of_ble_eq_true rfl) ⟨Nat.le_of_ble_eq_true rfl, Nat.le_of_ble_eq_true rfl⟩ (by show _ ≤ 16500; omega) (by show _ ≤ 97000; omega) dL_carded_451) (fun _ z => z.elim) (rfl : _ = 454) ?_
    refine V_aload_n Y.1 2 dL_carded_454 (rfl : _ = 455) rfl rfl ?_
    refine V_cPk Y (sV Z (c_D_chargedTotal l D kA Hs σ _ hJ1.ag a M s n t q u p no go ns X hJ1 hnt) mi_X5_chargedTotal vi_L_269 rfl hJ1.rcv.choose_spec rfl rfl (Nat.le_of_ble_eq_true rfl) ⟨Nat.le_of_ble_eq_true rfl, Nat.le_of_ble_eq_true rfl⟩ (by show _ ≤ 16500; omega) (by show _ ≤ 97000; omega) dL_carded_455) (fun _ z => z.elim) (rfl : _ = 458) ?_
    refine V_isub Y.1 dL_carded_458 (rfl : _ = 459) ?_
    refine V_aload_n Y.1 2 dL_carded_459 (rfl : _ = 460) rfl rfl ?_
    refine V_cPk Y (sV Z (c_D_paidBackTotal l D kA Hs σ _ hJ1.ag a M s n t q u p no go ns X hJ1 hnt) mi_X5_paidBackTotal vi_L_272 rfl hJ1.rcv.choose_spec rfl rfl (Nat.le_of_ble_eq_true rfl) ⟨Nat.le_of_ble_eq_true rfl, Nat.le_of_ble_eq_true rfl⟩ (by show _ ≤ 16500; omega) (by show _ ≤ 97000; omega) dL_carded_460) (fun _ z => z.elim) (rfl : _ = 463) ?_
    refine V_iadd Y.1 dL_carded_463 (rfl : _ = 464) ?_
    refine V_icmp_ne Y.1 (tgt := 471) dL_carded_464 (by decide) (rfl : _ = 467) (fun c_n => absurd hq.1.1.2.2.2.2.2.2.1 c_n) (fun _ => ?_)
    refine V_iconst Y.1 (v := 1) dL_carded_467 (rfl : _ = 468) (by decide) ?_
    refine V_goto Y.1 (tgt := 472) dL_carded_468 (by decide) ?_
    refine V_istore_n Y.1 (ls' := [(3, _), (2, _), (1, _), (0, _)]) dL_carded_472 (rfl : _ = 473) rfl (by decide) rfl ?_
    refine V_iload_n Y.1 0 dL_carded_473 (rfl : _ = 474) rfl rfl ?_
    refine V_if_eq Y.1 (tgt := 646) dL_carded_474 (by decide) (rfl : _ = 477) (fun c_n => absurd c_n (by decide)) (fun _ => ?_)
    refine V_aload_n Y.1 3 dL_carded_477 (rfl : _ = 478) rfl rfl ?_
    refine V_cPk Y (sV Z (c_D_isConsistent l D kA Hs σ _ hJ1.ag a M s n t q u p no go ns X hJ1 hnt) mi_X5_isConsistent vi_L_275 rfl hJ1.rcv.choose_spec rfl rfl (Nat.le_of_ble_eq_true rfl) ⟨Nat.le_of_ble_eq_true rfl, Nat.le_of_ble_eq_true rfl⟩ (by show _ ≤ 16500; omega) (by show _ ≤ 97000; omega) dL_carded_478) (fun _ z => z.elim) (rfl : _ = 481) ?_
    refine V_if_eq Y.1 (tgt := 646) dL_carded_481 (by decide) (rfl : _ = 484) (fun c_n => absurd c_n (by decide)) (fun _ => ?_)
    refine V_aload_n Y.1 3 dL_carded_484 (rfl : _ = 485) rfl rfl ?_
    refine V_iload_n Y.1 2 dL_carded_485 (rfl : _ = 486) rfl rfl ?_
    refine V_cI Y (sW Z (c_N_bySpending l D kA Hs σ _ hJ1.ag a M s n t q u p no go ns X (nI n) hJ1 hnt (fun r9 h9 e9 => by rw [nI_eq (by omega) (by omega)] at e9; omega)) mh_L_bySpending si_L_263 rfl rfl (Nat.le_of_ble_eq_true rfl) ⟨Nat.le_of_ble_eq_true rfl, Nat.le_of_ble_eq_true rfl⟩ (by show _ ≤ 16500; omega) (by show _ ≤ 97000; omega) dL_carded_486) (fun _ z => z.elim) (rfl : _ = 489) (fun v_486 H486_20 hq_486 o_486 => ?_)
    obtain rfl := hq_486
    have o0 := o0.tr (o_486.mono (fun _ _ z => z.elim))
    have hJ1 := hJ.new o0
    refine V_bipush Y.1 (v := -13) dL_carded_489 (rfl : _ = 491) (by decide) ?_
    refine V_icmp_ne Y.1 (tgt := 646) dL_carded_491 (by decide) (rfl : _ = 494) (fun c_n => absurd rfl c_n) (fun _ => ?_)
    refine V_aload_n Y.1 3 dL_carded_494 (rfl : _ = 495) rfl rfl ?_
    refine V_iload_n Y.1 2 dL_carded_495 (rfl : _ = 496) rfl rfl ?_
    refine V_cI Y (sW Z (c_N_isReduced l D kA Hs σ _ hJ1.ag a M s n t q u p no go ns X (nI n) hJ1 hnt (bc_n hq)) mh_L_isReduced si_L_279 rfl rfl (Nat.le_of_ble_eq_true rfl) ⟨Nat.le_of_ble_eq_true rfl, Nat.le_of_ble_eq_true rfl⟩ (by show _ ≤ 16500; omega) (by show _ ≤ 97000; omega) dL_carded_496) (fun _ z => z.elim) (rfl : _ = 499) (fun v_496 H496_28 hq_496 o_496 => ?_)
    obtain rfl := hq_496
    have o0 := o0.tr (o_496.mono (fun _ _ z => z.elim))
    have hJ1 := hJ.new o0
    refine V_bipush Y.1 (v := -11) dL_carded_499 (rfl : _ = 501) (by decide) ?_
    refine V_icmp_ne Y.1 (tgt := 646) dL_carded_501 (by decide) (rfl : _ = 504) (fun c_n => absurd rfl c_n) (fun _ => ?_)
    refine V_aload_n Y.1 3 dL_carded_504 (rfl : _ = 505) rfl rfl ?_
    refine V_iconst Y.1 (v := -1) dL_carded_505 (rfl : _ = 506) (by decide) ?_
    refine V_cI Y (sW Z (c_N_balance l D kA Hs σ _ hJ1.ag a M s n t q u p no go ns X (-1) hJ1 hnt (bc_m M)) mh_L_balance si_L_236 rfl rfl (Nat.le_of_ble_eq_true rfl) ⟨Nat.le_of_ble_eq_true rfl, Nat.le_of_ble_eq_true rfl⟩ (by show _ ≤ 16500; omega) (by show _ ≤ 97000; omega) dL_carded_506) (fun _ z => z.elim) (rfl : _ = 509) (fun v_506 H506_36 hq_506 o_506 => ?_)
    obtain rfl := hq_506
    have o0 := o0.tr (o_506.mono (fun _ _ z => z.elim))
    have hJ1 := hJ.new o0
    refine V_sipush Y.1 (v := -30011) dL_carded_509 (rfl : _ = 512) (by decide) ?_
    refine V_icmp_ne Y.1 (tgt := 646) dL_carded_512 (by decide) (rfl : _ = 515) (fun c_n => absurd rfl c_n) (fun _ => ?_)
    refine V_aload_n Y.1 3 dL_carded_515 (rfl : _ = 516) rfl rfl ?_
    refine V_iload_n Y.1 2 dL_carded_516 (rfl : _ = 517) rfl rfl ?_
    refine V_cI Y (sW Z (c_N_isOnTrip l D kA Hs σ _ hJ1.ag a M s n t q u p no go ns X (nI n) hJ1 hnt (bc_n hq)) mh_L_isOnTrip si_L_234 rfl rfl (Nat.le_of_ble_eq_true rfl) ⟨Nat.le_of_ble_eq_true rfl, Nat.le_of_ble_eq_true rfl⟩ (by show _ ≤ 16500; omega) (by show _ ≤ 97000; omega) dL_carded_517) (fun _ z => z.elim) (rfl : _ = 520) (fun v_517 H517_44 hq_517 o_517 => ?_)
    obtain rfl := hq_517
    have o0 := o0.tr (o_517.mono (fun _ _ z => z.elim))
    have hJ1 := hJ.new o0
    refine V_bipush Y.1 (v := -11) dL_carded_520 (rfl : _ = 522) (by decide) ?_
    refine V_icmp_ne Y.1 (tgt := 646) dL_carded_522 (by decide) (rfl : _ = 525) (fun c_n => absurd rfl c_n) (fun _ => ?_)
    refine V_aload_n Y.1 3 dL_carded_525 (rfl : _ = 526) rfl rfl ?_
    refine V_iload_n Y.1 2 dL_carded_526 (rfl : _ = 527) rfl rfl ?_
    refine V_cI Y (sW Z (c_N_tripStart l D kA Hs σ _ hJ1.ag a M s n t q u p no go ns X (nI n) hJ1 hnt (bc_n hq)) mh_L_tripStart si_L_247 rfl rfl (Nat.le_of_ble_eq_true rfl) ⟨Nat.le_of_ble_eq_true rfl, Nat.le_of_ble_eq_true rfl⟩ (by show _ ≤ 16500; omega) (by show _ ≤ 97000; omega) dL_carded_527) (fun _ z => z.elim) (rfl : _ = 530) (fun v_527 H527_52 hq_527 o_527 => ?_)
    obtain rfl := hq_527
    have o0 := o0.tr (o_527.mono (fun _ _ z => z.elim))
    have hJ1 := hJ.new o0
    refine V_bipush Y.1 (v := -11) dL_carded_530 (rfl : _ = 532) (by decide) ?_
    refine V_icmp_ne Y.1 (tgt := 646) dL_carded_532 (by decide) (rfl : _ = 535) (fun c_n => absurd rfl c_n) (fun _ => ?_)
    refine V_aload_n Y.1 3 dL_carded_535 (rfl : _ = 536) rfl rfl ?_
    refine V_iload_n Y.1 2 dL_carded_536 (rfl : _ = 537) rfl rfl ?_
    refine V_cI Y (sW Z (c_N_journeyStart l D kA Hs σ _ hJ1.ag a M s n t q u p no go ns X (nI n) hJ1 hnt (bc_n hq)) mh_L_journeyStart si_L_249 rfl rfl (Nat.le_of_ble_eq_true rfl) ⟨Nat.le_of_ble_eq_true rfl, Nat.le_of_ble_eq_true rfl⟩ (by show _ ≤ 16500; omega) (by show _ ≤ 97000; omega) dL_carded_537) (fun _ z => z.elim) (rfl : _ = 540) (fun v_537 H537_60 hq_537 o_537 => ?_)
    obtain rfl := hq_537
    have o0 := o0.tr (o_537.mono (fun _ _ z => z.elim))
    have hJ1 := hJ.new o0
    refine V_bipush Y.1 (v := -11) dL_carded_540 (rfl : _ = 542) (by decide) ?_
    refine V_icmp_ne Y.1 (tgt := 646) dL_carded_542 (by decide) (rfl : _ = 545) (fun c_n => absurd rfl c_n) (fun _ => ?_)
    refine V_aload_n Y.1 3 dL_carded_545 (rfl : _ = 546) rfl rfl ?_
    refine V_iload_n Y.1 2 dL_carded_546 (rfl : _ = 547) rfl rfl ?_
    refine V_cI Y (sW Z (c_N_minutesLeft l D kA Hs σ _ hJ1.ag a M s n t q u p no go ns X (nI n) hJ1 hnt (bc_n hq)) mh_L_minutesLeft si_L_251 rfl rfl (Nat.le_of_ble_eq_true rfl) ⟨Nat.le_of_ble_eq_true rfl, Nat.le_of_ble_eq_true rfl⟩ (by show _ ≤ 16500; omega) (by show _ ≤ 97000; omega) dL_carded_547) (fun _ z => z.elim) (rfl : _ = 550) (fun v_547 H547_68 hq_547 o_547 => ?_)
    obtain rfl := hq_547
    have o0 := o0.tr (o_547.mono (fun _ _ z => z.elim))
    have hJ1 := hJ.new o0
    refine V_bipush Y.1 (v := -11) dL_carded_550 (rfl : _ = 552) (by decide) ?_
    refine V_icmp_ne Y.1 (tgt := 646) dL_carded_552 (by decide) (rfl : _ = 555) (fun c_n => absurd rfl c_n) (fun _ => ?_)
    refine V_aload_n Y.1 3 dL_carded_555 (rfl : _ = 556) rfl rfl ?_
    refine V_iload_n Y.1 2 dL_carded_556 (rfl : _ = 557) rfl rfl ?_
    refine V_iconst Y.1 (v := 0) dL_carded_557 (rfl : _ = 558) (by decide) ?_
    refine V_cI Y (sW Z (c_N_continues l D kA Hs σ _ hJ1.ag a M s n t q u p no go ns X (nI n) 0 hJ1 hnt (Or.inl (bc_n hq))) mh_L_continues si_L_260 rfl rfl (Nat.le_of_ble_eq_true rfl) ⟨Nat.le_of_ble_eq_true rfl, Nat.le_of_ble_eq_true rfl⟩ (by show _ ≤ 16500; omega) (by show _ ≤ 97000; omega) dL_carded_558) (fun _ z => z.elim) (rfl : _ = 561) (fun v_558 H558_77 hq_558 o_558 => ?_)
    obtain rfl := hq_558
    have o0 := o0.tr (o_558.mono (fun _ _ z => z.elim))
    have hJ1 := hJ.new o0
    refine V_bipush Y.1 (v := -11) dL_carded_561 (rfl : _ = 563) (by decide) ?_
    refine V_icmp_ne Y.1 (tgt := 646) dL_carded_563 (by decide) (rfl : _ = 566) (fun c_n => absurd rfl c_n) (fun _ => ?_)
    refine V_aload_n Y.1 3 dL_carded_566 (rfl : _ = 567) rfl rfl ?_
    refine V_iconst Y.1 (v := 0) dL_carded_567 (rfl : _ = 568) (by decide) ?_
    refine V_bipush Y.1 (v := 12) dL_carded_568 (rfl : _ = 570) (by decide) ?_
    refine V_cI Y (sW Z (c_N_continues l D kA Hs σ _ hJ1.ag a M s n t q u p no go ns X 0 12 hJ1 hnt (Or.inr bs_12)) mh_L_continues si_L_260 rfl rfl (Nat.le_of_ble_eq_true rfl) ⟨Nat.le_of_ble_eq_true rfl, Nat.le_of_ble_eq_true rfl⟩ (by show _ ≤ 16500; omega) (by show _ ≤ 97000; omega) dL_carded_570) (fun _ z => z.elim) (rfl : _ = 573) (fun v_570 H570_86 hq_570 o_570 => ?_)
    obtain rfl := hq_570
    have o0 := o0.tr (o_570.mono (fun _ _ z => z.elim))
    have hJ1 := hJ.new o0
    refine V_bipush Y.1 (v := -11) dL_carded_573 (rfl : _ = 575) (by decide) ?_
    refine V_icmp_ne Y.1 (tgt := 646) dL_carded_575 (by decide) (rfl : _ = 578) (fun c_n => absurd rfl c_n) (fun _ => ?_)
    refine V_aload_n Y.1 3 dL_carded_578 (rfl : _ = 579) rfl rfl ?_
    refine V_iload_n Y.1 2 dL_carded_579 (rfl : _ = 580) rfl rfl ?_
    refine V_iconst Y.1 (v := 0) dL_carded_580 (rfl : _ = 581) (by decide) ?_
    refine V_cI Y (sW Z (c_N_chargeIf l D kA Hs σ _ hJ1.ag a M s n t q u p no go ns X (nI n) 0 hJ1 hnt (Or.inr (bc_n hq))) mh_L_chargeIf si_L_253 rfl rfl (Nat.le_of_ble_eq_true rfl) ⟨Nat.le_of_ble_eq_true rfl, Nat.le_of_ble_eq_true rfl⟩ (by show _ ≤ 16500; omega) (by show _ ≤ 97000; omega) dL_carded_581) (fun _ z => z.elim) (rfl : _ = 584) (fun v_581 H581_95 hq_581 o_581 => ?_)
    obtain rfl := hq_581
    have o0 := o0.tr (o_581.mono (fun _ _ z => z.elim))
    have hJ1 := hJ.new o0
    refine V_bipush Y.1 (v := -11) dL_carded_584 (rfl : _ = 586) (by decide) ?_
    refine V_icmp_ne Y.1 (tgt := 646) dL_carded_586 (by decide) (rfl : _ = 589) (fun c_n => absurd rfl c_n) (fun _ => ?_)
    refine V_aload_n Y.1 3 dL_carded_589 (rfl : _ = 590) rfl rfl ?_
    refine V_iconst Y.1 (v := 0) dL_carded_590 (rfl : _ = 591) (by decide) ?_
    refine V_iconst Y.1 (v := -1) dL_carded_591 (rfl : _ = 592) (by decide) ?_
    refine V_cI Y (sW Z (c_N_chargeIf l D kA Hs σ _ hJ1.ag a M s n t q u p no go ns X 0 (-1) hJ1 hnt (Or.inl bs_m)) mh_L_chargeIf si_L_253 rfl rfl (Nat.le_of_ble_eq_true rfl) ⟨Nat.le_of_ble_eq_true rfl, Nat.le_of_ble_eq_true rfl⟩ (by show _ ≤ 16500; omega) (by show _ ≤ 97000; omega) dL_carded_592) (fun _ z => z.elim) (rfl : _ = 595) (fun v_592 H592_104 hq_592 o_592 => ?_)
    obtain rfl := hq_592
    have o0 := o0.tr (o_592.mono (fun _ _ z => z.elim))
    have hJ1 := hJ.new o0
    refine V_bipush Y.1 (v := -11) dL_carded_595 (rfl : _ = 597) (by decide) ?_
    refine V_icmp_ne Y.1 (tgt := 646) dL_carded_597 (by decide) (rfl : _ = 600) (fun c_n => absurd rfl c_n) (fun _ => ?_)
    refine V_aload_n Y.1 3 dL_carded_600 (rfl : _ = 601) rfl rfl ?_
    refine V_iload_n Y.1 2 dL_carded_601 (rfl : _ = 602) rfl rfl ?_
    refine V_iconst Y.1 (v := 0) dL_carded_602 (rfl : _ = 603) (by decide) ?_
    refine V_cI Y (sW Z (c_N_chargedOn l D kA Hs σ _ hJ1.ag a M s n t q u p no go ns X (nI n) 0 hJ1 hnt (bc_n hq)) mh_L_chargedOn si_L_232 rfl rfl (Nat.le_of_ble_eq_true rfl) ⟨Nat.le_of_ble_eq_true rfl, Nat.le_of_ble_eq_true rfl⟩ (by show _ ≤ 16500; omega) (by show _ ≤ 97000; omega) dL_carded_603) (fun _ z => z.elim) (rfl : _ = 606) (fun v_603 H603_113 hq_603 o_603 => ?_)
    obtain rfl := hq_603
    have o0 := o0.tr (o_603.mono (fun _ _ z => z.elim))
    have hJ1 := hJ.new o0
    refine V_bipush Y.1 (v := -11) dL_carded_606 (rfl : _ = 608) (by decide) ?_
    refine V_icmp_ne Y.1 (tgt := 646) dL_carded_608 (by decide) (rfl : _ = 611) (fun c_n => absurd rfl c_n) (fun _ => ?_)
    refine V_aload_n Y.1 3 dL_carded_611 (rfl : _ = 612) rfl rfl ?_
    refine V_iload_n Y.1 2 dL_carded_612 (rfl : _ = 613) rfl rfl ?_
    refine V_iconst Y.1 (v := -1) dL_carded_613 (rfl : _ = 614) (by decide) ?_
    refine V_cI Y (sW Z (c_N_byRecords l D kA Hs σ _ hJ1.ag a M s n t q u p no go ns X (nI n) (-1) hJ1 hnt (bc_n hq)) mh_L_byRecords si_L_244 rfl rfl (Nat.le_of_ble_eq_true rfl) ⟨Nat.le_of_ble_eq_true rfl, Nat.le_of_ble_eq_true rfl⟩ (by show _ ≤ 16500; omega) (by show _ ≤ 97000; omega) dL_carded_614) (fun _ z => z.elim) (rfl : _ = 617) (fun v_614 H614_122 hq_614 o_614 => ?_)
    obtain rfl := hq_614
    have o0 := o0.tr (o_614.mono (fun _ _ z => z.elim))
    have hJ1 := hJ.new o0
    refine V_bipush Y.1 (v := -11) dL_carded_617 (rfl : _ = 619) (by decide) ?_
    refine V_icmp_ne Y.1 (tgt := 646) dL_carded_619 (by decide) (rfl : _ = 622) (fun c_n => absurd rfl c_n) (fun _ => ?_)
    refine V_aload_n Y.1 3 dL_carded_622 (rfl : _ = 623) rfl rfl ?_
    refine V_iload_n Y.1 2 dL_carded_623 (rfl : _ = 624) rfl rfl ?_
    refine V_cI Y (sW Z (c_N_left l D kA Hs σ _ hJ1.ag a M s n t q u p no go ns X (nI n) hJ1 hnt (bc_n hq)) mh_L_left si_L_238 rfl rfl (Nat.le_of_ble_eq_true rfl) ⟨Nat.le_of_ble_eq_true rfl, Nat.le_of_ble_eq_true rfl⟩ (by show _ ≤ 16500; omega) (by show _ ≤ 97000; omega) dL_carded_624) (fun _ z => z.elim) (rfl : _ = 627) (fun v_624 H624_130 hq_624 o_624 => ?_)
    obtain rfl := hq_624
    have o0 := o0.tr (o_624.mono (fun _ _ z => z.elim))
    have hJ1 := hJ.new o0
    refine V_bipush Y.1 (v := -11) dL_carded_627 (rfl : _ = 629) (by decide) ?_
    refine V_icmp_ne Y.1 (tgt := 646) dL_carded_629 (by decide) (rfl : _ = 632) (fun c_n => absurd rfl c_n) (fun _ => ?_)
    refine V_aload_n Y.1 3 dL_carded_632 (rfl : _ = 633) rfl rfl ?_
    refine V_iload_n Y.1 2 dL_carded_633 (rfl : _ = 634) rfl rfl ?_
    refine V_cI Y (sW Z (c_N_isRepairable l D kA Hs σ _ hJ1.ag a M s n t q u p no go ns X (nI n) hJ1 hnt (bc_n hq)) mh_L_isRepairable si_L_281 rfl rfl (Nat.le_of_ble_eq_true rfl) ⟨Nat.le_of_ble_eq_true rfl, Nat.le_of_ble_eq_true rfl⟩ (by show _ ≤ 16500; omega) (by show _ ≤ 97000; omega) dL_carded_634) (fun _ z => z.elim) (rfl : _ = 637) (fun v_634 H634_138 hq_634 o_634 => ?_)
    obtain rfl := hq_634
    have o0 := o0.tr (o_634.mono (fun _ _ z => z.elim))
    have hJ1 := hJ.new o0
    refine V_bipush Y.1 (v := -11) dL_carded_637 (rfl : _ = 639) (by decide) ?_
    refine V_icmp_ne Y.1 (tgt := 646) dL_carded_639 (by decide) (rfl : _ = 642) (fun c_n => absurd rfl c_n) (fun _ => ?_)
    refine V_iconst Y.1 (v := 1) dL_carded_642 (rfl : _ = 643) (by decide) ?_
    refine V_goto Y.1 (tgt := 647) dL_carded_643 (by decide) ?_
    exact V_ret Y.1 dL_carded_647 rfl (by omega) (by omega) rfl
  have outer : ∀ (r c : Nat) (H : Heap), c + r = n → off nof H0 H → V Pp l Ee (rmO 12 210 16500 97000) Ss Mm Ar Bl Me Cc 9 (AA H0 (nof)) (QC Bl Ar Ss 16500 97000 H0 (nof) (pI fun v9 H => v9 = 1)) H (2000 * c) (12000 * c) 9 [(3, .int (nI c)), (2, .int (m_bal M c)), (1, .int (nI n)), (0, .ref a)] [] := by
    intro r
    induction r with
    | zero =>
      intro c H hr o0
      obtain rfl : c = n := by omega
      refine V_iload_n Y.1 0 dL_carded_9 (rfl : _ = 10) rfl rfl ?_
      refine V_iload_n Y.1 2 dL_carded_10 (rfl : _ = 11) rfl rfl ?_
      refine V_icmp_ge Y.1 (tgt := 449) dL_carded_11 (by decide) (rfl : _ = 14) (fun _ => ?_) (fun c_n => absurd (Int32.le_refl _) c_n)
      exact V_forget (ls' := [(2, _), (1, _), (0, _)]) [1, 2, 3] rfl (V_widen (by omega) (by omega) (tail H o0))
    | succ r ih =>
      intro c H hr o0
      have hc : c < n := by omega
      obtain ⟨hsc, hsp, hsb⟩ := hal c hc
      have hsa := hq.1.2 c hc
      have hcp := hsc.cp (t / 1440) (by omega) (Nat.le_refl _)
      have hcap := k_cap_le (M.2.2.2.1 c)
      have emb : m_bal M c + (M.2.2.2.1 c).1 1 = m_bal M (c + 1) := rfl
      have rk : ∀ H, off nof H0 H → V Pp l Ee (rmO 12 210 16500 97000) Ss Mm Ar Bl Me Cc 9 (AA H0 (nof)) (QC Bl Ar Ss 16500 97000 H0 (nof) (pI fun v9 H => v9 = 1)) H (2000 * c + 1810) (12000 * c + 10720) 338 [(3, .int (nI c)), (2, .int (m_bal M (c + 1))), (1, .int (nI n)), (0, .ref a)] [] := by
        intro H o0
        have hJ1 := hJ.new o0
        have hi9 := caB_ok M (t / 1440) hc
        refine V_iload_n Y.1 0 dL_carded_338 (rfl : _ = 339) rfl rfl ?_
        refine V_if_ne Y.1 (tgt := 346) dL_carded_339 (by decide) (rfl : _ = 342) (fun c_339 => ?_) (fun c_339 => ?_)
        · have hc0 : 0 < c := Nat.pos_of_ne_zero (fun e9 => c_339 (by rw [e9]; rfl))
          have hb9 := caB_ok M (t / 1440) (show c - 1 < n by omega)
          have hah := ca_ahead M (t / 1440) hc0 hc
          obtain ⟨sb1, -, bb1⟩ := hal _ hb9.1
          obtain ⟨sb2, -, bb2⟩ := hal _ hi9.1
          have sb3 := sb1.cp (t / 1440) (by omega) (Nat.le_refl _)
          have sb4 := sb2.cp (t / 1440) (by omega) (Nat.le_refl _)
          have sb5 := k_cap_le (M.2.2.2.1 (caB M (t / 1440) n (c - 1)))
          have sb6 := k_cap_le (M.2.2.2.1 (caB M (t / 1440) n c))
          have bb3 := bb1.1
          have bb4 := bb1.2.2.1
          have bb5 := bb2.1
          have bb6 := bb2.2.2.1
          have eS := i_sub (a := k_sumOf (M.2.2.2.1 (caB M (t / 1440) n (c - 1))) (t / 1440)) (b := k_sumOf (M.2.2.2.1 (caB M (t / 1440) n c)) (t / 1440)) (by omega) (by omega)
          have eC := i_sub (a := (M.2.2.2.1 (caB M (t / 1440) n c)).1 1) (b := (M.2.2.2.1 (caB M (t / 1440) n (c - 1))).1 1) (by omega) (by omega)
          refine V_aload_n Y.1 3 dL_carded_346 (rfl : _ = 347) rfl rfl ?_
          refine V_iload_n Y.1 0 dL_carded_347 (rfl : _ = 348) rfl rfl ?_
          refine V_iconst Y.1 (v := 1) dL_carded_348 (rfl : _ = 349) (by decide) ?_
          refine V_isub Y.1 dL_carded_349 (rfl : _ = 350) ?_
          refine V_nm (v := nI (c - 1)) (pk_sub (b := 1) (by omega)) ?_
          refine V_cPk Y (sW Z (c_Y_bySpending l D kA Hs σ _ hJ1.ag a M s n t q u p no go ns X (c - 1) hJ1 hnt (by omega)) mh_L_bySpending si_L_263 rfl rfl (Nat.le_of_ble_eq_true rfl) ⟨Nat.le_of_ble_eq_true rfl, Nat.le_of_ble_eq_true rfl⟩ (by show _ ≤ 16500; omega) (by show _ ≤ 97000; omega) dL_carded_350) (fun _ z => z.elim) (rfl : _ = 353) ?_
          refine V_istore Y.1 (ls' := [(6, _), (3, _), (2, _), (1, _), (0, _)]) dL_carded_353 (rfl : _ = 355) (by decide) rfl ?_
          refine V_aload_n Y.1 4 dL_carded_355 (rfl : _ = 356) rfl rfl ?_
          refine V_iload_n Y.1 1 dL_carded_356 (rfl : _ = 357) rfl rfl ?_
          refine V_cPk Y (sW Z (c_Y_bySpending l D kA Hs σ _ hJ1.ag a M s n t q u p no go ns X c hJ1 hnt hc) mh_L_bySpending si_L_263 rfl rfl (Nat.le_of_ble_eq_true rfl) ⟨Nat.le_of_ble_eq_true rfl, Nat.le_of_ble_eq_true rfl⟩ (by show _ ≤ 16500; omega) (by show _ ≤ 97000; omega) dL_carded_357) (fun _ z => z.elim) (rfl : _ = 360) ?_
          refine V_istore Y.1 (ls' := [(7, _), (6, _), (3, _), (2, _), (1, _), (0, _)]) dL_carded_360 (rfl : _ = 362) (by decide) rfl ?_
          refine V_iload Y.1 1 dL_carded_362 (rfl : _ = 364) rfl ?_
          refine V_if_ge Y.1 (tgt := 371) dL_carded_364 (by decide) (rfl : _ = 367) (fun _ => ?_) (fun c_n => absurd (nI_pos' (by omega)) c_n)
          refine V_aload_n Y.1 5 dL_carded_371 (rfl : _ = 372) rfl rfl ?_
          refine V_iload Y.1 1 dL_carded_372 (rfl : _ = 374) rfl ?_
          refine V_aload_n Y.1 5 dL_carded_374 (rfl : _ = 375) rfl rfl ?_
          refine V_cPk Y (sV Z (c_D_day l D kA Hs σ _ hJ1.ag a M s n t q u p no go ns X hJ1 hnt) mi_X5_day vi_L_221 rfl hJ1.rcv.choose_spec rfl rfl (Nat.le_of_ble_eq_true rfl) ⟨Nat.le_of_ble_eq_true rfl, Nat.le_of_ble_eq_true rfl⟩ (by show _ ≤ 16500; omega) (by show _ ≤ 97000; omega) dL_carded_375) (fun _ z => z.elim) (rfl : _ = 378) ?_
          refine V_nm (v := nI (t / 1440)) hq.1.1.day ?_
          refine V_cPk Y (sW Z (c_Y_chargedOn l D kA Hs σ _ hJ1.ag a M s n t q u p no go ns X (caB M (t / 1440) n (c - 1)) (t / 1440) hJ1 hnt hb9.1 (by omega) (Nat.le_refl _)) mh_L_chargedOn si_L_232 rfl rfl (Nat.le_of_ble_eq_true rfl) ⟨Nat.le_of_ble_eq_true rfl, Nat.le_of_ble_eq_true rfl⟩ (by show _ ≤ 16500; omega) (by show _ ≤ 97000; omega) dL_carded_378) (fun _ z => z.elim) (rfl : _ = 381) ?_
          refine V_aload_n Y.1 5 dL_carded_381 (rfl : _ = 382) rfl rfl ?_
          refine V_iload Y.1 0 dL_carded_382 (rfl : _ = 384) rfl ?_
          refine V_aload_n Y.1 5 dL_carded_384 (rfl : _ = 385) rfl rfl ?_
          refine V_cPk Y (sV Z (c_D_day l D kA Hs σ _ hJ1.ag a M s n t q u p no go ns X hJ1 hnt) mi_X5_day vi_L_221 rfl hJ1.rcv.choose_spec rfl rfl (Nat.le_of_ble_eq_true rfl) ⟨Nat.le_of_ble_eq_true rfl, Nat.le_of_ble_eq_true rfl⟩ (by show _ ≤ 16500; omega) (by show _ ≤ 97000; omega) dL_carded_385) (fun _ z => z.elim) (rfl : _ = 388) ?_
          refine V_nm (v := nI (t / 1440)) hq.1.1.day ?_
          refine V_cPk Y (sW Z (c_Y_chargedOn l D kA Hs σ _ hJ1.ag a M s n t q u p no go ns X (caB M (t / 1440) n c) (t / 1440) hJ1 hnt hi9.1 (by omega) (Nat.le_refl _)) mh_L_chargedOn si_L_232 rfl rfl (Nat.le_of_ble_eq_true rfl) ⟨Nat.le_of_ble_eq_true rfl, Nat.le_of_ble_eq_true rfl⟩ (by show _ ≤ 16500; omega) (by show _ ≤ 97000; omega) dL_carded_388) (fun _ z => z.elim) (rfl : _ = 391) ?_
          refine V_isub Y.1 dL_carded_391 (rfl : _ = 392) ?_
          refine V_istore Y.1 (ls' := [(8, _), (7, _), (6, _), (3, _), (2, _), (1, _), (0, _)]) dL_carded_392 (rfl : _ = 394) (by decide) rfl ?_
          refine V_iload Y.1 0 dL_carded_394 (rfl : _ = 396) rfl ?_
          refine V_if_eq Y.1 (tgt := 404) dL_carded_396 (by decide) (rfl : _ = 399) (fun c_396 => ?_) (fun c_396 => ?_)
          · rw [← Int32.toInt_inj, eS, i_zero] at c_396
            refine V_aload_n Y.1 6 dL_carded_404 (rfl : _ = 405) rfl rfl ?_
            refine V_iload Y.1 1 dL_carded_405 (rfl : _ = 407) rfl ?_
            refine V_cPk Y (sW Z (c_Y_balance l D kA Hs σ _ hJ1.ag a M s n t q u p no go ns X (caB M (t / 1440) n c) hJ1 hnt hi9.1) mh_L_balance si_L_236 rfl rfl (Nat.le_of_ble_eq_true rfl) ⟨Nat.le_of_ble_eq_true rfl, Nat.le_of_ble_eq_true rfl⟩ (by show _ ≤ 16500; omega) (by show _ ≤ 97000; omega) dL_carded_407) (fun _ z => z.elim) (rfl : _ = 410) ?_
            refine V_aload_n Y.1 6 dL_carded_410 (rfl : _ = 411) rfl rfl ?_
            refine V_iload Y.1 2 dL_carded_411 (rfl : _ = 413) rfl ?_
            refine V_cPk Y (sW Z (c_Y_balance l D kA Hs σ _ hJ1.ag a M s n t q u p no go ns X (caB M (t / 1440) n (c - 1)) hJ1 hnt hb9.1) mh_L_balance si_L_236 rfl rfl (Nat.le_of_ble_eq_true rfl) ⟨Nat.le_of_ble_eq_true rfl, Nat.le_of_ble_eq_true rfl⟩ (by show _ ≤ 16500; omega) (by show _ ≤ 97000; omega) dL_carded_413) (fun _ z => z.elim) (rfl : _ = 416) ?_
            refine V_isub Y.1 dL_carded_416 (rfl : _ = 417) ?_
            refine V_istore Y.1 (ls' := [(8, _), (7, _), (6, _), (3, _), (2, _), (1, _), (0, _)]) dL_carded_417 (rfl : _ = 419) (by decide) rfl ?_
            refine V_iload Y.1 1 dL_carded_419 (rfl : _ = 421) rfl ?_
            refine V_if_lt Y.1 (tgt := 441) dL_carded_421 (by decide) (rfl : _ = 424) (fun c_n => absurd c_n (nI_pos (by omega))) (fun _ => ?_)
            refine V_iload Y.1 0 dL_carded_424 (rfl : _ = 426) rfl ?_
            refine V_if_lt Y.1 (tgt := 441) dL_carded_426 (by decide) (rfl : _ = 429) (fun c_n => absurd c_n (by rw [Int32.lt_iff_toInt_lt, eC, i_zero]; omega)) (fun _ => ?_)
            refine V_iload Y.1 0 dL_carded_429 (rfl : _ = 431) rfl ?_
            refine V_if_ne Y.1 (tgt := 443) dL_carded_431 (by decide) (rfl : _ = 434) (fun c_431 => ?_) (fun c_431 => ?_)
            · refine V_iinc Y.1 (v := nI (c + 1)) (ls' := [(3, _), (8, _), (7, _), (6, _), (2, _), (1, _), (0, _)]) 3 dL_carded_443 (rfl : _ = 446) rfl (nI_add _ 1) (by decide) rfl ?_
              refine V_goto Y.1 (tgt := 9) dL_carded_446 (by decide) ?_
              exact V_forget (ls' := [(3, _), (2, _), (1, _), (0, _)]) [0, 4, 5, 6] rfl (V_widen (by omega) (by omega) (ih (c + 1) _ (by omega) o0))
            · have c_432 := c_431
              rw [← Int32.toInt_inj, eC, i_zero] at c_432
              refine V_iload Y.1 2 dL_carded_434 (rfl : _ = 436) rfl ?_
              refine V_iload Y.1 1 dL_carded_436 (rfl : _ = 438) rfl ?_
              refine V_icmp_le Y.1 (tgt := 443) dL_carded_438 (by decide) (rfl : _ = 441) (fun _ => ?_) (fun c_n => absurd (by rw [nI_leI (by omega) (by omega)]; omega) c_n)
              refine V_iinc Y.1 (v := nI (c + 1)) (ls' := [(3, _), (8, _), (7, _), (6, _), (2, _), (1, _), (0, _)]) 3 dL_carded_443 (rfl : _ = 446) rfl (nI_add _ 1) (by decide) rfl ?_
              refine V_goto Y.1 (tgt := 9) dL_carded_446 (by decide) ?_
              exact V_forget (ls' := [(3, _), (2, _), (1, _), (0, _)]) [0, 4, 5, 6] rfl (V_widen (by omega) (by omega) (ih (c + 1) _ (by omega) o0))
          · have c_397 := c_396
            rw [← Int32.toInt_inj, eS, i_zero] at c_397
            refine V_iload Y.1 0 dL_carded_399 (rfl : _ = 401) rfl ?_
            refine V_goto Y.1 (tgt := 417) dL_carded_401 (by decide) ?_
            refine V_istore Y.1 (ls' := [(8, _), (7, _), (6, _), (3, _), (2, _), (1, _), (0, _)]) dL_carded_417 (rfl : _ = 419) (by decide) rfl ?_
            refine V_iload Y.1 1 dL_carded_419 (rfl : _ = 421) rfl ?_
            refine V_if_lt Y.1 (tgt := 441) dL_carded_421 (by decide) (rfl : _ = 424) (fun c_n => absurd c_n (nI_pos (by omega))) (fun _ => ?_)
            refine V_iload Y.1 0 dL_carded_424 (rfl : _ = 426) rfl ?_
            refine V_if_lt Y.1 (tgt := 441) dL_carded_426 (by decide) (rfl : _ = 429) (fun c_n => absurd c_n (by rw [Int32.lt_iff_toInt_lt, eS, i_zero]; omega)) (fun _ => ?_)
            refine V_iload Y.1 0 dL_carded_429 (rfl : _ = 431) rfl ?_
            refine V_if_ne Y.1 (tgt := 443) dL_carded_431 (by decide) (rfl : _ = 434) (fun _ => ?_) (fun c_n => absurd c_n c_396)
            refine V_iinc Y.1 (v := nI (c + 1)) (ls' := [(3, _), (8, _), (7, _), (6, _), (2, _), (1, _), (0, _)]) 3 dL_carded_443 (rfl : _ = 446) rfl (nI_add _ 1) (by decide) rfl ?_
            refine V_goto Y.1 (tgt := 9) dL_carded_446 (by decide) ?_
            exact V_forget (ls' := [(3, _), (2, _), (1, _), (0, _)]) [0, 4, 5, 6] rfl (V_widen (by omega) (by omega) (ih (c + 1) _ (by omega) o0))
        · refine V_iconst Y.1 (v := -1) dL_carded_342 (rfl : _ = 343) (by decide) ?_
          refine V_goto Y.1 (tgt := 353) dL_carded_343 (by decide) ?_
          refine V_istore Y.1 (ls' := [(6, _), (3, _), (2, _), (1, _), (0, _)]) dL_carded_353 (rfl : _ = 355) (by decide) rfl ?_
          refine V_aload_n Y.1 4 dL_carded_355 (rfl : _ = 356) rfl rfl ?_
          refine V_iload_n Y.1 1 dL_carded_356 (rfl : _ = 357) rfl rfl ?_
          refine V_cPk Y (sW Z (c_Y_bySpending l D kA Hs σ _ hJ1.ag a M s n t q u p no go ns X c hJ1 hnt hc) mh_L_bySpending si_L_263 rfl rfl (Nat.le_of_ble_eq_true rfl) ⟨Nat.le_of_ble_eq_true rfl, Nat.le_of_ble_eq_true rfl⟩ (by show _ ≤ 16500; omega) (by show _ ≤ 97000; omega) dL_carded_357) (fun _ z => z.elim) (rfl : _ = 360) ?_
          refine V_istore Y.1 (ls' := [(7, _), (6, _), (3, _), (2, _), (1, _), (0, _)]) dL_carded_360 (rfl : _ = 362) (by decide) rfl ?_
          refine V_iload Y.1 1 dL_carded_362 (rfl : _ = 364) rfl ?_
          refine V_if_ge Y.1 (tgt := 371) dL_carded_364 (by decide) (rfl : _ = 367) (fun c_n => absurd c_n (by decide)) (fun _ => ?_)
          refine V_iconst Y.1 (v := 1) dL_carded_367 (rfl : _ = 368) (by decide) ?_
          refine V_goto Y.1 (tgt := 392) dL_carded_368 (by decide) ?_
          refine V_istore Y.1 (ls' := [(8, _), (7, _), (6, _), (3, _), (2, _), (1, _), (0, _)]) dL_carded_392 (rfl : _ = 394) (by decide) rfl ?_
          refine V_iload Y.1 0 dL_carded_394 (rfl : _ = 396) rfl ?_
          refine V_if_eq Y.1 (tgt := 404) dL_carded_396 (by decide) (rfl : _ = 399) (fun c_n => absurd c_n (by decide)) (fun _ => ?_)
          refine V_iload Y.1 0 dL_carded_399 (rfl : _ = 401) rfl ?_
          refine V_goto Y.1 (tgt := 417) dL_carded_401 (by decide) ?_
          refine V_istore Y.1 (ls' := [(8, _), (7, _), (6, _), (3, _), (2, _), (1, _), (0, _)]) dL_carded_417 (rfl : _ = 419) (by decide) rfl ?_
          refine V_iload Y.1 1 dL_carded_419 (rfl : _ = 421) rfl ?_
          refine V_if_lt Y.1 (tgt := 441) dL_carded_421 (by decide) (rfl : _ = 424) (fun c_n => absurd c_n (nI_pos (by omega))) (fun _ => ?_)
          refine V_iload Y.1 0 dL_carded_424 (rfl : _ = 426) rfl ?_
          refine V_if_lt Y.1 (tgt := 441) dL_carded_426 (by decide) (rfl : _ = 429) (fun c_n => absurd c_n (by decide)) (fun _ => ?_)
          refine V_iload Y.1 0 dL_carded_429 (rfl : _ = 431) rfl ?_
          refine V_if_ne Y.1 (tgt := 443) dL_carded_431 (by decide) (rfl : _ = 434) (fun _ => ?_) (fun c_n => absurd c_n (by decide))
          refine V_iinc Y.1 (v := nI (c + 1)) (ls' := [(3, _), (8, _), (7, _), (6, _), (2, _), (1, _), (0, _)]) 3 dL_carded_443 (rfl : _ = 446) rfl (nI_add _ 1) (by decide) rfl ?_
          refine V_goto Y.1 (tgt := 9) dL_carded_446 (by decide) ?_
          exact V_forget (ls' := [(3, _), (2, _), (1, _), (0, _)]) [0, 4, 5, 6] rfl (V_widen (by omega) (by omega) (ih (c + 1) _ (by omega) o0))
      have st0 : (M.2.2.2.1 c).1 2 = 0 → ∀ (r w : Nat) (H : Heap), w + r = 12 → off nof H0 H → V Pp l Ee (rmO 12 210 16500 97000) Ss Mm Ar Bl Me Cc 9 (AA H0 (nof)) (QC Bl Ar Ss 16500 97000 H0 (nof) (pI fun v9 H => v9 = 1)) H (2000 * c + 250 + 130 * w) (12000 * c + 1600 + 760 * w) 245 [(6, .int (nI w)), (5, .int 0), (3, .int (nI c)), (2, .int (m_bal M (c + 1))), (1, .int (nI n)), (0, .ref a)] [] := by
        intro h2 r
        induction r with
        | zero =>
          intro w H hr o0
          obtain rfl : w = 12 := by omega
          refine V_iload Y.1 0 dL_carded_245 (rfl : _ = 247) rfl ?_
          refine V_bipush Y.1 (v := 12) dL_carded_247 (rfl : _ = 249) (by decide) ?_
          refine V_icmp_ge Y.1 (tgt := 338) dL_carded_249 (by decide) (rfl : _ = 252) (fun _ => ?_) (fun c_n => absurd (by decide) c_n)
          exact V_forget (ls' := [(3, _), (2, _), (1, _), (0, _)]) [2, 3, 4, 5] rfl (V_widen (by omega) (by omega) (rk H o0))
        | succ r ih2 =>
          intro w H hr o0
          have hJ1 := hJ.new o0
          have hw : w < 12 := by omega
          refine V_iload Y.1 0 dL_carded_245 (rfl : _ = 247) rfl ?_
          refine V_bipush Y.1 (v := 12) dL_carded_247 (rfl : _ = 249) (by decide) ?_
          refine V_icmp_ge Y.1 (tgt := 338) dL_carded_249 (by decide) (rfl : _ = 252) (fun c_n => absurd c_n (fun q9 => absurd ((nI_leI (a := 12) (b := w) (by omega) (by omega)).mp q9) (by omega))) (fun _ => ?_)
          refine V_aload_n Y.1 5 dL_carded_252 (rfl : _ = 253) rfl rfl ?_
          refine V_iload_n Y.1 2 dL_carded_253 (rfl : _ = 254) rfl rfl ?_
          refine V_iload Y.1 0 dL_carded_254 (rfl : _ = 256) rfl ?_
          refine V_cI Y (sW Z (c_Z_chargeIf l D kA Hs σ _ hJ1.ag a M s n t q u p no go ns X c w hJ1 hnt hc hw h2) mh_L_chargeIf si_L_253 rfl rfl (Nat.le_of_ble_eq_true rfl) ⟨Nat.le_of_ble_eq_true rfl, Nat.le_of_ble_eq_true rfl⟩ (by show _ ≤ 16500; omega) (by show _ ≤ 97000; omega) dL_carded_256) (fun _ z => z.elim) (rfl : _ = 259) (fun v_256 H256_6 hq_256 o_256 => ?_)
          obtain rfl := hq_256
          have o0 := o0.tr (o_256.mono (fun _ _ z => z.elim))
          have hJ1 := hJ.new o0
          refine V_istore Y.1 (ls' := [(7, _), (6, _), (5, _), (3, _), (2, _), (1, _), (0, _)]) dL_carded_259 (rfl : _ = 261) (by decide) rfl ?_
          refine V_iload Y.1 2 dL_carded_261 (rfl : _ = 263) rfl ?_
          refine V_if_eq Y.1 (tgt := 289) dL_carded_263 (by decide) (rfl : _ = 266) (fun _ => ?_) (fun c_n => absurd rfl c_n)
          refine V_bipush Y.1 (v := -13) dL_carded_289 (rfl : _ = 291) (by decide) ?_
          refine V_istore Y.1 (ls' := [(8, _), (7, _), (6, _), (5, _), (3, _), (2, _), (1, _), (0, _)]) dL_carded_291 (rfl : _ = 293) (by decide) rfl ?_
          refine V_iload Y.1 3 dL_carded_293 (rfl : _ = 295) rfl ?_
          refine V_if_eq Y.1 (tgt := 323) dL_carded_295 (by decide) (rfl : _ = 298) (fun _ => ?_) (fun c_n => absurd rfl c_n)
          refine V_iload Y.1 1 dL_carded_323 (rfl : _ = 325) rfl ?_
          refine V_bipush Y.1 (v := -13) dL_carded_325 (rfl : _ = 327) (by decide) ?_
          refine V_icmp_eq Y.1 (tgt := 332) dL_carded_327 (by decide) (rfl : _ = 330) (fun _ => ?_) (fun c_n => absurd (by decide) c_n)
          refine V_iinc Y.1 (v := nI (w + 1)) (ls' := [(6, _), (8, _), (7, _), (5, _), (3, _), (2, _), (1, _), (0, _)]) 2 dL_carded_332 (rfl : _ = 335) rfl (nI_add _ 1) (by decide) rfl ?_
          refine V_goto Y.1 (tgt := 245) dL_carded_335 (by decide) ?_
          exact V_forget (ls' := [(6, _), (5, _), (3, _), (2, _), (1, _), (0, _)]) [0, 3, 4, 5, 6, 7] rfl (V_widen (by omega) (by omega) (ih2 (w + 1) _ (by omega) o0))
      have st1 : (M.2.2.2.1 c).1 2 = 1 → (j5 : Nat) → j5 < 12 → (M.2.2.2.1 c).1 5 = nI j5 → ∀ (r w : Nat) (H : Heap), w + r = 12 → off nof H0 H → V Pp l Ee (rmO 12 210 16500 97000) Ss Mm Ar Bl Me Cc 9 (AA H0 (nof)) (QC Bl Ar Ss 16500 97000 H0 (nof) (pI fun v9 H => v9 = 1)) H (2000 * c + 250 + 130 * w) (12000 * c + 1600 + 760 * w) 245 [(6, .int (nI w)), (5, .int 1), (3, .int (nI c)), (2, .int (m_bal M (c + 1))), (1, .int (nI n)), (0, .ref a)] [] := by
        intro h2 j5 hj5 e5 r
        induction r with
        | zero =>
          intro w H hr o0
          obtain rfl : w = 12 := by omega
          refine V_iload Y.1 0 dL_carded_245 (rfl : _ = 247) rfl ?_
          refine V_bipush Y.1 (v := 12) dL_carded_247 (rfl : _ = 249) (by decide) ?_
          refine V_icmp_ge Y.1 (tgt := 338) dL_carded_249 (by decide) (rfl : _ = 252) (fun _ => ?_) (fun c_n => absurd (by decide) c_n)
          exact V_forget (ls' := [(3, _), (2, _), (1, _), (0, _)]) [2, 3, 4, 5] rfl (V_widen (by omega) (by omega) (rk H o0))
        | succ r ih2 =>
          intro w H hr o0
          have hJ1 := hJ.new o0
          have hw : w < 12 := by omega
          have h2n : ¬ (M.2.2.2.1 c).1 2 = 0 := by rw [h2]; decide
          obtain ⟨ct1, ct2, ct3⟩ := trip_b hq hc h2 (hj6 c hc h2) hj5 hw
          refine V_iload Y.1 0 dL_carded_245 (rfl : _ = 247) rfl ?_
          refine V_bipush Y.1 (v := 12) dL_carded_247 (rfl : _ = 249) (by decide) ?_
          refine V_icmp_ge Y.1 (tgt := 338) dL_carded_249 (by decide) (rfl : _ = 252) (fun c_n => absurd c_n (fun q9 => absurd ((nI_leI (a := 12) (b := w) (by omega) (by omega)).mp q9) (by omega))) (fun _ => ?_)
          refine V_aload_n Y.1 5 dL_carded_252 (rfl : _ = 253) rfl rfl ?_
          refine V_iload_n Y.1 2 dL_carded_253 (rfl : _ = 254) rfl rfl ?_
          refine V_iload Y.1 0 dL_carded_254 (rfl : _ = 256) rfl ?_
          refine V_cPk Y (sW Z (c_Y_chargeIf l D kA Hs σ _ hJ1.ag a M s n t q u p no go ns X c w hJ1 hnt hc hw h2n) mh_L_chargeIf si_L_253 rfl rfl (Nat.le_of_ble_eq_true rfl) ⟨Nat.le_of_ble_eq_true rfl, Nat.le_of_ble_eq_true rfl⟩ (by show _ ≤ 16500; omega) (by show _ ≤ 97000; omega) dL_carded_256) (fun _ z => z.elim) (rfl : _ = 259) ?_
          refine V_nm (v := k_trip (M.2.2.2.1 c) M.2.1 (M.1 7) (M.1 8) j5 w (t / 1440)) (by rw [e5, nI_clamp (by omega)]) ?_
          refine V_istore Y.1 (ls' := [(7, _), (6, _), (5, _), (3, _), (2, _), (1, _), (0, _)]) dL_carded_259 (rfl : _ = 261) (by decide) rfl ?_
          refine V_iload Y.1 2 dL_carded_261 (rfl : _ = 263) rfl ?_
          refine V_if_eq Y.1 (tgt := 289) dL_carded_263 (by decide) (rfl : _ = 266) (fun c_n => absurd c_n (by decide)) (fun _ => ?_)
          refine V_aload_n Y.1 6 dL_carded_266 (rfl : _ = 267) rfl rfl ?_
          refine V_iload_n Y.1 3 dL_carded_267 (rfl : _ = 268) rfl rfl ?_
          refine V_cPk Y (sW Z (c_Y_left l D kA Hs σ _ hJ1.ag a M s n t q u p no go ns X c hJ1 hnt hc) mh_L_left si_L_238 rfl rfl (Nat.le_of_ble_eq_true rfl) ⟨Nat.le_of_ble_eq_true rfl, Nat.le_of_ble_eq_true rfl⟩ (by show _ ≤ 16500; omega) (by show _ ≤ 97000; omega) dL_carded_268) (fun _ z => z.elim) (rfl : _ = 271) ?_
          refine V_aload_n Y.1 6 dL_carded_271 (rfl : _ = 272) rfl rfl ?_
          refine V_iload_n Y.1 3 dL_carded_272 (rfl : _ = 273) rfl rfl ?_
          refine V_aload_n Y.1 6 dL_carded_273 (rfl : _ = 274) rfl rfl ?_
          refine V_iload_n Y.1 3 dL_carded_274 (rfl : _ = 275) rfl rfl ?_
          refine V_cPk Y (sW Z (c_Y_journeyStart l D kA Hs σ _ hJ1.ag a M s n t q u p no go ns X c hJ1 hnt hc h2n) mh_L_journeyStart si_L_249 rfl rfl (Nat.le_of_ble_eq_true rfl) ⟨Nat.le_of_ble_eq_true rfl, Nat.le_of_ble_eq_true rfl⟩ (by show _ ≤ 16500; omega) (by show _ ≤ 97000; omega) dL_carded_275) (fun _ z => z.elim) (rfl : _ = 278) ?_
          refine V_nm (v := nI j5) e5 ?_
          refine V_iload Y.1 1 dL_carded_278 (rfl : _ = 280) rfl ?_
          refine V_cI Y (sS Z (c_L_price l D kA Hs σ _ hJ1.ag a M s n t q u p no go ns X c j5 w hJ1 hnt hc hj5 hw) mi_L_price si_L_256 rfl rfl (Nat.le_of_ble_eq_true rfl) ⟨Nat.le_of_ble_eq_true rfl, Nat.le_of_ble_eq_true rfl⟩ (by show _ ≤ 16500; omega) (by show _ ≤ 97000; omega) dL_carded_280) (fun _ z => z.elim) (rfl : _ = 283) (fun v_280 H280_21 hq_280 o_280 => ?_)
          obtain rfl := hq_280
          have o0 := o0.tr (o_280.mono (fun _ _ z => z.elim))
          have hJ1 := hJ.new o0
          refine V_mmin Y.1 mw_L_170 (Nat.le_of_ble_eq_true rfl) (Nat.le_of_ble_eq_true rfl) (by show _ ≤ 16500; omega) (by show _ ≤ 97000; omega) dL_carded_283 (rfl : _ = 286) ?_
          refine V_goto Y.1 (tgt := 291) dL_carded_286 (by decide) ?_
          refine V_istore Y.1 (ls' := [(8, _), (7, _), (6, _), (5, _), (3, _), (2, _), (1, _), (0, _)]) dL_carded_291 (rfl : _ = 293) (by decide) rfl ?_
          refine V_iload Y.1 3 dL_carded_293 (rfl : _ = 295) rfl ?_
          refine V_if_eq Y.1 (tgt := 323) dL_carded_295 (by decide) (rfl : _ = 298) (fun c_n => absurd c_n (by decide)) (fun _ => ?_)
          refine V_iload Y.1 1 dL_carded_298 (rfl : _ = 300) rfl ?_
          refine V_if_lt Y.1 (tgt := 330) dL_carded_300 (by decide) (rfl : _ = 303) (fun c_n => absurd c_n ct1) (fun _ => ?_)
          refine V_iload Y.1 1 dL_carded_303 (rfl : _ = 305) rfl ?_
          refine V_iload Y.1 0 dL_carded_305 (rfl : _ = 307) rfl ?_
          refine V_icmp_gt Y.1 (tgt := 330) dL_carded_307 (by decide) (rfl : _ = 310) (fun c_n => absurd c_n ct2) (fun _ => ?_)
          refine V_aload_n Y.1 7 dL_carded_310 (rfl : _ = 311) rfl rfl ?_
          refine V_iload_n Y.1 4 dL_carded_311 (rfl : _ = 312) rfl rfl ?_
          refine V_iload Y.1 2 dL_carded_312 (rfl : _ = 314) rfl ?_
          refine V_cPk Y (sW Z (c_Y_continues l D kA Hs σ _ hJ1.ag a M s n t q u p no go ns X c w hJ1 hnt hc hw) mh_L_continues si_L_260 rfl rfl (Nat.le_of_ble_eq_true rfl) ⟨Nat.le_of_ble_eq_true rfl, Nat.le_of_ble_eq_true rfl⟩ (by show _ ≤ 16500; omega) (by show _ ≤ 97000; omega) dL_carded_314) (fun _ z => z.elim) (rfl : _ = 317) ?_
          refine V_nm (v := 0) (if_pos ct3) ?_
          refine V_if_eq Y.1 (tgt := 332) dL_carded_317 (by decide) (rfl : _ = 320) (fun _ => ?_) (fun c_n => absurd rfl c_n)
          refine V_iinc Y.1 (v := nI (w + 1)) (ls' := [(6, _), (8, _), (7, _), (5, _), (3, _), (2, _), (1, _), (0, _)]) 2 dL_carded_332 (rfl : _ = 335) rfl (nI_add _ 1) (by decide) rfl ?_
          refine V_goto Y.1 (tgt := 245) dL_carded_335 (by decide) ?_
          exact V_forget (ls' := [(6, _), (5, _), (3, _), (2, _), (1, _), (0, _)]) [0, 3, 4, 5, 6, 7] rfl (V_widen (by omega) (by omega) (ih2 (w + 1) _ (by omega) o0))
      have mid0 : (M.2.2.2.1 c).1 2 = 0 → ∀ H, off nof H0 H → V Pp l Ee (rmO 12 210 16500 97000) Ss Mm Ar Bl Me Cc 9 (AA H0 (nof)) (QC Bl Ar Ss 16500 97000 H0 (nof) (pI fun v9 H => v9 = 1)) H (2000 * c + 220) (12000 * c + 1420) 179 [(5, .int 0), (3, .int (nI c)), (2, .int (m_bal M (c + 1))), (1, .int (nI n)), (0, .ref a)] [] := by
        intro h2 H o0
        have hJ1 := hJ.new o0
        refine V_iload Y.1 0 dL_carded_179 (rfl : _ = 181) rfl ?_
        refine V_aload_n Y.1 4 dL_carded_181 (rfl : _ = 182) rfl rfl ?_
        refine V_iload_n Y.1 1 dL_carded_182 (rfl : _ = 183) rfl rfl ?_
        refine V_cI Y (sW Z (c_Z_tripStart l D kA Hs σ _ hJ1.ag a M s n t q u p no go ns X c hJ1 hnt hc h2) mh_L_tripStart si_L_247 rfl rfl (Nat.le_of_ble_eq_true rfl) ⟨Nat.le_of_ble_eq_true rfl, Nat.le_of_ble_eq_true rfl⟩ (by show _ ≤ 16500; omega) (by show _ ≤ 97000; omega) dL_carded_183) (fun _ z => z.elim) (rfl : _ = 186) (fun v_183 H183_3 hq_183 o_183 => ?_)
        obtain rfl := hq_183
        have o0 := o0.tr (o_183.mono (fun _ _ z => z.elim))
        have hJ1 := hJ.new o0
        refine V_if_lt Y.1 (tgt := 193) dL_carded_186 (by decide) (rfl : _ = 189) (fun _ => ?_) (fun c_n => absurd (by decide) c_n)
        refine V_iconst Y.1 (v := 0) dL_carded_193 (rfl : _ = 194) (by decide) ?_
        refine V_icmp_ne Y.1 (tgt := 240) dL_carded_194 (by decide) (rfl : _ = 197) (fun c_n => absurd (by decide) c_n) (fun _ => ?_)
        refine V_iload Y.1 0 dL_carded_197 (rfl : _ = 199) rfl ?_
        refine V_aload_n Y.1 4 dL_carded_199 (rfl : _ = 200) rfl rfl ?_
        refine V_iload_n Y.1 1 dL_carded_200 (rfl : _ = 201) rfl rfl ?_
        refine V_cI Y (sW Z (c_Z_journeyStart l D kA Hs σ _ hJ1.ag a M s n t q u p no go ns X c hJ1 hnt hc h2) mh_L_journeyStart si_L_249 rfl rfl (Nat.le_of_ble_eq_true rfl) ⟨Nat.le_of_ble_eq_true rfl, Nat.le_of_ble_eq_true rfl⟩ (by show _ ≤ 16500; omega) (by show _ ≤ 97000; omega) dL_carded_201) (fun _ z => z.elim) (rfl : _ = 204) (fun v_201 H201_13 hq_201 o_201 => ?_)
        obtain rfl := hq_201
        have o0 := o0.tr (o_201.mono (fun _ _ z => z.elim))
        have hJ1 := hJ.new o0
        refine V_if_lt Y.1 (tgt := 211) dL_carded_204 (by decide) (rfl : _ = 207) (fun _ => ?_) (fun c_n => absurd (by decide) c_n)
        refine V_iconst Y.1 (v := 0) dL_carded_211 (rfl : _ = 212) (by decide) ?_
        refine V_icmp_ne Y.1 (tgt := 240) dL_carded_212 (by decide) (rfl : _ = 215) (fun c_n => absurd (by decide) c_n) (fun _ => ?_)
        refine V_iload Y.1 0 dL_carded_215 (rfl : _ = 217) rfl ?_
        refine V_if_eq Y.1 (tgt := 242) dL_carded_217 (by decide) (rfl : _ = 220) (fun _ => ?_) (fun c_n => absurd rfl c_n)
        refine V_iconst Y.1 (v := 0) dL_carded_242 (rfl : _ = 243) (by decide) ?_
        refine V_istore Y.1 (ls' := [(6, _), (5, _), (3, _), (2, _), (1, _), (0, _)]) dL_carded_243 (rfl : _ = 245) (by decide) rfl ?_
        exact V_forget (ls' := [(6, _), (5, _), (3, _), (2, _), (1, _), (0, _)]) [0, 1, 2, 3, 4, 5] rfl (V_widen (by omega) (by omega) (st0 h2 12 0 _ (by omega) o0))
      have mid1 : (M.2.2.2.1 c).1 2 = 1 → ∀ H, off nof H0 H → V Pp l Ee (rmO 12 210 16500 97000) Ss Mm Ar Bl Me Cc 9 (AA H0 (nof)) (QC Bl Ar Ss 16500 97000 H0 (nof) (pI fun v9 H => v9 = 1)) H (2000 * c + 220) (12000 * c + 1420) 179 [(5, .int 1), (3, .int (nI c)), (2, .int (m_bal M (c + 1))), (1, .int (nI n)), (0, .ref a)] [] := by
        intro h2 H o0
        have hJ1 := hJ.new o0
        have h2n : ¬ (M.2.2.2.1 c).1 2 = 0 := by rw [h2]; decide
        obtain ⟨-, j3, b4, hj3, e3, -, e4, -, hb4⟩ := hsc.tr.resolve_left (fun z => h2n z.1)
        obtain ⟨⟨j5, hj5, e5, -⟩, -⟩ := hsc.jo (Or.inl h2)
        obtain ⟨b5, hb5, e45, hb6⟩ := hsa h2
        obtain rfl : b4 = b5 := (nI_eq (by omega) hb5).mp (e4.symm.trans e45)
        have eml : (M.2.2.2.1 c).1 4 + 180 - M.1 1 = nI (b4 + 180 - t) := by
          rw [e4, hq.1.1.2.1.2.1, hq.1.1.1.2.2.1, show (180 : Int32) = nI 180 from rfl, nI_add, pk_sub (by omega)]
        refine V_iload Y.1 0 dL_carded_179 (rfl : _ = 181) rfl ?_
        refine V_aload_n Y.1 4 dL_carded_181 (rfl : _ = 182) rfl rfl ?_
        refine V_iload_n Y.1 1 dL_carded_182 (rfl : _ = 183) rfl rfl ?_
        refine V_cPk Y (sW Z (c_Y_tripStart l D kA Hs σ _ hJ1.ag a M s n t q u p no go ns X c hJ1 hnt hc h2n) mh_L_tripStart si_L_247 rfl rfl (Nat.le_of_ble_eq_true rfl) ⟨Nat.le_of_ble_eq_true rfl, Nat.le_of_ble_eq_true rfl⟩ (by show _ ≤ 16500; omega) (by show _ ≤ 97000; omega) dL_carded_183) (fun _ z => z.elim) (rfl : _ = 186) ?_
        refine V_nm (v := nI j3) e3 ?_
        refine V_if_lt Y.1 (tgt := 193) dL_carded_186 (by decide) (rfl : _ = 189) (fun c_n => absurd c_n (nI_pos (by omega))) (fun _ => ?_)
        refine V_iconst Y.1 (v := 1) dL_carded_189 (rfl : _ = 190) (by decide) ?_
        refine V_goto Y.1 (tgt := 194) dL_carded_190 (by decide) ?_
        refine V_icmp_ne Y.1 (tgt := 240) dL_carded_194 (by decide) (rfl : _ = 197) (fun c_n => absurd (by decide) c_n) (fun _ => ?_)
        refine V_iload Y.1 0 dL_carded_197 (rfl : _ = 199) rfl ?_
        refine V_aload_n Y.1 4 dL_carded_199 (rfl : _ = 200) rfl rfl ?_
        refine V_iload_n Y.1 1 dL_carded_200 (rfl : _ = 201) rfl rfl ?_
        refine V_cPk Y (sW Z (c_Y_journeyStart l D kA Hs σ _ hJ1.ag a M s n t q u p no go ns X c hJ1 hnt hc h2n) mh_L_journeyStart si_L_249 rfl rfl (Nat.le_of_ble_eq_true rfl) ⟨Nat.le_of_ble_eq_true rfl, Nat.le_of_ble_eq_true rfl⟩ (by show _ ≤ 16500; omega) (by show _ ≤ 97000; omega) dL_carded_201) (fun _ z => z.elim) (rfl : _ = 204) ?_
        refine V_nm (v := nI j5) e5 ?_
        refine V_if_lt Y.1 (tgt := 211) dL_carded_204 (by decide) (rfl : _ = 207) (fun c_n => absurd c_n (nI_pos (by omega))) (fun _ => ?_)
        refine V_iconst Y.1 (v := 1) dL_carded_207 (rfl : _ = 208) (by decide) ?_
        refine V_goto Y.1 (tgt := 212) dL_carded_208 (by decide) ?_
        refine V_icmp_ne Y.1 (tgt := 240) dL_carded_212 (by decide) (rfl : _ = 215) (fun c_n => absurd (by decide) c_n) (fun _ => ?_)
        refine V_iload Y.1 0 dL_carded_215 (rfl : _ = 217) rfl ?_
        refine V_if_eq Y.1 (tgt := 242) dL_carded_217 (by decide) (rfl : _ = 220) (fun c_n => absurd c_n (by decide)) (fun _ => ?_)
        refine V_aload_n Y.1 4 dL_carded_220 (rfl : _ = 221) rfl rfl ?_
        refine V_iload_n Y.1 1 dL_carded_221 (rfl : _ = 222) rfl rfl ?_
        refine V_cPk Y (sW Z (c_Y_minutesLeft l D kA Hs σ _ hJ1.ag a M s n t q u p no go ns X c hJ1 hnt hc h2n) mh_L_minutesLeft si_L_251 rfl rfl (Nat.le_of_ble_eq_true rfl) ⟨Nat.le_of_ble_eq_true rfl, Nat.le_of_ble_eq_true rfl⟩ (by show _ ≤ 16500; omega) (by show _ ≤ 97000; omega) dL_carded_222) (fun _ z => z.elim) (rfl : _ = 225) ?_
        refine V_nm (v := nI (b4 + 180 - t)) eml ?_
        refine V_iconst Y.1 (v := 1) dL_carded_225 (rfl : _ = 226) (by decide) ?_
        refine V_icmp_lt Y.1 (tgt := 240) dL_carded_226 (by decide) (rfl : _ = 229) (fun c_n => absurd c_n (nI_nlt (a := b4 + 180 - t) (b := 1) (by omega) (by omega))) (fun _ => ?_)
        refine V_aload_n Y.1 4 dL_carded_229 (rfl : _ = 230) rfl rfl ?_
        refine V_iload_n Y.1 1 dL_carded_230 (rfl : _ = 231) rfl rfl ?_
        refine V_cPk Y (sW Z (c_Y_minutesLeft l D kA Hs σ _ hJ1.ag a M s n t q u p no go ns X c hJ1 hnt hc h2n) mh_L_minutesLeft si_L_251 rfl rfl (Nat.le_of_ble_eq_true rfl) ⟨Nat.le_of_ble_eq_true rfl, Nat.le_of_ble_eq_true rfl⟩ (by show _ ≤ 16500; omega) (by show _ ≤ 97000; omega) dL_carded_231) (fun _ z => z.elim) (rfl : _ = 234) ?_
        refine V_nm (v := nI (b4 + 180 - t)) eml ?_
        refine V_sipush Y.1 (v := 180) dL_carded_234 (rfl : _ = 237) (by decide) ?_
        refine V_icmp_le Y.1 (tgt := 242) dL_carded_237 (by decide) (rfl : _ = 240) (fun _ => ?_) (fun c_n => absurd ((nI_leI (a := b4 + 180 - t) (b := 180) (by omega) (by decide)).mpr (by omega)) c_n)
        refine V_iconst Y.1 (v := 0) dL_carded_242 (rfl : _ = 243) (by decide) ?_
        refine V_istore Y.1 (ls' := [(6, _), (5, _), (3, _), (2, _), (1, _), (0, _)]) dL_carded_243 (rfl : _ = 245) (by decide) rfl ?_
        exact V_forget (ls' := [(6, _), (5, _), (3, _), (2, _), (1, _), (0, _)]) [0, 1, 2, 3, 4, 5] rfl (V_widen (by omega) (by omega) (st1 h2 j5 hj5 e5 12 0 _ (by omega) o0))
      have days : ∀ (b5 : Int32), (∀ H, off nof H0 H → V Pp l Ee (rmO 12 210 16500 97000) Ss Mm Ar Bl Me Cc 9 (AA H0 (nof)) (QC Bl Ar Ss 16500 97000 H0 (nof) (pI fun v9 H => v9 = 1)) H (2000 * c + 220) (12000 * c + 1420) 179 [(5, .int b5), (3, .int (nI c)), (2, .int (m_bal M (c + 1))), (1, .int (nI n)), (0, .ref a)] []) → ∀ (r k : Nat) (H : Heap) (y : Int32), k + r = 6 → y.toInt = ((t / 1440 : Nat) : Int) - 4 + k → off nof H0 H → V Pp l Ee (rmO 12 210 16500 97000) Ss Mm Ar Bl Me Cc 9 (AA H0 (nof)) (QC Bl Ar Ss 16500 97000 H0 (nof) (pI fun v9 H => v9 = 1)) H (2000 * c + 100 + 20 * k) (12000 * c + 700 + 120 * k) 90 [(6, .int y), (5, .int b5), (3, .int (nI c)), (2, .int (m_bal M (c + 1))), (1, .int (nI n)), (0, .ref a)] [] := by
        intro b5 kk r
        induction r with
        | zero =>
          intro k H y hr hy o0
          have hJ1 := hJ.new o0
          obtain rfl : k = 6 := by omega
          refine V_iload Y.1 0 dL_carded_90 (rfl : _ = 92) rfl ?_
          refine V_aload_n Y.1 5 dL_carded_92 (rfl : _ = 93) rfl rfl ?_
          refine V_cPk Y (sV Z (c_D_day l D kA Hs σ _ hJ1.ag a M s n t q u p no go ns X hJ1 hnt) mi_X5_day vi_L_221 rfl hJ1.rcv.choose_spec rfl rfl (Nat.le_of_ble_eq_true rfl) ⟨Nat.le_of_ble_eq_true rfl, Nat.le_of_ble_eq_true rfl⟩ (by show _ ≤ 16500; omega) (by show _ ≤ 97000; omega) dL_carded_93) (fun _ z => z.elim) (rfl : _ = 96) ?_
          refine V_nm (v := nI (t / 1440)) hq.1.1.day ?_
          refine V_iconst Y.1 (v := 2) dL_carded_96 (rfl : _ = 97) (by decide) ?_
          refine V_iadd Y.1 dL_carded_97 (rfl : _ = 98) ?_
          refine V_nm (v := nI (t / 1440 + 2)) (nI_add _ 2) ?_
          refine V_icmp_ge Y.1 (tgt := 179) dL_carded_98 (by decide) (rfl : _ = 101) (fun _ => ?_) (fun c_n => absurd (by show nI (t / 1440 + 2) ≤ y; rw [Int32.le_iff_toInt_le, nI_toInt (by omega), hy]; omega) c_n)
          exact V_forget (ls' := [(5, _), (3, _), (2, _), (1, _), (0, _)]) [1, 2, 3, 4, 5] rfl (V_widen (by omega) (by omega) (kk H o0))
        | succ r ih3 =>
          intro k H y hr hy o0
          have hJ1 := hJ.new o0
          have e2 : (nI (t / 1440) - 2).toInt = ((t / 1440 : Nat) : Int) - 2 := by rw [i_sub] <;> rw [nI_toInt (by omega), show (2 : Int32).toInt = 2 from by decide] <;> omega
          refine V_iload Y.1 0 dL_carded_90 (rfl : _ = 92) rfl ?_
          refine V_aload_n Y.1 5 dL_carded_92 (rfl : _ = 93) rfl rfl ?_
          refine V_cPk Y (sV Z (c_D_day l D kA Hs σ _ hJ1.ag a M s n t q u p no go ns X hJ1 hnt) mi_X5_day vi_L_221 rfl hJ1.rcv.choose_spec rfl rfl (Nat.le_of_ble_eq_true rfl) ⟨Nat.le_of_ble_eq_true rfl, Nat.le_of_ble_eq_true rfl⟩ (by show _ ≤ 16500; omega) (by show _ ≤ 97000; omega) dL_carded_93) (fun _ z => z.elim) (rfl : _ = 96) ?_
          refine V_nm (v := nI (t / 1440)) hq.1.1.day ?_
          refine V_iconst Y.1 (v := 2) dL_carded_96 (rfl : _ = 97) (by decide) ?_
          refine V_iadd Y.1 dL_carded_97 (rfl : _ = 98) ?_
          refine V_nm (v := nI (t / 1440 + 2)) (nI_add _ 2) ?_
          refine V_icmp_ge Y.1 (tgt := 179) dL_carded_98 (by decide) (rfl : _ = 101) (fun c_n => absurd c_n (by show ¬ nI (t / 1440 + 2) ≤ y; rw [Int32.le_iff_toInt_le, nI_toInt (by omega), hy]; omega)) (fun _ => ?_)
          refine V_iload Y.1 0 dL_carded_101 (rfl : _ = 103) rfl ?_
          refine V_if_lt Y.1 (tgt := 126) dL_carded_103 (by decide) (rfl : _ = 106) (fun c_103 => ?_) (fun c_103 => ?_)
          · have hbad : y < 0 ∨ nI (t / 1440) < y ∨ ¬ nI (t / 1440) - 2 ≤ y := Or.inl c_103
            refine V_bipush Y.1 (v := -12) dL_carded_126 (rfl : _ = 128) (by decide) ?_
            refine V_goto Y.1 (tgt := 138) dL_carded_128 (by decide) ?_
            refine V_istore Y.1 (ls' := [(7, _), (6, _), (5, _), (3, _), (2, _), (1, _), (0, _)]) dL_carded_138 (rfl : _ = 140) (by decide) rfl ?_
            refine V_aload_n Y.1 6 dL_carded_140 (rfl : _ = 141) rfl rfl ?_
            refine V_iload_n Y.1 3 dL_carded_141 (rfl : _ = 142) rfl rfl ?_
            refine V_iload Y.1 1 dL_carded_142 (rfl : _ = 144) rfl ?_
            refine V_cI Y (sW Z (c_B_chargedOn l D kA Hs σ _ hJ1.ag a M s n t q u p no go ns X c y hJ1 hnt hc hbad) mh_L_chargedOn si_L_232 rfl rfl (Nat.le_of_ble_eq_true rfl) ⟨Nat.le_of_ble_eq_true rfl, Nat.le_of_ble_eq_true rfl⟩ (by show _ ≤ 16500; omega) (by show _ ≤ 97000; omega) dL_carded_144) (fun _ z => z.elim) (rfl : _ = 147) (fun v_144 H144_17 hq_144 o_144 => ?_)
            obtain rfl := hq_144
            have o0 := o0.tr (o_144.mono (fun _ _ z => z.elim))
            have hJ1 := hJ.new o0
            refine V_iload Y.1 0 dL_carded_147 (rfl : _ = 149) rfl ?_
            refine V_icmp_ne Y.1 (tgt := 171) dL_carded_149 (by decide) (rfl : _ = 152) (fun c_n => absurd rfl c_n) (fun _ => ?_)
            refine V_iload Y.1 0 dL_carded_152 (rfl : _ = 154) rfl ?_
            refine V_bipush Y.1 (v := -12) dL_carded_154 (rfl : _ = 156) (by decide) ?_
            refine V_icmp_ne Y.1 (tgt := 173) dL_carded_156 (by decide) (rfl : _ = 159) (fun c_n => absurd (by decide) c_n) (fun _ => ?_)
            refine V_aload_n Y.1 6 dL_carded_159 (rfl : _ = 160) rfl rfl ?_
            refine V_iload_n Y.1 3 dL_carded_160 (rfl : _ = 161) rfl rfl ?_
            refine V_iload Y.1 1 dL_carded_161 (rfl : _ = 163) rfl ?_
            refine V_cI Y (sW Z (c_B_byRecords l D kA Hs σ _ hJ1.ag a M s n t q u p no go ns X c y hJ1 hnt hc hbad) mh_L_byRecords si_L_244 rfl rfl (Nat.le_of_ble_eq_true rfl) ⟨Nat.le_of_ble_eq_true rfl, Nat.le_of_ble_eq_true rfl⟩ (by show _ ≤ 16500; omega) (by show _ ≤ 97000; omega) dL_carded_163) (fun _ z => z.elim) (rfl : _ = 166) (fun v_163 H163_29 hq_163 o_163 => ?_)
            obtain rfl := hq_163
            have o0 := o0.tr (o_163.mono (fun _ _ z => z.elim))
            have hJ1 := hJ.new o0
            refine V_bipush Y.1 (v := -12) dL_carded_166 (rfl : _ = 168) (by decide) ?_
            refine V_icmp_eq Y.1 (tgt := 173) dL_carded_168 (by decide) (rfl : _ = 171) (fun _ => ?_) (fun c_n => absurd rfl c_n)
            refine V_iinc Y.1 (ls' := [(6, _), (7, _), (5, _), (3, _), (2, _), (1, _), (0, _)]) 1 dL_carded_173 (rfl : _ = 176) rfl rfl (by decide) rfl ?_
            refine V_goto Y.1 (tgt := 90) dL_carded_176 (by decide) ?_
            exact V_forget (ls' := [(6, _), (5, _), (3, _), (2, _), (1, _), (0, _)]) [0, 2, 3, 4, 5, 6] rfl (V_widen (by omega) (by omega) (ih3 (k + 1) _ _ (by omega) (y_next hy (by omega) (by omega) (by omega)) o0))
          · refine V_iload Y.1 0 dL_carded_106 (rfl : _ = 108) rfl ?_
            refine V_aload_n Y.1 5 dL_carded_108 (rfl : _ = 109) rfl rfl ?_
            refine V_cPk Y (sV Z (c_D_day l D kA Hs σ _ hJ1.ag a M s n t q u p no go ns X hJ1 hnt) mi_X5_day vi_L_221 rfl hJ1.rcv.choose_spec rfl rfl (Nat.le_of_ble_eq_true rfl) ⟨Nat.le_of_ble_eq_true rfl, Nat.le_of_ble_eq_true rfl⟩ (by show _ ≤ 16500; omega) (by show _ ≤ 97000; omega) dL_carded_109) (fun _ z => z.elim) (rfl : _ = 112) ?_
            refine V_nm (v := nI (t / 1440)) hq.1.1.day ?_
            refine V_icmp_gt Y.1 (tgt := 126) dL_carded_112 (by decide) (rfl : _ = 115) (fun c_112 => ?_) (fun c_112 => ?_)
            · have hbad : y < 0 ∨ nI (t / 1440) < y ∨ ¬ nI (t / 1440) - 2 ≤ y := Or.inr (Or.inl c_112)
              refine V_bipush Y.1 (v := -12) dL_carded_126 (rfl : _ = 128) (by decide) ?_
              refine V_goto Y.1 (tgt := 138) dL_carded_128 (by decide) ?_
              refine V_istore Y.1 (ls' := [(7, _), (6, _), (5, _), (3, _), (2, _), (1, _), (0, _)]) dL_carded_138 (rfl : _ = 140) (by decide) rfl ?_
              refine V_aload_n Y.1 6 dL_carded_140 (rfl : _ = 141) rfl rfl ?_
              refine V_iload_n Y.1 3 dL_carded_141 (rfl : _ = 142) rfl rfl ?_
              refine V_iload Y.1 1 dL_carded_142 (rfl : _ = 144) rfl ?_
              refine V_cI Y (sW Z (c_B_chargedOn l D kA Hs σ _ hJ1.ag a M s n t q u p no go ns X c y hJ1 hnt hc hbad) mh_L_chargedOn si_L_232 rfl rfl (Nat.le_of_ble_eq_true rfl) ⟨Nat.le_of_ble_eq_true rfl, Nat.le_of_ble_eq_true rfl⟩ (by show _ ≤ 16500; omega) (by show _ ≤ 97000; omega) dL_carded_144) (fun _ z => z.elim) (rfl : _ = 147) (fun v_144 H144_50 hq_144 o_144 => ?_)
              obtain rfl := hq_144
              have o0 := o0.tr (o_144.mono (fun _ _ z => z.elim))
              have hJ1 := hJ.new o0
              refine V_iload Y.1 0 dL_carded_147 (rfl : _ = 149) rfl ?_
              refine V_icmp_ne Y.1 (tgt := 171) dL_carded_149 (by decide) (rfl : _ = 152) (fun c_n => absurd rfl c_n) (fun _ => ?_)
              refine V_iload Y.1 0 dL_carded_152 (rfl : _ = 154) rfl ?_
              refine V_bipush Y.1 (v := -12) dL_carded_154 (rfl : _ = 156) (by decide) ?_
              refine V_icmp_ne Y.1 (tgt := 173) dL_carded_156 (by decide) (rfl : _ = 159) (fun c_n => absurd (by decide) c_n) (fun _ => ?_)
              refine V_aload_n Y.1 6 dL_carded_159 (rfl : _ = 160) rfl rfl ?_
              refine V_iload_n Y.1 3 dL_carded_160 (rfl : _ = 161) rfl rfl ?_
              refine V_iload Y.1 1 dL_carded_161 (rfl : _ = 163) rfl ?_
              refine V_cI Y (sW Z (c_B_byRecords l D kA Hs σ _ hJ1.ag a M s n t q u p no go ns X c y hJ1 hnt hc hbad) mh_L_byRecords si_L_244 rfl rfl (Nat.le_of_ble_eq_true rfl) ⟨Nat.le_of_ble_eq_true rfl, Nat.le_of_ble_eq_true rfl⟩ (by show _ ≤ 16500; omega) (by show _ ≤ 97000; omega) dL_carded_163) (fun _ z => z.elim) (rfl : _ = 166) (fun v_163 H163_62 hq_163 o_163 => ?_)
              obtain rfl := hq_163
              have o0 := o0.tr (o_163.mono (fun _ _ z => z.elim))
              have hJ1 := hJ.new o0
              refine V_bipush Y.1 (v := -12) dL_carded_166 (rfl : _ = 168) (by decide) ?_
              refine V_icmp_eq Y.1 (tgt := 173) dL_carded_168 (by decide) (rfl : _ = 171) (fun _ => ?_) (fun c_n => absurd rfl c_n)
              refine V_iinc Y.1 (ls' := [(6, _), (7, _), (5, _), (3, _), (2, _), (1, _), (0, _)]) 1 dL_carded_173 (rfl : _ = 176) rfl rfl (by decide) rfl ?_
              refine V_goto Y.1 (tgt := 90) dL_carded_176 (by decide) ?_
              exact V_forget (ls' := [(6, _), (5, _), (3, _), (2, _), (1, _), (0, _)]) [0, 2, 3, 4, 5, 6] rfl (V_widen (by omega) (by omega) (ih3 (k + 1) _ _ (by omega) (y_next hy (by omega) (by omega) (by omega)) o0))
            · refine V_iload Y.1 0 dL_carded_115 (rfl : _ = 117) rfl ?_
              refine V_aload_n Y.1 5 dL_carded_117 (rfl : _ = 118) rfl rfl ?_
              refine V_cPk Y (sV Z (c_D_day l D kA Hs σ _ hJ1.ag a M s n t q u p no go ns X hJ1 hnt) mi_X5_day vi_L_221 rfl hJ1.rcv.choose_spec rfl rfl (Nat.le_of_ble_eq_true rfl) ⟨Nat.le_of_ble_eq_true rfl, Nat.le_of_ble_eq_true rfl⟩ (by show _ ≤ 16500; omega) (by show _ ≤ 97000; omega) dL_carded_118) (fun _ z => z.elim) (rfl : _ = 121) ?_
              refine V_nm (v := nI (t / 1440)) hq.1.1.day ?_
              refine V_iconst Y.1 (v := 2) dL_carded_121 (rfl : _ = 122) (by decide) ?_
              refine V_isub Y.1 dL_carded_122 (rfl : _ = 123) ?_
              refine V_icmp_ge Y.1 (tgt := 131) dL_carded_123 (by decide) (rfl : _ = 126) (fun c_123 => ?_) (fun c_123 => ?_)
              · obtain ⟨dd, hdd, rfl⟩ := nI_of c_103
                rw [nI_toInt hdd] at hy
                have hd2 : dd ≤ t / 1440 := by
                  have h9 := c_112
                  rw [nI_ltI (by omega) hdd] at h9
                  omega
                have hd1 : t / 1440 - 2 ≤ dd := by
                  have h9 : nI (t / 1440) - 2 ≤ nI dd := c_123
                  rw [Int32.le_iff_toInt_le, e2, nI_toInt hdd] at h9
                  omega
                refine V_aload_n Y.1 5 dL_carded_131 (rfl : _ = 132) rfl rfl ?_
                refine V_iload_n Y.1 2 dL_carded_132 (rfl : _ = 133) rfl rfl ?_
                refine V_iload Y.1 0 dL_carded_133 (rfl : _ = 135) rfl ?_
                refine V_cPk Y (sW Z (c_Y_byRecords l D kA Hs σ _ hJ1.ag a M s n t q u p no go ns X c dd hJ1 hnt hc hd1 hd2) mh_L_byRecords si_L_244 rfl rfl (Nat.le_of_ble_eq_true rfl) ⟨Nat.le_of_ble_eq_true rfl, Nat.le_of_ble_eq_true rfl⟩ (by show _ ≤ 16500; omega) (by show _ ≤ 97000; omega) dL_carded_135) (fun _ z => z.elim) (rfl : _ = 138) ?_
                refine V_istore Y.1 (ls' := [(7, _), (6, _), (5, _), (3, _), (2, _), (1, _), (0, _)]) dL_carded_138 (rfl : _ = 140) (by decide) rfl ?_
                refine V_aload_n Y.1 6 dL_carded_140 (rfl : _ = 141) rfl rfl ?_
                refine V_iload_n Y.1 3 dL_carded_141 (rfl : _ = 142) rfl rfl ?_
                refine V_iload Y.1 1 dL_carded_142 (rfl : _ = 144) rfl ?_
                refine V_cPk Y (sW Z (c_Y_chargedOn l D kA Hs σ _ hJ1.ag a M s n t q u p no go ns X c dd hJ1 hnt hc hd1 hd2) mh_L_chargedOn si_L_232 rfl rfl (Nat.le_of_ble_eq_true rfl) ⟨Nat.le_of_ble_eq_true rfl, Nat.le_of_ble_eq_true rfl⟩ (by show _ ≤ 16500; omega) (by show _ ≤ 97000; omega) dL_carded_144) (fun _ z => z.elim) (rfl : _ = 147) ?_
                refine V_iload Y.1 0 dL_carded_147 (rfl : _ = 149) rfl ?_
                refine V_icmp_ne Y.1 (tgt := 171) dL_carded_149 (by decide) (rfl : _ = 152) (fun c_n => absurd (hsc.rc dd hd1 hd2).symm c_n) (fun _ => ?_)
                refine V_iload Y.1 0 dL_carded_152 (rfl : _ = 154) rfl ?_
                refine V_bipush Y.1 (v := -12) dL_carded_154 (rfl : _ = 156) (by decide) ?_
                refine V_icmp_ne Y.1 (tgt := 173) dL_carded_156 (by decide) (rfl : _ = 159) (fun _ => ?_) (fun c_n => absurd c_n (by rw [hsc.rc dd hd1 hd2]; intro e9; have h9 := (hsc.cp dd hd1 hd2).1; rw [e9] at h9; exact absurd h9 (by decide)))
                refine V_iinc Y.1 (ls' := [(6, _), (7, _), (5, _), (3, _), (2, _), (1, _), (0, _)]) 1 dL_carded_173 (rfl : _ = 176) rfl rfl (by decide) rfl ?_
                refine V_goto Y.1 (tgt := 90) dL_carded_176 (by decide) ?_
                exact V_forget (ls' := [(6, _), (5, _), (3, _), (2, _), (1, _), (0, _)]) [0, 2, 3, 4, 5, 6] rfl (V_widen (by omega) (by omega) (ih3 (k + 1) _ _ (by omega) (y_next (y := nI dd) (nI_toInt hdd) (by omega) (by omega) (by omega)) o0))
              · have hbad : y < 0 ∨ nI (t / 1440) < y ∨ ¬ nI (t / 1440) - 2 ≤ y := Or.inr (Or.inr c_123)
                refine V_bipush Y.1 (v := -12) dL_carded_126 (rfl : _ = 128) (by decide) ?_
                refine V_goto Y.1 (tgt := 138) dL_carded_128 (by decide) ?_
                refine V_istore Y.1 (ls' := [(7, _), (6, _), (5, _), (3, _), (2, _), (1, _), (0, _)]) dL_carded_138 (rfl : _ = 140) (by decide) rfl ?_
                refine V_aload_n Y.1 6 dL_carded_140 (rfl : _ = 141) rfl rfl ?_
                refine V_iload_n Y.1 3 dL_carded_141 (rfl : _ = 142) rfl rfl ?_
                refine V_iload Y.1 1 dL_carded_142 (rfl : _ = 144) rfl ?_
                refine V_cI Y (sW Z (c_B_chargedOn l D kA Hs σ _ hJ1.ag a M s n t q u p no go ns X c y hJ1 hnt hc hbad) mh_L_chargedOn si_L_232 rfl rfl (Nat.le_of_ble_eq_true rfl) ⟨Nat.le_of_ble_eq_true rfl, Nat.le_of_ble_eq_true rfl⟩ (by show _ ≤ 16500; omega) (by show _ ≤ 97000; omega) dL_carded_144) (fun _ z => z.elim) (rfl : _ = 147) (fun v_144 H144_112 hq_144 o_144 => ?_)
                obtain rfl := hq_144
                have o0 := o0.tr (o_144.mono (fun _ _ z => z.elim))
                have hJ1 := hJ.new o0
                refine V_iload Y.1 0 dL_carded_147 (rfl : _ = 149) rfl ?_
                refine V_icmp_ne Y.1 (tgt := 171) dL_carded_149 (by decide) (rfl : _ = 152) (fun c_n => absurd rfl c_n) (fun _ => ?_)
                refine V_iload Y.1 0 dL_carded_152 (rfl : _ = 154) rfl ?_
                refine V_bipush Y.1 (v := -12) dL_carded_154 (rfl : _ = 156) (by decide) ?_
                refine V_icmp_ne Y.1 (tgt := 173) dL_carded_156 (by decide) (rfl : _ = 159) (fun c_n => absurd (by decide) c_n) (fun _ => ?_)
                refine V_aload_n Y.1 6 dL_carded_159 (rfl : _ = 160) rfl rfl ?_
                refine V_iload_n Y.1 3 dL_carded_160 (rfl : _ = 161) rfl rfl ?_
                refine V_iload Y.1 1 dL_carded_161 (rfl : _ = 163) rfl ?_
                refine V_cI Y (sW Z (c_B_byRecords l D kA Hs σ _ hJ1.ag a M s n t q u p no go ns X c y hJ1 hnt hc hbad) mh_L_byRecords si_L_244 rfl rfl (Nat.le_of_ble_eq_true rfl) ⟨Nat.le_of_ble_eq_true rfl, Nat.le_of_ble_eq_true rfl⟩ (by show _ ≤ 16500; omega) (by show _ ≤ 97000; omega) dL_carded_163) (fun _ z => z.elim) (rfl : _ = 166) (fun v_163 H163_124 hq_163 o_163 => ?_)
                obtain rfl := hq_163
                have o0 := o0.tr (o_163.mono (fun _ _ z => z.elim))
                have hJ1 := hJ.new o0
                refine V_bipush Y.1 (v := -12) dL_carded_166 (rfl : _ = 168) (by decide) ?_
                refine V_icmp_eq Y.1 (tgt := 173) dL_carded_168 (by decide) (rfl : _ = 171) (fun _ => ?_) (fun c_n => absurd rfl c_n)
                refine V_iinc Y.1 (ls' := [(6, _), (7, _), (5, _), (3, _), (2, _), (1, _), (0, _)]) 1 dL_carded_173 (rfl : _ = 176) rfl rfl (by decide) rfl ?_
                refine V_goto Y.1 (tgt := 90) dL_carded_176 (by decide) ?_
                exact V_forget (ls' := [(6, _), (5, _), (3, _), (2, _), (1, _), (0, _)]) [0, 2, 3, 4, 5, 6] rfl (V_widen (by omega) (by omega) (ih3 (k + 1) _ _ (by omega) (y_next hy (by omega) (by omega) (by omega)) o0))
      have beg0 : (M.2.2.2.1 c).1 2 = 0 → V Pp l Ee (rmO 12 210 16500 97000) Ss Mm Ar Bl Me Cc 9 (AA H0 (nof)) (QC Bl Ar Ss 16500 97000 H0 (nof) (pI fun v9 H => v9 = 1)) H (2000 * c) (12000 * c) 9 [(3, .int (nI c)), (2, .int (m_bal M c)), (1, .int (nI n)), (0, .ref a)] [] := by
        intro h2
        have hJ1 := hJ.new o0
        refine V_iload_n Y.1 0 dL_carded_9 (rfl : _ = 10) rfl rfl ?_
        refine V_iload_n Y.1 2 dL_carded_10 (rfl : _ = 11) rfl rfl ?_
        refine V_icmp_ge Y.1 (tgt := 449) dL_carded_11 (by decide) (rfl : _ = 14) (fun c_n => absurd c_n (fun q9 => absurd ((nI_leI (a := n) (b := c) (by omega) (by omega)).mp q9) (by omega))) (fun _ => ?_)
        refine V_aload_n Y.1 3 dL_carded_14 (rfl : _ = 15) rfl rfl ?_
        refine V_iload_n Y.1 0 dL_carded_15 (rfl : _ = 16) rfl rfl ?_
        refine V_aload_n Y.1 3 dL_carded_16 (rfl : _ = 17) rfl rfl ?_
        refine V_cPk Y (sV Z (c_D_day l D kA Hs σ _ hJ1.ag a M s n t q u p no go ns X hJ1 hnt) mi_X5_day vi_L_221 rfl hJ1.rcv.choose_spec rfl rfl (Nat.le_of_ble_eq_true rfl) ⟨Nat.le_of_ble_eq_true rfl, Nat.le_of_ble_eq_true rfl⟩ (by show _ ≤ 16500; omega) (by show _ ≤ 97000; omega) dL_carded_17) (fun _ z => z.elim) (rfl : _ = 20) ?_
        refine V_nm (v := nI (t / 1440)) hq.1.1.day ?_
        refine V_cPk Y (sW Z (c_Y_chargedOn l D kA Hs σ _ hJ1.ag a M s n t q u p no go ns X c (t / 1440) hJ1 hnt hc (by omega) (Nat.le_refl _)) mh_L_chargedOn si_L_232 rfl rfl (Nat.le_of_ble_eq_true rfl) ⟨Nat.le_of_ble_eq_true rfl, Nat.le_of_ble_eq_true rfl⟩ (by show _ ≤ 16500; omega) (by show _ ≤ 97000; omega) dL_carded_20) (fun _ z => z.elim) (rfl : _ = 23) ?_
        refine V_istore Y.1 (ls' := [(4, _), (3, _), (2, _), (1, _), (0, _)]) dL_carded_23 (rfl : _ = 25) (by decide) rfl ?_
        refine V_aload_n Y.1 4 dL_carded_25 (rfl : _ = 26) rfl rfl ?_
        refine V_iload_n Y.1 1 dL_carded_26 (rfl : _ = 27) rfl rfl ?_
        refine V_cPk Y (sW Z (c_Y_isOnTrip l D kA Hs σ _ hJ1.ag a M s n t q u p no go ns X c hJ1 hnt hc) mh_L_isOnTrip si_L_234 rfl rfl (Nat.le_of_ble_eq_true rfl) ⟨Nat.le_of_ble_eq_true rfl, Nat.le_of_ble_eq_true rfl⟩ (by show _ ≤ 16500; omega) (by show _ ≤ 97000; omega) dL_carded_27) (fun _ z => z.elim) (rfl : _ = 30) ?_
        refine V_nm (v := 0) (if_pos h2) ?_
        refine V_iconst Y.1 (v := 1) dL_carded_30 (rfl : _ = 31) (by decide) ?_
        refine V_icmp_ne Y.1 (tgt := 38) dL_carded_31 (by decide) (rfl : _ = 34) (fun _ => ?_) (fun c_n => absurd c_n (by decide))
        refine V_iconst Y.1 (v := 0) dL_carded_38 (rfl : _ = 39) (by decide) ?_
        refine V_istore Y.1 (ls' := [(5, _), (4, _), (3, _), (2, _), (1, _), (0, _)]) dL_carded_39 (rfl : _ = 41) (by decide) rfl ?_
        refine V_iload_n Y.1 3 dL_carded_41 (rfl : _ = 42) rfl rfl ?_
        refine V_aload_n Y.1 5 dL_carded_42 (rfl : _ = 43) rfl rfl ?_
        refine V_iload_n Y.1 2 dL_carded_43 (rfl : _ = 44) rfl rfl ?_
        refine V_cPk Y (sW Z (c_Y_balance l D kA Hs σ _ hJ1.ag a M s n t q u p no go ns X c hJ1 hnt hc) mh_L_balance si_L_236 rfl rfl (Nat.le_of_ble_eq_true rfl) ⟨Nat.le_of_ble_eq_true rfl, Nat.le_of_ble_eq_true rfl⟩ (by show _ ≤ 16500; omega) (by show _ ≤ 97000; omega) dL_carded_44) (fun _ z => z.elim) (rfl : _ = 47) ?_
        refine V_iadd Y.1 dL_carded_47 (rfl : _ = 48) ?_
        refine V_nm (v := m_bal M (c + 1)) emb ?_
        refine V_istore_n Y.1 (ls' := [(2, _), (5, _), (4, _), (3, _), (1, _), (0, _)]) dL_carded_48 (rfl : _ = 49) rfl (by decide) rfl ?_
        refine V_aload_n Y.1 5 dL_carded_49 (rfl : _ = 50) rfl rfl ?_
        refine V_iload_n Y.1 3 dL_carded_50 (rfl : _ = 51) rfl rfl ?_
        refine V_cPk Y (sW Z (c_Y_left l D kA Hs σ _ hJ1.ag a M s n t q u p no go ns X c hJ1 hnt hc) mh_L_left si_L_238 rfl rfl (Nat.le_of_ble_eq_true rfl) ⟨Nat.le_of_ble_eq_true rfl, Nat.le_of_ble_eq_true rfl⟩ (by show _ ≤ 16500; omega) (by show _ ≤ 97000; omega) dL_carded_51) (fun _ z => z.elim) (rfl : _ = 54) ?_
        refine V_aload_n Y.1 5 dL_carded_54 (rfl : _ = 55) rfl rfl ?_
        refine V_iload_n Y.1 3 dL_carded_55 (rfl : _ = 56) rfl rfl ?_
        refine V_cPk Y (sS Z (c_L_capOf l D kA Hs σ _ hJ1.ag a M s n t q u p no go ns X c hJ1 hnt hc) mi_L_capOf si_L_241 rfl rfl (Nat.le_of_ble_eq_true rfl) ⟨Nat.le_of_ble_eq_true rfl, Nat.le_of_ble_eq_true rfl⟩ (by show _ ≤ 16500; omega) (by show _ ≤ 97000; omega) dL_carded_56) (fun _ z => z.elim) (rfl : _ = 59) ?_
        
        refine V_iload Y.1 2 dL_carded_59 (rfl : _ = 61) rfl ?_
        refine V_isub Y.1 dL_carded_61 (rfl : _ = 62) ?_
        refine V_icmp_ne Y.1 (tgt := 80) dL_carded_62 (by decide) (rfl : _ = 65) (fun c_n => absurd rfl c_n) (fun _ => ?_)
        refine V_iload Y.1 2 dL_carded_65 (rfl : _ = 67) rfl ?_
        refine V_if_lt Y.1 (tgt := 80) dL_carded_67 (by decide) (rfl : _ = 70) (fun c_n => absurd c_n (by rw [Int32.lt_iff_toInt_lt, i_zero]; omega)) (fun _ => ?_)
        refine V_iload Y.1 2 dL_carded_70 (rfl : _ = 72) rfl ?_
        refine V_aload_n Y.1 5 dL_carded_72 (rfl : _ = 73) rfl rfl ?_
        refine V_iload_n Y.1 3 dL_carded_73 (rfl : _ = 74) rfl rfl ?_
        refine V_cPk Y (sS Z (c_L_capOf l D kA Hs σ _ hJ1.ag a M s n t q u p no go ns X c hJ1 hnt hc) mi_L_capOf si_L_241 rfl rfl (Nat.le_of_ble_eq_true rfl) ⟨Nat.le_of_ble_eq_true rfl, Nat.le_of_ble_eq_true rfl⟩ (by show _ ≤ 16500; omega) (by show _ ≤ 97000; omega) dL_carded_74) (fun _ z => z.elim) (rfl : _ = 77) ?_
        
        refine V_icmp_le Y.1 (tgt := 82) dL_carded_77 (by decide) (rfl : _ = 80) (fun _ => ?_) (fun c_n => absurd (Int32.le_iff_toInt_le.mpr hcp.2) c_n)
        refine V_aload_n Y.1 5 dL_carded_82 (rfl : _ = 83) rfl rfl ?_
        refine V_cPk Y (sV Z (c_D_day l D kA Hs σ _ hJ1.ag a M s n t q u p no go ns X hJ1 hnt) mi_X5_day vi_L_221 rfl hJ1.rcv.choose_spec rfl rfl (Nat.le_of_ble_eq_true rfl) ⟨Nat.le_of_ble_eq_true rfl, Nat.le_of_ble_eq_true rfl⟩ (by show _ ≤ 16500; omega) (by show _ ≤ 97000; omega) dL_carded_83) (fun _ z => z.elim) (rfl : _ = 86) ?_
        refine V_nm (v := nI (t / 1440)) hq.1.1.day ?_
        refine V_iconst Y.1 (v := 4) dL_carded_86 (rfl : _ = 87) (by decide) ?_
        refine V_isub Y.1 dL_carded_87 (rfl : _ = 88) ?_
        refine V_istore Y.1 (ls' := [(6, _), (2, _), (5, _), (4, _), (3, _), (1, _), (0, _)]) dL_carded_88 (rfl : _ = 90) (by decide) rfl ?_
        exact V_forget (ls' := [(6, _), (5, _), (3, _), (2, _), (1, _), (0, _)]) [0, 2, 4, 1, 5, 6] rfl (V_widen (by omega) (by omega) (days _ (mid0 h2) 6 0 _ _ (by omega) (by rw [i_sub] <;> rw [nI_toInt (by omega), show (4 : Int32).toInt = 4 from by decide] <;> omega) o0))
      have beg1 : (M.2.2.2.1 c).1 2 = 1 → V Pp l Ee (rmO 12 210 16500 97000) Ss Mm Ar Bl Me Cc 9 (AA H0 (nof)) (QC Bl Ar Ss 16500 97000 H0 (nof) (pI fun v9 H => v9 = 1)) H (2000 * c) (12000 * c) 9 [(3, .int (nI c)), (2, .int (m_bal M c)), (1, .int (nI n)), (0, .ref a)] [] := by
        intro h2
        have hJ1 := hJ.new o0
        refine V_iload_n Y.1 0 dL_carded_9 (rfl : _ = 10) rfl rfl ?_
        refine V_iload_n Y.1 2 dL_carded_10 (rfl : _ = 11) rfl rfl ?_
        refine V_icmp_ge Y.1 (tgt := 449) dL_carded_11 (by decide) (rfl : _ = 14) (fun c_n => absurd c_n (fun q9 => absurd ((nI_leI (a := n) (b := c) (by omega) (by omega)).mp q9) (by omega))) (fun _ => ?_)
        refine V_aload_n Y.1 3 dL_carded_14 (rfl : _ = 15) rfl rfl ?_
        refine V_iload_n Y.1 0 dL_carded_15 (rfl : _ = 16) rfl rfl ?_
        refine V_aload_n Y.1 3 dL_carded_16 (rfl : _ = 17) rfl rfl ?_
        refine V_cPk Y (sV Z (c_D_day l D kA Hs σ _ hJ1.ag a M s n t q u p no go ns X hJ1 hnt) mi_X5_day vi_L_221 rfl hJ1.rcv.choose_spec rfl rfl (Nat.le_of_ble_eq_true rfl) ⟨Nat.le_of_ble_eq_true rfl, Nat.le_of_ble_eq_true rfl⟩ (by show _ ≤ 16500; omega) (by show _ ≤ 97000; omega) dL_carded_17) (fun _ z => z.elim) (rfl : _ = 20) ?_
        refine V_nm (v := nI (t / 1440)) hq.1.1.day ?_
        refine V_cPk Y (sW Z (c_Y_chargedOn l D kA Hs σ _ hJ1.ag a M s n t q u p no go ns X c (t / 1440) hJ1 hnt hc (by omega) (Nat.le_refl _)) mh_L_chargedOn si_L_232 rfl rfl (Nat.le_of_ble_eq_true rfl) ⟨Nat.le_of_ble_eq_true rfl, Nat.le_of_ble_eq_true rfl⟩ (by show _ ≤ 16500; omega) (by show _ ≤ 97000; omega) dL_carded_20) (fun _ z => z.elim) (rfl : _ = 23) ?_
        refine V_istore Y.1 (ls' := [(4, _), (3, _), (2, _), (1, _), (0, _)]) dL_carded_23 (rfl : _ = 25) (by decide) rfl ?_
        refine V_aload_n Y.1 4 dL_carded_25 (rfl : _ = 26) rfl rfl ?_
        refine V_iload_n Y.1 1 dL_carded_26 (rfl : _ = 27) rfl rfl ?_
        refine V_cPk Y (sW Z (c_Y_isOnTrip l D kA Hs σ _ hJ1.ag a M s n t q u p no go ns X c hJ1 hnt hc) mh_L_isOnTrip si_L_234 rfl rfl (Nat.le_of_ble_eq_true rfl) ⟨Nat.le_of_ble_eq_true rfl, Nat.le_of_ble_eq_true rfl⟩ (by show _ ≤ 16500; omega) (by show _ ≤ 97000; omega) dL_carded_27) (fun _ z => z.elim) (rfl : _ = 30) ?_
        refine V_nm (v := 1) (if_neg (by rw [h2]; decide)) ?_
        refine V_iconst Y.1 (v := 1) dL_carded_30 (rfl : _ = 31) (by decide) ?_
        refine V_icmp_ne Y.1 (tgt := 38) dL_carded_31 (by decide) (rfl : _ = 34) (fun c_n => absurd (by decide) c_n) (fun _ => ?_)
        refine V_iconst Y.1 (v := 1) dL_carded_34 (rfl : _ = 35) (by decide) ?_
        refine V_goto Y.1 (tgt := 39) dL_carded_35 (by decide) ?_
        refine V_istore Y.1 (ls' := [(5, _), (4, _), (3, _), (2, _), (1, _), (0, _)]) dL_carded_39 (rfl : _ = 41) (by decide) rfl ?_
        refine V_iload_n Y.1 3 dL_carded_41 (rfl : _ = 42) rfl rfl ?_
        refine V_aload_n Y.1 5 dL_carded_42 (rfl : _ = 43) rfl rfl ?_
        refine V_iload_n Y.1 2 dL_carded_43 (rfl : _ = 44) rfl rfl ?_
        refine V_cPk Y (sW Z (c_Y_balance l D kA Hs σ _ hJ1.ag a M s n t q u p no go ns X c hJ1 hnt hc) mh_L_balance si_L_236 rfl rfl (Nat.le_of_ble_eq_true rfl) ⟨Nat.le_of_ble_eq_true rfl, Nat.le_of_ble_eq_true rfl⟩ (by show _ ≤ 16500; omega) (by show _ ≤ 97000; omega) dL_carded_44) (fun _ z => z.elim) (rfl : _ = 47) ?_
        refine V_iadd Y.1 dL_carded_47 (rfl : _ = 48) ?_
        refine V_nm (v := m_bal M (c + 1)) emb ?_
        refine V_istore_n Y.1 (ls' := [(2, _), (5, _), (4, _), (3, _), (1, _), (0, _)]) dL_carded_48 (rfl : _ = 49) rfl (by decide) rfl ?_
        refine V_aload_n Y.1 5 dL_carded_49 (rfl : _ = 50) rfl rfl ?_
        refine V_iload_n Y.1 3 dL_carded_50 (rfl : _ = 51) rfl rfl ?_
        refine V_cPk Y (sW Z (c_Y_left l D kA Hs σ _ hJ1.ag a M s n t q u p no go ns X c hJ1 hnt hc) mh_L_left si_L_238 rfl rfl (Nat.le_of_ble_eq_true rfl) ⟨Nat.le_of_ble_eq_true rfl, Nat.le_of_ble_eq_true rfl⟩ (by show _ ≤ 16500; omega) (by show _ ≤ 97000; omega) dL_carded_51) (fun _ z => z.elim) (rfl : _ = 54) ?_
        refine V_aload_n Y.1 5 dL_carded_54 (rfl : _ = 55) rfl rfl ?_
        refine V_iload_n Y.1 3 dL_carded_55 (rfl : _ = 56) rfl rfl ?_
        refine V_cPk Y (sS Z (c_L_capOf l D kA Hs σ _ hJ1.ag a M s n t q u p no go ns X c hJ1 hnt hc) mi_L_capOf si_L_241 rfl rfl (Nat.le_of_ble_eq_true rfl) ⟨Nat.le_of_ble_eq_true rfl, Nat.le_of_ble_eq_true rfl⟩ (by show _ ≤ 16500; omega) (by show _ ≤ 97000; omega) dL_carded_56) (fun _ z => z.elim) (rfl : _ = 59) ?_
        
        refine V_iload Y.1 2 dL_carded_59 (rfl : _ = 61) rfl ?_
        refine V_isub Y.1 dL_carded_61 (rfl : _ = 62) ?_
        refine V_icmp_ne Y.1 (tgt := 80) dL_carded_62 (by decide) (rfl : _ = 65) (fun c_n => absurd rfl c_n) (fun _ => ?_)
        refine V_iload Y.1 2 dL_carded_65 (rfl : _ = 67) rfl ?_
        refine V_if_lt Y.1 (tgt := 80) dL_carded_67 (by decide) (rfl : _ = 70) (fun c_n => absurd c_n (by rw [Int32.lt_iff_toInt_lt, i_zero]; omega)) (fun _ => ?_)
        refine V_iload Y.1 2 dL_carded_70 (rfl : _ = 72) rfl ?_
        refine V_aload_n Y.1 5 dL_carded_72 (rfl : _ = 73) rfl rfl ?_
        refine V_iload_n Y.1 3 dL_carded_73 (rfl : _ = 74) rfl rfl ?_
        refine V_cPk Y (sS Z (c_L_capOf l D kA Hs σ _ hJ1.ag a M s n t q u p no go ns X c hJ1 hnt hc) mi_L_capOf si_L_241 rfl rfl (Nat.le_of_ble_eq_true rfl) ⟨Nat.le_of_ble_eq_true rfl, Nat.le_of_ble_eq_true rfl⟩ (by show _ ≤ 16500; omega) (by show _ ≤ 97000; omega) dL_carded_74) (fun _ z => z.elim) (rfl : _ = 77) ?_
        
        refine V_icmp_le Y.1 (tgt := 82) dL_carded_77 (by decide) (rfl : _ = 80) (fun _ => ?_) (fun c_n => absurd (Int32.le_iff_toInt_le.mpr hcp.2) c_n)
        refine V_aload_n Y.1 5 dL_carded_82 (rfl : _ = 83) rfl rfl ?_
        refine V_cPk Y (sV Z (c_D_day l D kA Hs σ _ hJ1.ag a M s n t q u p no go ns X hJ1 hnt) mi_X5_day vi_L_221 rfl hJ1.rcv.choose_spec rfl rfl (Nat.le_of_ble_eq_true rfl) ⟨Nat.le_of_ble_eq_true rfl, Nat.le_of_ble_eq_true rfl⟩ (by show _ ≤ 16500; omega) (by show _ ≤ 97000; omega) dL_carded_83) (fun _ z => z.elim) (rfl : _ = 86) ?_
        refine V_nm (v := nI (t / 1440)) hq.1.1.day ?_
        refine V_iconst Y.1 (v := 4) dL_carded_86 (rfl : _ = 87) (by decide) ?_
        refine V_isub Y.1 dL_carded_87 (rfl : _ = 88) ?_
        refine V_istore Y.1 (ls' := [(6, _), (2, _), (5, _), (4, _), (3, _), (1, _), (0, _)]) dL_carded_88 (rfl : _ = 90) (by decide) rfl ?_
        exact V_forget (ls' := [(6, _), (5, _), (3, _), (2, _), (1, _), (0, _)]) [0, 2, 4, 1, 5, 6] rfl (V_widen (by omega) (by omega) (days _ (mid1 h2) 6 0 _ _ (by omega) (by rw [i_sub] <;> rw [nI_toInt (by omega), show (4 : Int32).toInt = 4 from by decide] <;> omega) o0))
      rcases hsc.tr with h2 | h2
      · exact beg0 h2.1
      · exact beg1 h2.1
  refine V_aload_n Y.1 0 dL_carded_0 (rfl : _ = 1) rfl rfl ?_
  refine V_cPk Y (sV Z (c_D_cardCount l D kA Hs σ _ hJ.ag a M s n t q u p no go ns X hJ hnt) mi_X5_cardCount vi_L_229 rfl hJ.rcv.choose_spec rfl rfl (Nat.le_of_ble_eq_true rfl) ⟨Nat.le_of_ble_eq_true rfl, Nat.le_of_ble_eq_true rfl⟩ (by show _ ≤ 16500; omega) (by show _ ≤ 97000; omega) dL_carded_1) (fun _ z => z.elim) (rfl : _ = 4) ?_
  refine V_nm (v := nI n) (hq.1.1.2.1.1.trans hq.1.1.1.1) ?_
  refine V_istore_n Y.1 (ls' := [(1, _), (0, _)]) dL_carded_4 (rfl : _ = 5) rfl (by decide) rfl ?_
  refine V_iconst Y.1 (v := 0) dL_carded_5 (rfl : _ = 6) (by decide) ?_
  refine V_istore_n Y.1 (ls' := [(2, _), (1, _), (0, _)]) dL_carded_6 (rfl : _ = 7) rfl (by decide) rfl ?_
  refine V_iconst Y.1 (v := 0) dL_carded_7 (rfl : _ = 8) (by decide) ?_
  refine V_istore_n Y.1 (ls' := [(3, _), (2, _), (1, _), (0, _)]) dL_carded_8 (rfl : _ = 9) rfl (by decide) rfl ?_
  exact V_forget (ls' := [(3, _), (2, _), (1, _), (0, _)]) [0, 1, 2, 3] rfl (outer n 0 H0 (by omega) off.rf)

