/-! The world at the start. -/
theorem start_know {s : State} {args : Array Value} (hts : ∀ w ∈ T0, w.before args s = true) (o0 : (Cond.arrayOver (.object RX0)).before args s = true) (o3 : (Cond.arrayOver (.object RX3)).before args s = true) : ∃ (D : va_G) (kA : Nat → ClassId), KK D kA s := by
  obtain ⟨c0, i0, k0⟩ := u_known hts in_J0 (hts _ inst_J0)
  obtain ⟨c1, i1, k1⟩ := u_known hts in_J4 (hts _ inst_J4)
  obtain ⟨c2, i2, k2⟩ := u_known hts in_Jx00060 (hts _ inst_Jx00060)
  obtain ⟨c3, i3, k3⟩ := u_known hts in_Jx7c733 (hts _ inst_Jx7c733)
  obtain ⟨c4, i4, k4⟩ := u_known hts in_X0 (hts _ inst_X0)
  obtain ⟨c5, i5, k5⟩ := u_known hts in_X1 (hts _ inst_X1)
  obtain ⟨c6, i6, k6⟩ := u_known hts in_X2 (hts _ inst_X2)
  obtain ⟨c7, i7, k7⟩ := u_known hts in_X3 (hts _ inst_X3)
  obtain ⟨c8, i8, k8⟩ := u_known hts in_X4 (hts _ inst_X4)
  obtain ⟨c9, i9, k9⟩ := u_known hts in_X5 (hts _ inst_X5)
  obtain ⟨a0, x0, y0, f0, g0, e0⟩ := Cond.arrayClass_spec (hts _ ac_int)
  obtain ⟨a1, x1, y1, f1, g1, e1⟩ := Cond.arrayClass_spec (hts _ ac_boolean)
  obtain ⟨a2, x2, y2, f2, g2, e2⟩ := Cond.arrayClass_spec (hts _ ac_long)
  obtain ⟨a3, x3, y3, f3, g3, e3⟩ := Cond.arrayClass_spec (hts _ ac_boolean)
  obtain ⟨a4, x4, y4, f4, g4, e4⟩ := Cond.arrayClass_spec (hts _ ac_byte)
  obtain ⟨y5, a5, x5, p5, -, g5, e5, f5⟩ := Cond.arrayOver_spec o3
  obtain ⟨y6, a6, x6, p6, -, g6, e6, f6⟩ := Cond.arrayOver_spec o0
  refine ⟨(fun q => match q with | 0 => c0 | 1 => c1 | 2 => c2 | 3 => c3 | 4 => c4 | 5 => c5 | 6 => c6 | 7 => c7 | 8 => c8 | 9 => c9 | _ => c9, fun q => match q with | 0 => i0 | 1 => i1 | 2 => i2 | 3 => i3 | 4 => i4 | 5 => i5 | 6 => i6 | 7 => i7 | 8 => i8 | 9 => i9 | _ => i9), fun q => match q with | 0 => a0 | 1 => a1 | 2 => a2 | 3 => a3 | 4 => a4 | 5 => a5 | 6 => a6 | _ => a6, ⟨fun c q hq => ?_, fun k q hk => ?_⟩, va_AO.of o0, va_AO.of o3⟩
  · match c, hq with
    | 0, hq => obtain rfl := Option.some.inj hq; exact k0
    | 1, hq => obtain rfl := Option.some.inj hq; exact k1
    | 2, hq => obtain rfl := Option.some.inj hq; exact k2
    | 3, hq => obtain rfl := Option.some.inj hq; exact k3
    | 4, hq => obtain rfl := Option.some.inj hq; exact k4
    | 5, hq => obtain rfl := Option.some.inj hq; exact k5
    | 6, hq => obtain rfl := Option.some.inj hq; exact k6
    | 7, hq => obtain rfl := Option.some.inj hq; exact k7
    | 8, hq => obtain rfl := Option.some.inj hq; exact k8
    | 9, hq => obtain rfl := Option.some.inj hq; exact k9
    | n + 10, hq => exact absurd hq (by simp [vwCl])
  · match k, hk with
    | 0, hk => obtain rfl := Option.some.inj hk; exact ⟨fun n z => ⟨fun k h => (by cases h), x0, g0, y0, e0⟩, f0⟩
    | 1, hk => obtain rfl := Option.some.inj hk; exact ⟨fun n z => ⟨fun k h => (by cases h), x1, g1, y1, e1⟩, f1⟩
    | 2, hk => obtain rfl := Option.some.inj hk; exact ⟨fun n z => ⟨fun k h => (by cases h), x2, g2, y2, e2⟩, f2⟩
    | 3, hk => obtain rfl := Option.some.inj hk; exact ⟨fun n z => ⟨fun k h => (by cases h), x3, g3, y3, e3⟩, f3⟩
    | 4, hk => obtain rfl := Option.some.inj hk; exact ⟨fun n z => ⟨fun k h => (by cases h), x4, g4, y4, e4⟩, f4⟩
    | 5, hk => obtain rfl := Option.some.inj hk; exact ⟨fun n z => ⟨fun k h => (by cases h), x5, g5, y5, e5⟩, x5, y5, g5, e5, p5, f5⟩
    | 6, hk => obtain rfl := Option.some.inj hk; exact ⟨fun n z => ⟨fun k h => (by cases h), x6, g6, y6, e6⟩, x6, y6, g6, e6, p6, f6⟩
    | n + 7, hk => exact absurd hk (by simp [tyA])
