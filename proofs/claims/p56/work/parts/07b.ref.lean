theorem r_wi {i w : Nat} : (33 : Int32) + 17 * nI i + nI w = nI (33 + 17 * i + w) := by
  rw [show (33 : Int32) = nI 33 from rfl, show (17 : Int32) = nI 17 from rfl, pk_mul, nI_add, nI_add]
theorem rw_lo {s : Nat → Int32} {i w j : Nat} {x : Int32} (h : j < 33) : rw_ s i w x j = s j := if_neg (by omega)
theorem r_add_lo {s : Nat → Int32} {i d j : Nat} {x : Int32} (h : j < 33) : r_add s i d x j = s j := by rw [r_add, rw_lo h, rw_lo h]
theorem r_pay_lo {s : Nat → Int32} {i d j : Nat} {x : Int32} (h : j < 33) (h5 : j ≠ 5) : r_pay s i d x j = s j := by
  show upd _ 5 _ j = _
  rw [pk_un h5, rw_lo h, r_add_lo h]
theorem r_rem {d : Nat} (hd : d < 2 ^ 31) : nI d - nI d / 3 * 3 = nI (d % 3) := pk_rem (a := d) (d := 3) hd (by decide) (by decide)
