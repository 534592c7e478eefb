def s_zn : Nat → Nat → Int32
  | 0 => upd (upd (fun _ => 0) 2 200) 3 50
  | k + 1 => upd (s_zn k) (9 + k) (nI k / 2 + 1)
def F_ini : Nat → Int32 := fun j => if j = 13 then -1 else if j = 14 then -1 else 0
