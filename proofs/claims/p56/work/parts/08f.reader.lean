def g_type (x : Int32) (len : Nat) : Nat := if r_in x 32 126 = 0 then 1 else if len = 60 then 2 else 0
theorem q_do_99 (s : Nat → Int32) (n t : Nat) (x y : Int32) : q_do s n t 99 x y = q_issue s (if x = 1 then 1 else 0) := by unfold q_do; rw [if_pos rfl]
theorem q_do_119 (s : Nat → Int32) (n t : Nat) (x y : Int32) : q_do s n t 119 x y = q_wait s n t x := by unfold q_do; rw [if_neg (by decide), if_pos rfl]
theorem q_do_108 (s : Nat → Int32) (n t : Nat) (x y : Int32) : q_do s n t 108 x y = q_load s x y := by unfold q_do; rw [if_neg (by decide), if_neg (by decide), if_pos rfl]
theorem q_do_105 (s : Nat → Int32) (n t : Nat) (x y : Int32) : q_do s n t 105 x y = q_in s (t / 1440) x y := by unfold q_do; rw [if_neg (by decide), if_neg (by decide), if_neg (by decide), if_pos rfl]
theorem q_do_111 (s : Nat → Int32) (n t : Nat) (x y : Int32) : q_do s n t 111 x y = q_out s (t / 1440) x y := by unfold q_do; rw [if_neg (by decide), if_neg (by decide), if_neg (by decide), if_neg (by decide), if_pos rfl]
theorem q_do_102 (s : Nat → Int32) (n t : Nat) (x y : Int32) : q_do s n t 102 x y = q_fix s (t / 1440) x y := by unfold q_do; rw [if_neg (by decide), if_neg (by decide), if_neg (by decide), if_neg (by decide), if_neg (by decide), if_pos rfl]
theorem q_do_122 (s : Nat → Int32) (n t : Nat) (x y : Int32) : q_do s n t 122 x y = q_zone s x y := by unfold q_do; rw [if_neg (by decide), if_neg (by decide), if_neg (by decide), if_neg (by decide), if_neg (by decide), if_neg (by decide)]
