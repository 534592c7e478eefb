theorem q_one_lt (s c : Nat → Int32) (i : Nat) : (q_one s c i).1 < 4 := by
  unfold q_one q_do
  by_cases h99 : c (3 * i) = 99
  · rw [if_pos h99]; exact q_issue_lt _ _
  rw [if_neg h99]
  by_cases h119 : c (3 * i) = 119
  · rw [if_pos h119]; exact q_wait_lt _ _ _ _
  rw [if_neg h119]
  by_cases h108 : c (3 * i) = 108
  · rw [if_pos h108]; exact q_load_lt _ _ _
  rw [if_neg h108]
  by_cases h105 : c (3 * i) = 105
  · rw [if_pos h105]; exact q_in_lt _ _ _ _
  rw [if_neg h105]
  by_cases h111 : c (3 * i) = 111
  · rw [if_pos h111]; exact q_out_lt _ _ _ _
  rw [if_neg h111]
  by_cases h102 : c (3 * i) = 102
  · rw [if_pos h102]; exact q_fix_lt _ _ _ _
  rw [if_neg h102]
  exact q_zone_lt _ _ _
