theorem lz_m10 (x : Int32) : x - (10 : Int32) = 0 ↔ x = 10 := by
  constructor
  · intro h
    have := congrArg (· + (10 : Int32)) h
    simpa [Int32.sub_add_cancel] using this
  · rintro rfl
    decide
theorem lz_m11 (x : Int32) : x - (10 : Int32) = 1 ↔ x = 11 := by
  constructor
  · intro h
    have := congrArg (· + (10 : Int32)) h
    simpa [Int32.sub_add_cancel] using this
  · rintro rfl
    decide
set_option maxHeartbeats 2000000 in
theorem eq_points (x0 : Int32) : (if x0 < 1 then ((-2) : Int32) else (if x0 ≤ 12 then (if (12 : Int32) < x0 then (12 : Int32) else x0) else ((-2) : Int32)) : Int32) = if x0 < 1 then ((-2) : Int32) else (if (12 : Int32) < x0 then ((-2) : Int32) else (if x0 ≤ 1 then (1 : Int32) else (if x0 ≤ 2 then (2 : Int32) else (if x0 ≤ 3 then (3 : Int32) else (if x0 ≤ 4 then (4 : Int32) else (if x0 ≤ 5 then (5 : Int32) else (if x0 ≤ 6 then (6 : Int32) else (if x0 ≤ 7 then (7 : Int32) else (if x0 ≤ 8 then (8 : Int32) else (if x0 ≤ 9 then (9 : Int32) else (if x0 ≤ 10 then (10 : Int32) else (if x0 ≤ 11 then (11 : Int32) else (12 : Int32))))))))))))) := by
  have n0 : ((-2) : Int32).toInt = -2 := by decide
  have n1 : (1 : Int32).toInt = 1 := by decide
  have n2 : (2 : Int32).toInt = 2 := by decide
  have n3 : (3 : Int32).toInt = 3 := by decide
  have n4 : (4 : Int32).toInt = 4 := by decide
  have n5 : (5 : Int32).toInt = 5 := by decide
  have n6 : (6 : Int32).toInt = 6 := by decide
  have n7 : (7 : Int32).toInt = 7 := by decide
  have n8 : (8 : Int32).toInt = 8 := by decide
  have n9 : (9 : Int32).toInt = 9 := by decide
  have n10 : (10 : Int32).toInt = 10 := by decide
  have n11 : (11 : Int32).toInt = 11 := by decide
  have n12 : (12 : Int32).toInt = 12 := by decide
  repeat' split
  all_goals first | rfl | (simp only [lz_lt, lz_le, lz_eq] at *; omega)
theorem eq_line (x0 x1 x2 : Int32) : (((-2) : Int32) : Int32) = ((-2) : Int32) := rfl
theorem eq_next (x0 : Int32) : (((-2) : Int32) : Int32) = ((-2) : Int32) := rfl
theorem eq_count (x0 : Int32) : (if x0 = 0 then (0 : Int32) else (if x0 = 1 then (0 : Int32) else (if x0 = 2 then (0 : Int32) else (if x0 = 3 then (0 : Int32) else (if x0 = 4 then (0 : Int32) else (if x0 = 5 then (0 : Int32) else (if x0 = 6 then (1 : Int32) else ((-2) : Int32))))))) : Int32) = if x0 = 0 then (0 : Int32) else (if x0 = 1 then (0 : Int32) else (if x0 = 2 then (0 : Int32) else (if x0 = 3 then (0 : Int32) else (if x0 = 4 then (0 : Int32) else (if x0 = 5 then (0 : Int32) else (if x0 = 6 then (1 : Int32) else ((-2) : Int32))))))) := rfl
theorem eq_most (x0 : Int32) : (if x0 = 0 then (0 : Int32) else ((-2) : Int32) : Int32) = if x0 = 0 then (0 : Int32) else ((-2) : Int32) := rfl
theorem eq_mate (x0 : Int32) : (((-2) : Int32) : Int32) = ((-2) : Int32) := rfl
set_option maxHeartbeats 2000000 in
theorem eq_ways (x0 : Int32) : (if x0 < 0 then ((-2) : Int32) else (if x0 ≤ 6 then (if x0 = 0 then (1 : Int32) else (0 : Int32)) else ((-2) : Int32)) : Int32) = if x0 < 0 then ((-2) : Int32) else (if (6 : Int32) < x0 then ((-2) : Int32) else (if x0 = 0 then (1 : Int32) else (0 : Int32))) := by
  have n0 : ((-2) : Int32).toInt = -2 := by decide
  have n1 : (0 : Int32).toInt = 0 := by decide
  have n2 : (1 : Int32).toInt = 1 := by decide
  have n3 : (6 : Int32).toInt = 6 := by decide
  repeat' split
  all_goals first | rfl | (simp only [lz_lt, lz_le, lz_eq] at *; omega)
theorem eq_alone (x0 x1 : Int32) : (((-2) : Int32) : Int32) = ((-2) : Int32) := rfl
theorem eq_mark (x0 : Int32) : (((-2) : Int32) : Int32) = ((-2) : Int32) := rfl
set_option maxHeartbeats 2000000 in
theorem eq_marked (x0 : Int32) : (if x0 < 0 then ((-2) : Int32) else (if x0 ≤ 2 then (0 : Int32) else ((-2) : Int32)) : Int32) = if x0 < 0 then ((-2) : Int32) else (if (2 : Int32) < x0 then ((-2) : Int32) else (0 : Int32)) := by
  have n0 : ((-2) : Int32).toInt = -2 := by decide
  have n1 : (0 : Int32).toInt = 0 := by decide
  have n2 : (2 : Int32).toInt = 2 := by decide
  repeat' split
  all_goals first | rfl | (simp only [lz_lt, lz_le, lz_eq] at *; omega)
set_option maxHeartbeats 2000000 in
theorem eq_pieces (x0 : Int32) : (if x0 = 0 then (0 : Int32) else (if x0 = 1 then (0 : Int32) else ((-2) : Int32)) : Int32) = if x0 < 0 then ((-2) : Int32) else (if (1 : Int32) < x0 then ((-2) : Int32) else (0 : Int32)) := by
  have n0 : ((-2) : Int32).toInt = -2 := by decide
  have n1 : (0 : Int32).toInt = 0 := by decide
  have n2 : (1 : Int32).toInt = 1 := by decide
  repeat' split
  all_goals first | rfl | (simp only [lz_lt, lz_le, lz_eq] at *; omega)
set_option maxHeartbeats 2000000 in
theorem eq_piece (x0 x1 x2 : Int32) : (if x0 = 0 then (if x2 = 0 then ((-1) : Int32) else (if x2 = 1 then ((-1) : Int32) else ((-2) : Int32))) else (if x0 = 1 then (if x2 = 0 then ((-1) : Int32) else (if x2 = 1 then ((-1) : Int32) else ((-2) : Int32))) else ((-2) : Int32)) : Int32) = if x0 < 0 then ((-2) : Int32) else (if (1 : Int32) < x0 then ((-2) : Int32) else (if x2 < 0 then ((-2) : Int32) else (if (1 : Int32) < x2 then ((-2) : Int32) else ((-1) : Int32)))) := by
  have n0 : ((-2) : Int32).toInt = -2 := by decide
  have n1 : ((-1) : Int32).toInt = -1 := by decide
  have n2 : (0 : Int32).toInt = 0 := by decide
  have n3 : (1 : Int32).toInt = 1 := by decide
  repeat' split
  all_goals first | rfl | (simp only [lz_lt, lz_le, lz_eq] at *; omega)
theorem eq_surplus (x0 : Int32) : (if x0 = 0 then (0 : Int32) else ((-2) : Int32) : Int32) = if x0 = 0 then (0 : Int32) else ((-2) : Int32) := rfl
theorem eq_odd (x0 : Int32) : (if x0 = 0 then (0 : Int32) else ((-2) : Int32) : Int32) = if x0 = 0 then (0 : Int32) else ((-2) : Int32) := rfl
theorem eq_barrier (x0 : Int32) : (if x0 = 0 then (1 : Int32) else ((-2) : Int32) : Int32) = if x0 = 0 then (1 : Int32) else ((-2) : Int32) := rfl
set_option maxHeartbeats 2000000 in
theorem eq_barriers (x0 : Int32) : (if x0 < 0 then ((-2) : Int32) else (if x0 ≤ 2 then (if x0 = 0 then (1 : Int32) else (0 : Int32)) else ((-2) : Int32)) : Int32) = if x0 < 0 then ((-2) : Int32) else (if (2 : Int32) < x0 then ((-2) : Int32) else (if x0 = 0 then (1 : Int32) else (0 : Int32))) := by
  have n0 : ((-2) : Int32).toInt = -2 := by decide
  have n1 : (0 : Int32).toInt = 0 := by decide
  have n2 : (1 : Int32).toInt = 1 := by decide
  have n3 : (2 : Int32).toInt = 2 := by decide
  repeat' split
  all_goals first | rfl | (simp only [lz_lt, lz_le, lz_eq] at *; omega)
theorem eq_critical (x0 : Int32) : (if x0 = 0 then (0 : Int32) else ((-2) : Int32) : Int32) = if x0 = 0 then (0 : Int32) else ((-2) : Int32) := rfl
theorem eq_ear (x0 x1 : Int32) : (if x0 = 0 then ((-3) : Int32) else ((-2) : Int32) : Int32) = if x0 = 0 then ((-3) : Int32) else ((-2) : Int32) := rfl
theorem eq_verdict (x0 x1 : Int32) : (((-2) : Int32) : Int32) = ((-2) : Int32) := rfl
set_option maxHeartbeats 2000000 in
theorem eq_verdicts (x0 : Int32) : (if x0 < 0 then ((-2) : Int32) else (if x0 ≤ 2 then (0 : Int32) else ((-2) : Int32)) : Int32) = if x0 < 0 then ((-2) : Int32) else (if (2 : Int32) < x0 then ((-2) : Int32) else (0 : Int32)) := by
  have n0 : ((-2) : Int32).toInt = -2 := by decide
  have n1 : (0 : Int32).toInt = 0 := by decide
  have n2 : (2 : Int32).toInt = 2 := by decide
  repeat' split
  all_goals first | rfl | (simp only [lz_lt, lz_le, lz_eq] at *; omega)
theorem eq_without (x0 : Int32) : (((-2) : Int32) : Int32) = ((-2) : Int32) := rfl
set_option maxHeartbeats 2000000 in
theorem eq_mends (x0 : Int32) : (if x0 = 0 then ((-1) : Int32) else (if x0 = 1 then (0 : Int32) else ((-2) : Int32)) : Int32) = if x0 < 0 then ((-2) : Int32) else (if (1 : Int32) < x0 then ((-2) : Int32) else (if x0 = 0 then ((-1) : Int32) else (0 : Int32))) := by
  have n0 : ((-2) : Int32).toInt = -2 := by decide
  have n1 : ((-1) : Int32).toInt = -1 := by decide
  have n2 : (0 : Int32).toInt = 0 := by decide
  have n3 : (1 : Int32).toInt = 1 := by decide
  repeat' split
  all_goals first | rfl | (simp only [lz_lt, lz_le, lz_eq] at *; omega)
set_option maxHeartbeats 2000000 in
theorem eq_breaks (x0 : Int32) : (if x0 = 0 then ((-1) : Int32) else (if x0 = 1 then (0 : Int32) else ((-2) : Int32)) : Int32) = if x0 < 0 then ((-2) : Int32) else (if (1 : Int32) < x0 then ((-2) : Int32) else (if x0 = 0 then ((-1) : Int32) else (0 : Int32))) := by
  have n0 : ((-2) : Int32).toInt = -2 := by decide
  have n1 : ((-1) : Int32).toInt = -1 := by decide
  have n2 : (0 : Int32).toInt = 0 := by decide
  have n3 : (1 : Int32).toInt = 1 := by decide
  repeat' split
  all_goals first | rfl | (simp only [lz_lt, lz_le, lz_eq] at *; omega)
set_option maxHeartbeats 2000000 in
theorem eq_isTold (x0 : Int32) : (if x0 < 0 then ((-2) : Int32) else (if (4 : Int32) ≤ x0 then ((-2) : Int32) else ((-11) : Int32)) : Int32) = if x0 < 0 then ((-2) : Int32) else (if (3 : Int32) < x0 then ((-2) : Int32) else ((-11) : Int32)) := by
  have n0 : ((-11) : Int32).toInt = -11 := by decide
  have n1 : ((-2) : Int32).toInt = -2 := by decide
  have n2 : (0 : Int32).toInt = 0 := by decide
  have n3 : (3 : Int32).toInt = 3 := by decide
  have n4 : (4 : Int32).toInt = 4 := by decide
  repeat' split
  all_goals first | rfl | (simp only [lz_lt, lz_le, lz_eq] at *; omega)
set_option maxHeartbeats 2000000 in
theorem eq_misses (x0 : Int32) : (if x0 < 0 then ((-2) : Int32) else (if (4 : Int32) ≤ x0 then ((-2) : Int32) else ((-11) : Int32)) : Int32) = if x0 < 0 then ((-2) : Int32) else (if (3 : Int32) < x0 then ((-2) : Int32) else ((-11) : Int32)) := by
  have n0 : ((-11) : Int32).toInt = -11 := by decide
  have n1 : ((-2) : Int32).toInt = -2 := by decide
  have n2 : (0 : Int32).toInt = 0 := by decide
  have n3 : (3 : Int32).toInt = 3 := by decide
  have n4 : (4 : Int32).toInt = 4 := by decide
  repeat' split
  all_goals first | rfl | (simp only [lz_lt, lz_le, lz_eq] at *; omega)
set_option maxHeartbeats 2000000 in
theorem eq_way (x0 x1 : Int32) : (if x0 < 0 then ((-2) : Int32) else (if (4 : Int32) ≤ x0 then ((-2) : Int32) else ((-11) : Int32)) : Int32) = if x0 < 0 then ((-2) : Int32) else (if (3 : Int32) < x0 then ((-2) : Int32) else ((-11) : Int32)) := by
  have n0 : ((-11) : Int32).toInt = -11 := by decide
  have n1 : ((-2) : Int32).toInt = -2 := by decide
  have n2 : (0 : Int32).toInt = 0 := by decide
  have n3 : (3 : Int32).toInt = 3 := by decide
  have n4 : (4 : Int32).toInt = 4 := by decide
  repeat' split
  all_goals first | rfl | (simp only [lz_lt, lz_le, lz_eq] at *; omega)
set_option maxHeartbeats 2000000 in
theorem eq_grow (x0 : Int32) : (if x0 < 0 then ((-2) : Int32) else (if (4 : Int32) ≤ x0 then ((-2) : Int32) else ((-11) : Int32)) : Int32) = if x0 < 0 then ((-2) : Int32) else (if (3 : Int32) < x0 then ((-2) : Int32) else ((-11) : Int32)) := by
  have n0 : ((-11) : Int32).toInt = -11 := by decide
  have n1 : ((-2) : Int32).toInt = -2 := by decide
  have n2 : (0 : Int32).toInt = 0 := by decide
  have n3 : (3 : Int32).toInt = 3 := by decide
  have n4 : (4 : Int32).toInt = 4 := by decide
  repeat' split
  all_goals first | rfl | (simp only [lz_lt, lz_le, lz_eq] at *; omega)
set_option maxHeartbeats 2000000 in
theorem eq_chains (x0 x1 x2 : Int32) : (if x0 < 0 then ((-2) : Int32) else (if (4 : Int32) ≤ x0 then ((-2) : Int32) else (if x1 < 0 then ((-2) : Int32) else (if (4 : Int32) ≤ x1 then ((-2) : Int32) else (if x2 < 0 then ((-2) : Int32) else (if x2 ≤ 2 then ((-11) : Int32) else ((-2) : Int32)))))) : Int32) = if x0 < 0 then ((-2) : Int32) else (if (3 : Int32) < x0 then ((-2) : Int32) else (if x1 < 0 then ((-2) : Int32) else (if (3 : Int32) < x1 then ((-2) : Int32) else (if x2 < 0 then ((-2) : Int32) else (if (2 : Int32) < x2 then ((-2) : Int32) else ((-11) : Int32)))))) := by
  have n0 : ((-11) : Int32).toInt = -11 := by decide
  have n1 : ((-2) : Int32).toInt = -2 := by decide
  have n2 : (0 : Int32).toInt = 0 := by decide
  have n3 : (2 : Int32).toInt = 2 := by decide
  have n4 : (3 : Int32).toInt = 3 := by decide
  have n5 : (4 : Int32).toInt = 4 := by decide
  repeat' split
  all_goals first | rfl | (simp only [lz_lt, lz_le, lz_eq] at *; omega)
set_option maxHeartbeats 2000000 in
theorem eq_paint (x0 x1 : Int32) : (if x0 < 0 then ((-2) : Int32) else (if (4 : Int32) ≤ x0 then ((-2) : Int32) else (if x1 = 0 then (0 : Int32) else (if x1 = 1 then (0 : Int32) else ((-2) : Int32)))) : Int32) = if x0 < 0 then ((-2) : Int32) else (if (3 : Int32) < x0 then ((-2) : Int32) else (if x1 < 0 then ((-2) : Int32) else (if (1 : Int32) < x1 then ((-2) : Int32) else (0 : Int32)))) := by
  have n0 : ((-2) : Int32).toInt = -2 := by decide
  have n1 : (0 : Int32).toInt = 0 := by decide
  have n2 : (1 : Int32).toInt = 1 := by decide
  have n3 : (3 : Int32).toInt = 3 := by decide
  have n4 : (4 : Int32).toInt = 4 := by decide
  repeat' split
  all_goals first | rfl | (simp only [lz_lt, lz_le, lz_eq] at *; omega)
set_option maxHeartbeats 2000000 in
theorem eq_feed (x0 x1 : Int32) : (if x1 < 1 then ((-2) : Int32) else (if x1 ≤ 4 then (if x1 = 1 then (1 : Int32) else (if x1 = 2 then (2 : Int32) else (if x1 = 3 then (3 : Int32) else (4 : Int32)))) else ((-2) : Int32)) : Int32) = if x1 < 1 then ((-2) : Int32) else (if (4 : Int32) < x1 then ((-2) : Int32) else (if x1 = 1 then (1 : Int32) else (if x1 = 2 then (2 : Int32) else (if x1 = 3 then (3 : Int32) else (4 : Int32))))) := by
  have n0 : ((-2) : Int32).toInt = -2 := by decide
  have n1 : (1 : Int32).toInt = 1 := by decide
  have n2 : (2 : Int32).toInt = 2 := by decide
  have n3 : (3 : Int32).toInt = 3 := by decide
  have n4 : (4 : Int32).toInt = 4 := by decide
  repeat' split
  all_goals first | rfl | (simp only [lz_lt, lz_le, lz_eq] at *; omega)
theorem eq_wipe : ((0 : Int32) : Int32) = (0 : Int32) := rfl
theorem eq_text : (((-100) : Int32) : Int32) = ((-100) : Int32) := rfl
theorem eq_seed (x0 : Int32) : ((1 : Int32) : Int32) = (1 : Int32) := rfl
set_option maxHeartbeats 2000000 in
theorem eq_shelf (x0 x1 x2 : Int32) : (if x0 < 0 then ((-2) : Int32) else (if (4 : Int32) ≤ x0 then ((-2) : Int32) else (if x1 = 0 then ((-2) : Int32) else (if x1 = 1 then ((-2) : Int32) else (if x1 = 2 then ((-2) : Int32) else (if x1 = 3 then (if x2 = 0 then (1 : Int32) else ((-2) : Int32)) else (if x1 = 4 then (if x2 < 0 then ((-2) : Int32) else (if (4 : Int32) ≤ x2 then ((-2) : Int32) else ((-11) : Int32))) else (if x1 = 5 then (1 : Int32) else ((-2) : Int32)))))))) : Int32) = if x0 < 0 then ((-2) : Int32) else (if (3 : Int32) < x0 then ((-2) : Int32) else (if x1 < 0 then ((-2) : Int32) else (if (5 : Int32) < x1 then ((-2) : Int32) else (if x1 = 0 then ((-2) : Int32) else (if x1 = 3 then (if x2 = 0 then (1 : Int32) else ((-2) : Int32)) else (if x1 = 4 then (if x2 < 0 then ((-2) : Int32) else (if (3 : Int32) < x2 then ((-2) : Int32) else ((-11) : Int32))) else (if (2 : Int32) < x1 then (1 : Int32) else ((-2) : Int32)))))))) := by
  have n0 : ((-11) : Int32).toInt = -11 := by decide
  have n1 : ((-2) : Int32).toInt = -2 := by decide
  have n2 : (0 : Int32).toInt = 0 := by decide
  have n3 : (1 : Int32).toInt = 1 := by decide
  have n4 : (2 : Int32).toInt = 2 := by decide
  have n5 : (3 : Int32).toInt = 3 := by decide
  have n6 : (4 : Int32).toInt = 4 := by decide
  have n7 : (5 : Int32).toInt = 5 := by decide
  repeat' split
  all_goals first | rfl | (simp only [lz_lt, lz_le, lz_eq] at *; omega)
set_option maxHeartbeats 2000000 in
theorem eq_taken (x0 x1 : Int32) : (if x1 < 0 then (if x0 < 0 then ((-2) : Int32) else (if (4 : Int32) ≤ x0 then ((-2) : Int32) else (if (x1 - (10 : Int32)) = 0 then ((-11) : Int32) else (if (x1 - (10 : Int32)) = 1 then ((-11) : Int32) else ((-2) : Int32))))) else (if (6 : Int32) ≤ x1 then (if x0 < 0 then ((-2) : Int32) else (if (4 : Int32) ≤ x0 then ((-2) : Int32) else (if (x1 - (10 : Int32)) = 0 then ((-11) : Int32) else (if (x1 - (10 : Int32)) = 1 then ((-11) : Int32) else ((-2) : Int32))))) else (if x0 < 0 then ((-2) : Int32) else (if (4 : Int32) ≤ x0 then ((-2) : Int32) else ((-11) : Int32)))) : Int32) = if x0 < 0 then ((-2) : Int32) else (if (3 : Int32) < x0 then ((-2) : Int32) else (if x1 < 0 then ((-2) : Int32) else (if (5 : Int32) < x1 then (if x1 < 10 then ((-2) : Int32) else (if (11 : Int32) < x1 then ((-2) : Int32) else ((-11) : Int32))) else ((-11) : Int32)))) := by
  have n0 : ((-11) : Int32).toInt = -11 := by decide
  have n1 : ((-2) : Int32).toInt = -2 := by decide
  have n2 : (0 : Int32).toInt = 0 := by decide
  have n3 : (1 : Int32).toInt = 1 := by decide
  have n4 : (3 : Int32).toInt = 3 := by decide
  have n5 : (4 : Int32).toInt = 4 := by decide
  have n6 : (5 : Int32).toInt = 5 := by decide
  have n7 : (6 : Int32).toInt = 6 := by decide
  have n8 : (10 : Int32).toInt = 10 := by decide
  have n9 : (11 : Int32).toInt = 11 := by decide
  have t10 := lz_m10 x1
  have t11 := lz_m11 x1
  repeat' split
  all_goals first | rfl | (simp only [lz_lt, lz_le, lz_eq, t10, t11] at *; omega)
set_option maxHeartbeats 2000000 in
theorem eq_held (x0 x1 : Int32) : (if x0 < 0 then ((-2) : Int32) else (if (6 : Int32) ≤ x0 then ((-2) : Int32) else (if x1 < 0 then ((-2) : Int32) else (if x1 ≤ 2 then (if x1 = 0 then (0 : Int32) else (if x1 = 1 then (0 : Int32) else ((-1) : Int32))) else ((-2) : Int32)))) : Int32) = if x0 < 0 then ((-2) : Int32) else (if (5 : Int32) < x0 then ((-2) : Int32) else (if x1 < 0 then ((-2) : Int32) else (if (2 : Int32) < x1 then ((-2) : Int32) else (if x1 = 0 then (0 : Int32) else (if x1 = 1 then (0 : Int32) else ((-1) : Int32)))))) := by
  have n0 : ((-2) : Int32).toInt = -2 := by decide
  have n1 : ((-1) : Int32).toInt = -1 := by decide
  have n2 : (0 : Int32).toInt = 0 := by decide
  have n3 : (1 : Int32).toInt = 1 := by decide
  have n4 : (2 : Int32).toInt = 2 := by decide
  have n5 : (5 : Int32).toInt = 5 := by decide
  have n6 : (6 : Int32).toInt = 6 := by decide
  repeat' split
  all_goals first | rfl | (simp only [lz_lt, lz_le, lz_eq] at *; omega)
set_option maxHeartbeats 2000000 in
theorem eq_sheet (x0 x1 x2 : Int32) : (if x0 < 0 then ((-2) : Int32) else (if (4 : Int32) ≤ x0 then ((-2) : Int32) else (if x1 = (-1) then (1 : Int32) else (if x1 = 0 then (if x2 ≤ 40 then (if (0 : Int32) ≤ x2 then (1 : Int32) else ((-14) : Int32)) else ((-2) : Int32)) else (if x1 = 1 then (if x2 ≤ 40 then (if (0 : Int32) ≤ x2 then (1 : Int32) else ((-14) : Int32)) else ((-2) : Int32)) else ((-2) : Int32))))) : Int32) = if x0 < 0 then ((-2) : Int32) else (if (3 : Int32) < x0 then ((-2) : Int32) else (if x1 < (-1) then ((-2) : Int32) else (if (1 : Int32) < x1 then ((-2) : Int32) else (if x1 = (-1) then (1 : Int32) else (if x2 ≤ 40 then (if (0 : Int32) ≤ x2 then (1 : Int32) else ((-14) : Int32)) else ((-2) : Int32)))))) := by
  have n0 : ((-14) : Int32).toInt = -14 := by decide
  have n1 : ((-2) : Int32).toInt = -2 := by decide
  have n2 : ((-1) : Int32).toInt = -1 := by decide
  have n3 : (0 : Int32).toInt = 0 := by decide
  have n4 : (1 : Int32).toInt = 1 := by decide
  have n5 : (3 : Int32).toInt = 3 := by decide
  have n6 : (4 : Int32).toInt = 4 := by decide
  have n7 : (40 : Int32).toInt = 40 := by decide
  repeat' split
  all_goals first | rfl | (simp only [lz_lt, lz_le, lz_eq] at *; omega)
set_option maxHeartbeats 2000000 in
theorem eq_write (x0 x1 x2 : Int32) : (if x0 < 0 then ((-2) : Int32) else (if (4 : Int32) ≤ x0 then ((-2) : Int32) else ((-11) : Int32)) : Int32) = if x0 < 0 then ((-2) : Int32) else (if (3 : Int32) < x0 then ((-2) : Int32) else ((-11) : Int32)) := by
  have n0 : ((-11) : Int32).toInt = -11 := by decide
  have n1 : ((-2) : Int32).toInt = -2 := by decide
  have n2 : (0 : Int32).toInt = 0 := by decide
  have n3 : (3 : Int32).toInt = 3 := by decide
  have n4 : (4 : Int32).toInt = 4 := by decide
  repeat' split
  all_goals first | rfl | (simp only [lz_lt, lz_le, lz_eq] at *; omega)
set_option maxHeartbeats 2000000 in
theorem eq_item (x0 x1 : Int32) : (if x0 < 0 then ((-2) : Int32) else (if (4 : Int32) ≤ x0 then ((-2) : Int32) else ((-11) : Int32)) : Int32) = if x0 < 0 then ((-2) : Int32) else (if (3 : Int32) < x0 then ((-2) : Int32) else ((-11) : Int32)) := by
  have n0 : ((-11) : Int32).toInt = -11 := by decide
  have n1 : ((-2) : Int32).toInt = -2 := by decide
  have n2 : (0 : Int32).toInt = 0 := by decide
  have n3 : (3 : Int32).toInt = 3 := by decide
  have n4 : (4 : Int32).toInt = 4 := by decide
  repeat' split
  all_goals first | rfl | (simp only [lz_lt, lz_le, lz_eq] at *; omega)
set_option maxHeartbeats 2000000 in
theorem eq_copy (x0 x1 x2 x3 x4 : Int32) : (if x0 < 0 then ((-2) : Int32) else (if (4 : Int32) ≤ x0 then ((-2) : Int32) else (if x2 < 0 then ((-2) : Int32) else (if (4 : Int32) ≤ x2 then ((-2) : Int32) else ((-11) : Int32)))) : Int32) = if x0 < 0 then ((-2) : Int32) else (if (3 : Int32) < x0 then ((-2) : Int32) else (if x2 < 0 then ((-2) : Int32) else (if (3 : Int32) < x2 then ((-2) : Int32) else ((-11) : Int32)))) := by
  have n0 : ((-11) : Int32).toInt = -11 := by decide
  have n1 : ((-2) : Int32).toInt = -2 := by decide
  have n2 : (0 : Int32).toInt = 0 := by decide
  have n3 : (3 : Int32).toInt = 3 := by decide
  have n4 : (4 : Int32).toInt = 4 := by decide
  repeat' split
  all_goals first | rfl | (simp only [lz_lt, lz_le, lz_eq] at *; omega)
theorem eq_image : ((0 : Int32) : Int32) = (0 : Int32) := rfl
theorem eq_back : (((-3) : Int32) : Int32) = ((-3) : Int32) := rfl
