-- decode rows (by program)
theorem dX4_worthByTriples_28 : decode cX4_worthByTriples 28 = .ok (.ireturn, 1) := by decide +kernel
