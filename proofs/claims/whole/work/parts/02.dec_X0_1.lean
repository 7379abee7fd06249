-- decode rows (by program)
theorem dX0_hullOf_7 : decode cX0_hullOf 7 = .ok (.aload_n 0, 1) := by decide +kernel
theorem dX0_hullOf_8 : decode cX0_hullOf 8 = .ok (.getfield 28, 3) := by decide +kernel
theorem dX0_hullOf_11 : decode cX0_hullOf 11 = .ok (.if_icmp .ge 17, 3) := by decide +kernel
theorem dX0_hullOf_14 : decode cX0_hullOf 14 = .ok (.iload_n 2, 1) := by decide +kernel
theorem dX0_hullOf_15 : decode cX0_hullOf 15 = .ok (.aload_n 0, 1) := by decide +kernel
theorem dX0_hullOf_16 : decode cX0_hullOf 16 = .ok (.iload_n 2, 1) := by decide +kernel
theorem dX0_hullOf_17 : decode cX0_hullOf 17 = .ok (.invokevirtual 99, 3) := by decide +kernel
theorem dX0_hullOf_20 : decode cX0_hullOf 20 = .ok (.ior, 1) := by decide +kernel
theorem dX0_hullOf_21 : decode cX0_hullOf 21 = .ok (.istore_n 2, 1) := by decide +kernel
theorem dX0_hullOf_22 : decode cX0_hullOf 22 = .ok (.iinc 3 1, 3) := by decide +kernel
theorem dX0_hullOf_25 : decode cX0_hullOf 25 = .ok (.goto (-19), 3) := by decide +kernel
theorem dX0_hullOf_28 : decode cX0_hullOf 28 = .ok (.iload_n 2, 1) := by decide +kernel
theorem dX0_hullOf_29 : decode cX0_hullOf 29 = .ok (.ireturn, 1) := by decide +kernel
theorem dX0_closedSets_0 : decode cX0_closedSets 0 = .ok (.iconst 0, 1) := by decide +kernel
theorem dX0_closedSets_1 : decode cX0_closedSets 1 = .ok (.istore_n 1, 1) := by decide +kernel
theorem dX0_closedSets_2 : decode cX0_closedSets 2 = .ok (.iconst 0, 1) := by decide +kernel
theorem dX0_closedSets_3 : decode cX0_closedSets 3 = .ok (.istore_n 2, 1) := by decide +kernel
theorem dX0_closedSets_4 : decode cX0_closedSets 4 = .ok (.iload_n 2, 1) := by decide +kernel
theorem dX0_closedSets_5 : decode cX0_closedSets 5 = .ok (.iconst 1, 1) := by decide +kernel
theorem dX0_closedSets_6 : decode cX0_closedSets 6 = .ok (.aload_n 0, 1) := by decide +kernel
theorem dX0_closedSets_7 : decode cX0_closedSets 7 = .ok (.getfield 28, 3) := by decide +kernel
theorem dX0_closedSets_10 : decode cX0_closedSets 10 = .ok (.ishl, 1) := by decide +kernel
theorem dX0_closedSets_11 : decode cX0_closedSets 11 = .ok (.if_icmp .ge 20, 3) := by decide +kernel
theorem dX0_closedSets_14 : decode cX0_closedSets 14 = .ok (.aload_n 0, 1) := by decide +kernel
theorem dX0_closedSets_15 : decode cX0_closedSets 15 = .ok (.iload_n 2, 1) := by decide +kernel
theorem dX0_closedSets_16 : decode cX0_closedSets 16 = .ok (.invokevirtual 105, 3) := by decide +kernel
theorem dX0_closedSets_19 : decode cX0_closedSets 19 = .ok (.ifCond .eq 6, 3) := by decide +kernel
theorem dX0_closedSets_22 : decode cX0_closedSets 22 = .ok (.iinc 1 1, 3) := by decide +kernel
theorem dX0_closedSets_25 : decode cX0_closedSets 25 = .ok (.iinc 2 1, 3) := by decide +kernel
theorem dX0_closedSets_28 : decode cX0_closedSets 28 = .ok (.goto (-24), 3) := by decide +kernel
theorem dX0_closedSets_31 : decode cX0_closedSets 31 = .ok (.iload_n 1, 1) := by decide +kernel
theorem dX0_closedSets_32 : decode cX0_closedSets 32 = .ok (.ireturn, 1) := by decide +kernel
theorem dX0_orderOf_0 : decode cX0_orderOf 0 = .ok (.iconst 0, 1) := by decide +kernel
theorem dX0_orderOf_1 : decode cX0_orderOf 1 = .ok (.istore_n 2, 1) := by decide +kernel
theorem dX0_orderOf_2 : decode cX0_orderOf 2 = .ok (.iconst 0, 1) := by decide +kernel
theorem dX0_orderOf_3 : decode cX0_orderOf 3 = .ok (.istore_n 3, 1) := by decide +kernel
theorem dX0_orderOf_4 : decode cX0_orderOf 4 = .ok (.iload_n 3, 1) := by decide +kernel
theorem dX0_orderOf_5 : decode cX0_orderOf 5 = .ok (.aload_n 0, 1) := by decide +kernel
theorem dX0_orderOf_6 : decode cX0_orderOf 6 = .ok (.getfield 28, 3) := by decide +kernel
theorem dX0_orderOf_9 : decode cX0_orderOf 9 = .ok (.if_icmp .ge 25, 3) := by decide +kernel
theorem dX0_orderOf_12 : decode cX0_orderOf 12 = .ok (.iload_n 1, 1) := by decide +kernel
theorem dX0_orderOf_13 : decode cX0_orderOf 13 = .ok (.iload_n 3, 1) := by decide +kernel
theorem dX0_orderOf_14 : decode cX0_orderOf 14 = .ok (.invokestatic 95, 3) := by decide +kernel
theorem dX0_orderOf_17 : decode cX0_orderOf 17 = .ok (.ifCond .eq 11, 3) := by decide +kernel
theorem dX0_orderOf_20 : decode cX0_orderOf 20 = .ok (.iload_n 2, 1) := by decide +kernel
theorem dX0_orderOf_21 : decode cX0_orderOf 21 = .ok (.aload_n 0, 1) := by decide +kernel
theorem dX0_orderOf_22 : decode cX0_orderOf 22 = .ok (.iload_n 3, 1) := by decide +kernel
theorem dX0_orderOf_23 : decode cX0_orderOf 23 = .ok (.invokevirtual 108, 3) := by decide +kernel
theorem dX0_orderOf_26 : decode cX0_orderOf 26 = .ok (.iadd, 1) := by decide +kernel
theorem dX0_orderOf_27 : decode cX0_orderOf 27 = .ok (.istore_n 2, 1) := by decide +kernel
theorem dX0_orderOf_28 : decode cX0_orderOf 28 = .ok (.iinc 3 1, 3) := by decide +kernel
theorem dX0_orderOf_31 : decode cX0_orderOf 31 = .ok (.goto (-27), 3) := by decide +kernel
theorem dX0_orderOf_34 : decode cX0_orderOf 34 = .ok (.iload_n 2, 1) := by decide +kernel
theorem dX0_orderOf_35 : decode cX0_orderOf 35 = .ok (.ireturn, 1) := by decide +kernel
