-- decode rows (by program)
theorem dX4_init_0 : decode cX4_init 0 = .ok (.aload_n 0, 1) := by decide +kernel
theorem dX4_init_1 : decode cX4_init 1 = .ok (.invokespecial 1, 3) := by decide +kernel
theorem dX4_init_4 : decode cX4_init 4 = .ok (.aload_n 0, 1) := by decide +kernel
theorem dX4_init_5 : decode cX4_init 5 = .ok (.iconst 5, 1) := by decide +kernel
theorem dX4_init_6 : decode cX4_init 6 = .ok (.newarray .int, 2) := by decide +kernel
theorem dX4_init_8 : decode cX4_init 8 = .ok (.putfield 9, 3) := by decide +kernel
theorem dX4_init_11 : decode cX4_init 11 = .ok (.iconst 0, 1) := by decide +kernel
theorem dX4_init_12 : decode cX4_init 12 = .ok (.istore_n 1, 1) := by decide +kernel
theorem dX4_init_13 : decode cX4_init 13 = .ok (.iload_n 1, 1) := by decide +kernel
theorem dX4_init_14 : decode cX4_init 14 = .ok (.iconst 5, 1) := by decide +kernel
theorem dX4_init_15 : decode cX4_init 15 = .ok (.if_icmp .ge 16, 3) := by decide +kernel
theorem dX4_init_18 : decode cX4_init 18 = .ok (.aload_n 0, 1) := by decide +kernel
theorem dX4_init_19 : decode cX4_init 19 = .ok (.getfield 9, 3) := by decide +kernel
theorem dX4_init_22 : decode cX4_init 22 = .ok (.iload_n 1, 1) := by decide +kernel
theorem dX4_init_23 : decode cX4_init 23 = .ok (.iconst 1, 1) := by decide +kernel
theorem dX4_init_24 : decode cX4_init 24 = .ok (.iastore, 1) := by decide +kernel
theorem dX4_init_25 : decode cX4_init 25 = .ok (.iinc 1 1, 3) := by decide +kernel
theorem dX4_init_28 : decode cX4_init 28 = .ok (.goto (-15), 3) := by decide +kernel
theorem dX4_init_31 : decode cX4_init 31 = .ok (.aload_n 0, 1) := by decide +kernel
theorem dX4_init_32 : decode cX4_init 32 = .ok (.new 13, 3) := by decide +kernel
theorem dX4_init_35 : decode cX4_init 35 = .ok (.dup, 1) := by decide +kernel
theorem dX4_init_36 : decode cX4_init 36 = .ok (.invokespecial 15, 3) := by decide +kernel
theorem dX4_init_39 : decode cX4_init 39 = .ok (.putfield 16, 3) := by decide +kernel
theorem dX4_init_42 : decode cX4_init 42 = .ok (.aload_n 0, 1) := by decide +kernel
theorem dX4_init_43 : decode cX4_init 43 = .ok (.new 20, 3) := by decide +kernel
theorem dX4_init_46 : decode cX4_init 46 = .ok (.dup, 1) := by decide +kernel
theorem dX4_init_47 : decode cX4_init 47 = .ok (.invokespecial 22, 3) := by decide +kernel
theorem dX4_init_50 : decode cX4_init 50 = .ok (.putfield 23, 3) := by decide +kernel
theorem dX4_init_53 : decode cX4_init 53 = .ok (.aload_n 0, 1) := by decide +kernel
theorem dX4_init_54 : decode cX4_init 54 = .ok (.new 27, 3) := by decide +kernel
theorem dX4_init_57 : decode cX4_init 57 = .ok (.dup, 1) := by decide +kernel
theorem dX4_init_58 : decode cX4_init 58 = .ok (.invokespecial 29, 3) := by decide +kernel
theorem dX4_init_61 : decode cX4_init 61 = .ok (.putfield 30, 3) := by decide +kernel
theorem dX4_init_64 : decode cX4_init 64 = .ok (.aload_n 0, 1) := by decide +kernel
theorem dX4_init_65 : decode cX4_init 65 = .ok (.new 27, 3) := by decide +kernel
theorem dX4_init_68 : decode cX4_init 68 = .ok (.dup, 1) := by decide +kernel
theorem dX4_init_69 : decode cX4_init 69 = .ok (.invokespecial 29, 3) := by decide +kernel
theorem dX4_init_72 : decode cX4_init 72 = .ok (.putfield 34, 3) := by decide +kernel
theorem dX4_init_75 : decode cX4_init 75 = .ok (.aload_n 0, 1) := by decide +kernel
theorem dX4_init_76 : decode cX4_init 76 = .ok (.getfield 30, 3) := by decide +kernel
theorem dX4_init_79 : decode cX4_init 79 = .ok (.iconst 1, 1) := by decide +kernel
theorem dX4_init_80 : decode cX4_init 80 = .ok (.invokevirtual 37, 3) := by decide +kernel
theorem dX4_init_83 : decode cX4_init 83 = .ok (.aload_n 0, 1) := by decide +kernel
theorem dX4_init_84 : decode cX4_init 84 = .ok (.lconst 0, 1) := by decide +kernel
theorem dX4_init_85 : decode cX4_init 85 = .ok (.putfield 41, 3) := by decide +kernel
theorem dX4_init_88 : decode cX4_init 88 = .ok (.return_, 1) := by decide +kernel
theorem dX4_points_0 : decode cX4_points 0 = .ok (.iload_n 1, 1) := by decide +kernel
theorem dX4_points_1 : decode cX4_points 1 = .ok (.iconst 1, 1) := by decide +kernel
theorem dX4_points_2 : decode cX4_points 2 = .ok (.if_icmp .lt 9, 3) := by decide +kernel
theorem dX4_points_5 : decode cX4_points 5 = .ok (.iload_n 1, 1) := by decide +kernel
theorem dX4_points_6 : decode cX4_points 6 = .ok (.bipush 8, 2) := by decide +kernel
theorem dX4_points_8 : decode cX4_points 8 = .ok (.if_icmp .le 5, 3) := by decide +kernel
theorem dX4_points_11 : decode cX4_points 11 = .ok (.iconst (-1), 1) := by decide +kernel
theorem dX4_points_12 : decode cX4_points 12 = .ok (.ireturn, 1) := by decide +kernel
theorem dX4_points_13 : decode cX4_points 13 = .ok (.aload_n 0, 1) := by decide +kernel
theorem dX4_points_14 : decode cX4_points 14 = .ok (.getfield 30, 3) := by decide +kernel
theorem dX4_points_17 : decode cX4_points 17 = .ok (.getfield 45, 3) := by decide +kernel
theorem dX4_points_20 : decode cX4_points 20 = .ok (.istore_n 2, 1) := by decide +kernel
theorem dX4_points_21 : decode cX4_points 21 = .ok (.aload_n 0, 1) := by decide +kernel
theorem dX4_points_22 : decode cX4_points 22 = .ok (.getfield 30, 3) := by decide +kernel
theorem dX4_points_25 : decode cX4_points 25 = .ok (.iload_n 1, 1) := by decide +kernel
theorem dX4_points_26 : decode cX4_points 26 = .ok (.invokevirtual 37, 3) := by decide +kernel
theorem dX4_points_29 : decode cX4_points 29 = .ok (.iload_n 2, 1) := by decide +kernel
theorem dX4_points_30 : decode cX4_points 30 = .ok (.ireturn, 1) := by decide +kernel
theorem dX4_colour_0 : decode cX4_colour 0 = .ok (.aload_n 0, 1) := by decide +kernel
theorem dX4_colour_1 : decode cX4_colour 1 = .ok (.iload_n 1, 1) := by decide +kernel
theorem dX4_colour_2 : decode cX4_colour 2 = .ok (.invokevirtual 49, 3) := by decide +kernel
theorem dX4_colour_5 : decode cX4_colour 5 = .ok (.ifCond .eq 20, 3) := by decide +kernel
theorem dX4_colour_8 : decode cX4_colour 8 = .ok (.aload_n 0, 1) := by decide +kernel
theorem dX4_colour_9 : decode cX4_colour 9 = .ok (.iload_n 2, 1) := by decide +kernel
theorem dX4_colour_10 : decode cX4_colour 10 = .ok (.invokevirtual 49, 3) := by decide +kernel
theorem dX4_colour_13 : decode cX4_colour 13 = .ok (.ifCond .eq 12, 3) := by decide +kernel
theorem dX4_colour_16 : decode cX4_colour 16 = .ok (.iload_n 3, 1) := by decide +kernel
theorem dX4_colour_17 : decode cX4_colour 17 = .ok (.ifCond .lt 8, 3) := by decide +kernel
theorem dX4_colour_20 : decode cX4_colour 20 = .ok (.iload_n 3, 1) := by decide +kernel
theorem dX4_colour_21 : decode cX4_colour 21 = .ok (.iconst 5, 1) := by decide +kernel
theorem dX4_colour_22 : decode cX4_colour 22 = .ok (.if_icmp .lt 5, 3) := by decide +kernel
theorem dX4_colour_25 : decode cX4_colour 25 = .ok (.iconst (-1), 1) := by decide +kernel
theorem dX4_colour_26 : decode cX4_colour 26 = .ok (.ireturn, 1) := by decide +kernel
theorem dX4_colour_27 : decode cX4_colour 27 = .ok (.aload_n 0, 1) := by decide +kernel
theorem dX4_colour_28 : decode cX4_colour 28 = .ok (.getfield 30, 3) := by decide +kernel
theorem dX4_colour_31 : decode cX4_colour 31 = .ok (.iload_n 1, 1) := by decide +kernel
theorem dX4_colour_32 : decode cX4_colour 32 = .ok (.iload_n 2, 1) := by decide +kernel
theorem dX4_colour_33 : decode cX4_colour 33 = .ok (.invokevirtual 53, 3) := by decide +kernel
theorem dX4_colour_36 : decode cX4_colour 36 = .ok (.istore 4, 2) := by decide +kernel
theorem dX4_colour_38 : decode cX4_colour 38 = .ok (.aload_n 0, 1) := by decide +kernel
theorem dX4_colour_39 : decode cX4_colour 39 = .ok (.getfield 30, 3) := by decide +kernel
theorem dX4_colour_42 : decode cX4_colour 42 = .ok (.iload_n 1, 1) := by decide +kernel
theorem dX4_colour_43 : decode cX4_colour 43 = .ok (.iload_n 2, 1) := by decide +kernel
theorem dX4_colour_44 : decode cX4_colour 44 = .ok (.iload_n 3, 1) := by decide +kernel
theorem dX4_colour_45 : decode cX4_colour 45 = .ok (.invokevirtual 57, 3) := by decide +kernel
theorem dX4_colour_48 : decode cX4_colour 48 = .ok (.aload_n 0, 1) := by decide +kernel
theorem dX4_colour_49 : decode cX4_colour 49 = .ok (.getfield 30, 3) := by decide +kernel
theorem dX4_colour_52 : decode cX4_colour 52 = .ok (.invokevirtual 61, 3) := by decide +kernel
theorem dX4_colour_55 : decode cX4_colour 55 = .ok (.iload 4, 2) := by decide +kernel
theorem dX4_colour_57 : decode cX4_colour 57 = .ok (.ireturn, 1) := by decide +kernel
theorem dX4_at_0 : decode cX4_at 0 = .ok (.aload_n 0, 1) := by decide +kernel
theorem dX4_at_1 : decode cX4_at 1 = .ok (.iload_n 1, 1) := by decide +kernel
theorem dX4_at_2 : decode cX4_at 2 = .ok (.invokevirtual 49, 3) := by decide +kernel
theorem dX4_at_5 : decode cX4_at 5 = .ok (.ifCond .eq 11, 3) := by decide +kernel
theorem dX4_at_8 : decode cX4_at 8 = .ok (.aload_n 0, 1) := by decide +kernel
theorem dX4_at_9 : decode cX4_at 9 = .ok (.iload_n 2, 1) := by decide +kernel
theorem dX4_at_10 : decode cX4_at 10 = .ok (.invokevirtual 49, 3) := by decide +kernel
theorem dX4_at_13 : decode cX4_at 13 = .ok (.ifCond .ne 5, 3) := by decide +kernel
theorem dX4_at_16 : decode cX4_at 16 = .ok (.iconst (-1), 1) := by decide +kernel
theorem dX4_at_17 : decode cX4_at 17 = .ok (.ireturn, 1) := by decide +kernel
theorem dX4_at_18 : decode cX4_at 18 = .ok (.aload_n 0, 1) := by decide +kernel
theorem dX4_at_19 : decode cX4_at 19 = .ok (.getfield 30, 3) := by decide +kernel
theorem dX4_at_22 : decode cX4_at 22 = .ok (.iload_n 1, 1) := by decide +kernel
theorem dX4_at_23 : decode cX4_at 23 = .ok (.iload_n 2, 1) := by decide +kernel
theorem dX4_at_24 : decode cX4_at 24 = .ok (.invokevirtual 53, 3) := by decide +kernel
theorem dX4_at_27 : decode cX4_at 27 = .ok (.ireturn, 1) := by decide +kernel
theorem dX4_ring_0 : decode cX4_ring 0 = .ok (.iconst 1, 1) := by decide +kernel
theorem dX4_ring_1 : decode cX4_ring 1 = .ok (.istore_n 2, 1) := by decide +kernel
theorem dX4_ring_2 : decode cX4_ring 2 = .ok (.iconst 1, 1) := by decide +kernel
theorem dX4_ring_3 : decode cX4_ring 3 = .ok (.istore_n 3, 1) := by decide +kernel
theorem dX4_ring_4 : decode cX4_ring 4 = .ok (.iload_n 3, 1) := by decide +kernel
theorem dX4_ring_5 : decode cX4_ring 5 = .ok (.aload_n 0, 1) := by decide +kernel
theorem dX4_ring_6 : decode cX4_ring 6 = .ok (.getfield 30, 3) := by decide +kernel
theorem dX4_ring_9 : decode cX4_ring 9 = .ok (.getfield 45, 3) := by decide +kernel
theorem dX4_ring_12 : decode cX4_ring 12 = .ok (.if_icmp .ge 13, 3) := by decide +kernel
theorem dX4_ring_15 : decode cX4_ring 15 = .ok (.iload_n 2, 1) := by decide +kernel
theorem dX4_ring_16 : decode cX4_ring 16 = .ok (.iconst 5, 1) := by decide +kernel
theorem dX4_ring_17 : decode cX4_ring 17 = .ok (.imul, 1) := by decide +kernel
theorem dX4_ring_18 : decode cX4_ring 18 = .ok (.istore_n 2, 1) := by decide +kernel
theorem dX4_ring_19 : decode cX4_ring 19 = .ok (.iinc 3 1, 3) := by decide +kernel
theorem dX4_ring_22 : decode cX4_ring 22 = .ok (.goto (-18), 3) := by decide +kernel
theorem dX4_ring_25 : decode cX4_ring 25 = .ok (.iload_n 1, 1) := by decide +kernel
theorem dX4_ring_26 : decode cX4_ring 26 = .ok (.ifCond .lt 8, 3) := by decide +kernel
theorem dX4_ring_29 : decode cX4_ring 29 = .ok (.iload_n 1, 1) := by decide +kernel
theorem dX4_ring_30 : decode cX4_ring 30 = .ok (.iload_n 2, 1) := by decide +kernel
theorem dX4_ring_31 : decode cX4_ring 31 = .ok (.if_icmp .lt 5, 3) := by decide +kernel
theorem dX4_ring_34 : decode cX4_ring 34 = .ok (.iconst (-1), 1) := by decide +kernel
theorem dX4_ring_35 : decode cX4_ring 35 = .ok (.ireturn, 1) := by decide +kernel
theorem dX4_ring_36 : decode cX4_ring 36 = .ok (.aload_n 0, 1) := by decide +kernel
theorem dX4_ring_37 : decode cX4_ring 37 = .ok (.getfield 30, 3) := by decide +kernel
theorem dX4_ring_40 : decode cX4_ring 40 = .ok (.iload_n 1, 1) := by decide +kernel
theorem dX4_ring_41 : decode cX4_ring 41 = .ok (.invokevirtual 64, 3) := by decide +kernel
theorem dX4_ring_44 : decode cX4_ring 44 = .ok (.aload_n 0, 1) := by decide +kernel
theorem dX4_ring_45 : decode cX4_ring 45 = .ok (.invokevirtual 67, 3) := by decide +kernel
theorem dX4_ring_48 : decode cX4_ring 48 = .ok (.ifCond .eq 7, 3) := by decide +kernel
theorem dX4_ring_51 : decode cX4_ring 51 = .ok (.iconst 1, 1) := by decide +kernel
theorem dX4_ring_52 : decode cX4_ring 52 = .ok (.goto 4, 3) := by decide +kernel
theorem dX4_ring_55 : decode cX4_ring 55 = .ok (.iconst 0, 1) := by decide +kernel
theorem dX4_ring_56 : decode cX4_ring 56 = .ok (.ireturn, 1) := by decide +kernel
theorem dX4_fails_0 : decode cX4_fails 0 = .ok (.aload_n 0, 1) := by decide +kernel
theorem dX4_fails_1 : decode cX4_fails 1 = .ok (.getfield 30, 3) := by decide +kernel
theorem dX4_fails_4 : decode cX4_fails 4 = .ok (.getfield 71, 3) := by decide +kernel
theorem dX4_fails_7 : decode cX4_fails 7 = .ok (.ireturn, 1) := by decide +kernel
theorem dX4_number_0 : decode cX4_number 0 = .ok (.aload_n 0, 1) := by decide +kernel
theorem dX4_number_1 : decode cX4_number 1 = .ok (.iload_n 1, 1) := by decide +kernel
theorem dX4_number_2 : decode cX4_number 2 = .ok (.invokevirtual 74, 3) := by decide +kernel
theorem dX4_number_5 : decode cX4_number 5 = .ok (.ifCond .eq 19, 3) := by decide +kernel
theorem dX4_number_8 : decode cX4_number 8 = .ok (.aload_n 0, 1) := by decide +kernel
theorem dX4_number_9 : decode cX4_number 9 = .ok (.iload_n 2, 1) := by decide +kernel
theorem dX4_number_10 : decode cX4_number 10 = .ok (.invokevirtual 74, 3) := by decide +kernel
theorem dX4_number_13 : decode cX4_number 13 = .ok (.ifCond .eq 11, 3) := by decide +kernel
theorem dX4_number_16 : decode cX4_number 16 = .ok (.aload_n 0, 1) := by decide +kernel
theorem dX4_number_17 : decode cX4_number 17 = .ok (.iload_n 3, 1) := by decide +kernel
theorem dX4_number_18 : decode cX4_number 18 = .ok (.invokevirtual 74, 3) := by decide +kernel
theorem dX4_number_21 : decode cX4_number 21 = .ok (.ifCond .ne 5, 3) := by decide +kernel
theorem dX4_number_24 : decode cX4_number 24 = .ok (.iconst (-1), 1) := by decide +kernel
theorem dX4_number_25 : decode cX4_number 25 = .ok (.ireturn, 1) := by decide +kernel
theorem dX4_number_26 : decode cX4_number 26 = .ok (.aload_n 0, 1) := by decide +kernel
theorem dX4_number_27 : decode cX4_number 27 = .ok (.invokevirtual 67, 3) := by decide +kernel
theorem dX4_number_30 : decode cX4_number 30 = .ok (.ifCond .ne 6, 3) := by decide +kernel
theorem dX4_number_33 : decode cX4_number 33 = .ok (.bipush (-2), 2) := by decide +kernel
theorem dX4_number_35 : decode cX4_number 35 = .ok (.ireturn, 1) := by decide +kernel
theorem dX4_number_36 : decode cX4_number 36 = .ok (.aload_n 0, 1) := by decide +kernel
theorem dX4_number_37 : decode cX4_number 37 = .ok (.getfield 30, 3) := by decide +kernel
theorem dX4_number_40 : decode cX4_number 40 = .ok (.iload_n 1, 1) := by decide +kernel
theorem dX4_number_41 : decode cX4_number 41 = .ok (.iload_n 2, 1) := by decide +kernel
theorem dX4_number_42 : decode cX4_number 42 = .ok (.iload_n 3, 1) := by decide +kernel
theorem dX4_number_43 : decode cX4_number 43 = .ok (.invokevirtual 77, 3) := by decide +kernel
theorem dX4_number_46 : decode cX4_number 46 = .ok (.ireturn, 1) := by decide +kernel
theorem dX4_of_0 : decode cX4_of 0 = .ok (.aload_n 0, 1) := by decide +kernel
theorem dX4_of_1 : decode cX4_of 1 = .ok (.iload_n 1, 1) := by decide +kernel
theorem dX4_of_2 : decode cX4_of 2 = .ok (.invokevirtual 74, 3) := by decide +kernel
theorem dX4_of_5 : decode cX4_of 5 = .ok (.ifCond .eq 12, 3) := by decide +kernel
theorem dX4_of_8 : decode cX4_of 8 = .ok (.iload_n 2, 1) := by decide +kernel
theorem dX4_of_9 : decode cX4_of 9 = .ok (.ifCond .lt 8, 3) := by decide +kernel
theorem dX4_of_12 : decode cX4_of 12 = .ok (.iload_n 2, 1) := by decide +kernel
theorem dX4_of_13 : decode cX4_of 13 = .ok (.iconst 1, 1) := by decide +kernel
theorem dX4_of_14 : decode cX4_of 14 = .ok (.if_icmp .le 5, 3) := by decide +kernel
theorem dX4_of_17 : decode cX4_of 17 = .ok (.iconst (-1), 1) := by decide +kernel
theorem dX4_of_18 : decode cX4_of 18 = .ok (.ireturn, 1) := by decide +kernel
theorem dX4_of_19 : decode cX4_of 19 = .ok (.aload_n 0, 1) := by decide +kernel
theorem dX4_of_20 : decode cX4_of 20 = .ok (.invokevirtual 67, 3) := by decide +kernel
theorem dX4_of_23 : decode cX4_of 23 = .ok (.ifCond .ne 6, 3) := by decide +kernel
theorem dX4_of_26 : decode cX4_of 26 = .ok (.bipush (-2), 2) := by decide +kernel
theorem dX4_of_28 : decode cX4_of 28 = .ok (.ireturn, 1) := by decide +kernel
theorem dX4_of_29 : decode cX4_of 29 = .ok (.iload_n 2, 1) := by decide +kernel
theorem dX4_of_30 : decode cX4_of 30 = .ok (.ifCond .ne 14, 3) := by decide +kernel
theorem dX4_of_33 : decode cX4_of 33 = .ok (.aload_n 0, 1) := by decide +kernel
theorem dX4_of_34 : decode cX4_of 34 = .ok (.getfield 30, 3) := by decide +kernel
theorem dX4_of_37 : decode cX4_of 37 = .ok (.iload_n 1, 1) := by decide +kernel
theorem dX4_of_38 : decode cX4_of 38 = .ok (.invokevirtual 81, 3) := by decide +kernel
theorem dX4_of_41 : decode cX4_of 41 = .ok (.goto 11, 3) := by decide +kernel
theorem dX4_of_44 : decode cX4_of 44 = .ok (.aload_n 0, 1) := by decide +kernel
theorem dX4_of_45 : decode cX4_of 45 = .ok (.getfield 30, 3) := by decide +kernel
theorem dX4_of_48 : decode cX4_of 48 = .ok (.iload_n 1, 1) := by decide +kernel
theorem dX4_of_49 : decode cX4_of 49 = .ok (.invokevirtual 85, 3) := by decide +kernel
theorem dX4_of_52 : decode cX4_of 52 = .ok (.ireturn, 1) := by decide +kernel
theorem dX4_turns_0 : decode cX4_turns 0 = .ok (.aload_n 0, 1) := by decide +kernel
theorem dX4_turns_1 : decode cX4_turns 1 = .ok (.invokevirtual 67, 3) := by decide +kernel
theorem dX4_turns_4 : decode cX4_turns 4 = .ok (.ifCond .ne 6, 3) := by decide +kernel
theorem dX4_turns_7 : decode cX4_turns 7 = .ok (.bipush (-2), 2) := by decide +kernel
theorem dX4_turns_9 : decode cX4_turns 9 = .ok (.ireturn, 1) := by decide +kernel
theorem dX4_turns_10 : decode cX4_turns 10 = .ok (.aload_n 0, 1) := by decide +kernel
theorem dX4_turns_11 : decode cX4_turns 11 = .ok (.getfield 30, 3) := by decide +kernel
theorem dX4_turns_14 : decode cX4_turns 14 = .ok (.invokevirtual 88, 3) := by decide +kernel
theorem dX4_turns_17 : decode cX4_turns 17 = .ok (.ifCond .eq 7, 3) := by decide +kernel
theorem dX4_turns_20 : decode cX4_turns 20 = .ok (.iconst 1, 1) := by decide +kernel
theorem dX4_turns_21 : decode cX4_turns 21 = .ok (.goto 4, 3) := by decide +kernel
theorem dX4_turns_24 : decode cX4_turns 24 = .ok (.iconst 0, 1) := by decide +kernel
theorem dX4_turns_25 : decode cX4_turns 25 = .ok (.ireturn, 1) := by decide +kernel
theorem dX4_closed_0 : decode cX4_closed 0 = .ok (.iload_n 2, 1) := by decide +kernel
theorem dX4_closed_1 : decode cX4_closed 1 = .ok (.ifCond .lt 21, 3) := by decide +kernel
theorem dX4_closed_4 : decode cX4_closed 4 = .ok (.iload_n 2, 1) := by decide +kernel
theorem dX4_closed_5 : decode cX4_closed 5 = .ok (.iconst 2, 1) := by decide +kernel
theorem dX4_closed_6 : decode cX4_closed 6 = .ok (.if_icmp .gt 16, 3) := by decide +kernel
theorem dX4_closed_9 : decode cX4_closed 9 = .ok (.iload_n 2, 1) := by decide +kernel
theorem dX4_closed_10 : decode cX4_closed 10 = .ok (.iconst 2, 1) := by decide +kernel
theorem dX4_closed_11 : decode cX4_closed 11 = .ok (.if_icmp .eq 13, 3) := by decide +kernel
theorem dX4_closed_14 : decode cX4_closed 14 = .ok (.aload_n 0, 1) := by decide +kernel
theorem dX4_closed_15 : decode cX4_closed 15 = .ok (.iload_n 1, 1) := by decide +kernel
theorem dX4_closed_16 : decode cX4_closed 16 = .ok (.invokevirtual 91, 3) := by decide +kernel
theorem dX4_closed_19 : decode cX4_closed 19 = .ok (.ifCond .ne 5, 3) := by decide +kernel
theorem dX4_closed_22 : decode cX4_closed 22 = .ok (.iconst (-1), 1) := by decide +kernel
theorem dX4_closed_23 : decode cX4_closed 23 = .ok (.ireturn, 1) := by decide +kernel
theorem dX4_closed_24 : decode cX4_closed 24 = .ok (.aload_n 0, 1) := by decide +kernel
theorem dX4_closed_25 : decode cX4_closed 25 = .ok (.invokevirtual 67, 3) := by decide +kernel
theorem dX4_closed_28 : decode cX4_closed 28 = .ok (.ifCond .ne 6, 3) := by decide +kernel
theorem dX4_closed_31 : decode cX4_closed 31 = .ok (.bipush (-2), 2) := by decide +kernel
theorem dX4_closed_33 : decode cX4_closed 33 = .ok (.ireturn, 1) := by decide +kernel
theorem dX4_closed_34 : decode cX4_closed 34 = .ok (.iload_n 2, 1) := by decide +kernel
theorem dX4_closed_35 : decode cX4_closed 35 = .ok (.ifCond .ne 20, 3) := by decide +kernel
theorem dX4_closed_38 : decode cX4_closed 38 = .ok (.aload_n 0, 1) := by decide +kernel
theorem dX4_closed_39 : decode cX4_closed 39 = .ok (.getfield 30, 3) := by decide +kernel
theorem dX4_closed_42 : decode cX4_closed 42 = .ok (.iload_n 1, 1) := by decide +kernel
theorem dX4_closed_43 : decode cX4_closed 43 = .ok (.invokevirtual 94, 3) := by decide +kernel
theorem dX4_closed_46 : decode cX4_closed 46 = .ok (.ifCond .eq 7, 3) := by decide +kernel
theorem dX4_closed_49 : decode cX4_closed 49 = .ok (.iconst 1, 1) := by decide +kernel
theorem dX4_closed_50 : decode cX4_closed 50 = .ok (.goto 4, 3) := by decide +kernel
theorem dX4_closed_53 : decode cX4_closed 53 = .ok (.iconst 0, 1) := by decide +kernel
theorem dX4_closed_54 : decode cX4_closed 54 = .ok (.ireturn, 1) := by decide +kernel
theorem dX4_closed_55 : decode cX4_closed 55 = .ok (.iload_n 2, 1) := by decide +kernel
theorem dX4_closed_56 : decode cX4_closed 56 = .ok (.iconst 1, 1) := by decide +kernel
theorem dX4_closed_57 : decode cX4_closed 57 = .ok (.if_icmp .ne 14, 3) := by decide +kernel
theorem dX4_closed_60 : decode cX4_closed 60 = .ok (.aload_n 0, 1) := by decide +kernel
theorem dX4_closed_61 : decode cX4_closed 61 = .ok (.getfield 30, 3) := by decide +kernel
theorem dX4_closed_64 : decode cX4_closed 64 = .ok (.iload_n 1, 1) := by decide +kernel
theorem dX4_closed_65 : decode cX4_closed 65 = .ok (.invokevirtual 97, 3) := by decide +kernel
theorem dX4_closed_68 : decode cX4_closed 68 = .ok (.goto 10, 3) := by decide +kernel
theorem dX4_closed_71 : decode cX4_closed 71 = .ok (.aload_n 0, 1) := by decide +kernel
theorem dX4_closed_72 : decode cX4_closed 72 = .ok (.getfield 30, 3) := by decide +kernel
theorem dX4_closed_75 : decode cX4_closed 75 = .ok (.invokevirtual 100, 3) := by decide +kernel
theorem dX4_closed_78 : decode cX4_closed 78 = .ok (.ireturn, 1) := by decide +kernel
theorem dX4_order_0 : decode cX4_order 0 = .ok (.aload_n 0, 1) := by decide +kernel
theorem dX4_order_1 : decode cX4_order 1 = .ok (.iload_n 1, 1) := by decide +kernel
theorem dX4_order_2 : decode cX4_order 2 = .ok (.invokevirtual 91, 3) := by decide +kernel
theorem dX4_order_5 : decode cX4_order 5 = .ok (.ifCond .ne 5, 3) := by decide +kernel
theorem dX4_order_8 : decode cX4_order 8 = .ok (.iconst (-1), 1) := by decide +kernel
theorem dX4_order_9 : decode cX4_order 9 = .ok (.ireturn, 1) := by decide +kernel
theorem dX4_order_10 : decode cX4_order 10 = .ok (.aload_n 0, 1) := by decide +kernel
theorem dX4_order_11 : decode cX4_order 11 = .ok (.invokevirtual 67, 3) := by decide +kernel
theorem dX4_order_14 : decode cX4_order 14 = .ok (.ifCond .ne 6, 3) := by decide +kernel
theorem dX4_order_17 : decode cX4_order 17 = .ok (.bipush (-2), 2) := by decide +kernel
theorem dX4_order_19 : decode cX4_order 19 = .ok (.ireturn, 1) := by decide +kernel
theorem dX4_order_20 : decode cX4_order 20 = .ok (.aload_n 0, 1) := by decide +kernel
theorem dX4_order_21 : decode cX4_order 21 = .ok (.getfield 30, 3) := by decide +kernel
theorem dX4_order_24 : decode cX4_order 24 = .ok (.aload_n 0, 1) := by decide +kernel
theorem dX4_order_25 : decode cX4_order 25 = .ok (.getfield 30, 3) := by decide +kernel
theorem dX4_order_28 : decode cX4_order 28 = .ok (.iload_n 1, 1) := by decide +kernel
theorem dX4_order_29 : decode cX4_order 29 = .ok (.invokevirtual 97, 3) := by decide +kernel
theorem dX4_order_32 : decode cX4_order 32 = .ok (.invokevirtual 104, 3) := by decide +kernel
theorem dX4_order_35 : decode cX4_order 35 = .ok (.ireturn, 1) := by decide +kernel
theorem dX4_worth_0 : decode cX4_worth 0 = .ok (.iload_n 1, 1) := by decide +kernel
theorem dX4_worth_1 : decode cX4_worth 1 = .ok (.ifCond .lt 16, 3) := by decide +kernel
theorem dX4_worth_4 : decode cX4_worth 4 = .ok (.iload_n 1, 1) := by decide +kernel
theorem dX4_worth_5 : decode cX4_worth 5 = .ok (.iconst 2, 1) := by decide +kernel
theorem dX4_worth_6 : decode cX4_worth 6 = .ok (.if_icmp .gt 11, 3) := by decide +kernel
theorem dX4_worth_9 : decode cX4_worth 9 = .ok (.aload_n 0, 1) := by decide +kernel
theorem dX4_worth_10 : decode cX4_worth 10 = .ok (.iload_n 2, 1) := by decide +kernel
theorem dX4_worth_11 : decode cX4_worth 11 = .ok (.invokevirtual 74, 3) := by decide +kernel
theorem dX4_worth_14 : decode cX4_worth 14 = .ok (.ifCond .ne 5, 3) := by decide +kernel
theorem dX4_worth_17 : decode cX4_worth 17 = .ok (.iconst (-1), 1) := by decide +kernel
theorem dX4_worth_18 : decode cX4_worth 18 = .ok (.ireturn, 1) := by decide +kernel
theorem dX4_worth_19 : decode cX4_worth 19 = .ok (.aload_n 0, 1) := by decide +kernel
theorem dX4_worth_20 : decode cX4_worth 20 = .ok (.invokevirtual 67, 3) := by decide +kernel
theorem dX4_worth_23 : decode cX4_worth 23 = .ok (.ifCond .ne 6, 3) := by decide +kernel
theorem dX4_worth_26 : decode cX4_worth 26 = .ok (.bipush (-2), 2) := by decide +kernel
theorem dX4_worth_28 : decode cX4_worth 28 = .ok (.ireturn, 1) := by decide +kernel
theorem dX4_worth_29 : decode cX4_worth 29 = .ok (.iload_n 1, 1) := by decide +kernel
theorem dX4_worth_30 : decode cX4_worth 30 = .ok (.ifCond .ne 9, 3) := by decide +kernel
theorem dX4_worth_33 : decode cX4_worth 33 = .ok (.aload_n 0, 1) := by decide +kernel
theorem dX4_worth_34 : decode cX4_worth 34 = .ok (.iload_n 2, 1) := by decide +kernel
theorem dX4_worth_35 : decode cX4_worth 35 = .ok (.invokevirtual 107, 3) := by decide +kernel
theorem dX4_worth_38 : decode cX4_worth 38 = .ok (.ireturn, 1) := by decide +kernel
theorem dX4_worth_39 : decode cX4_worth 39 = .ok (.iload_n 1, 1) := by decide +kernel
theorem dX4_worth_40 : decode cX4_worth 40 = .ok (.iconst 1, 1) := by decide +kernel
theorem dX4_worth_41 : decode cX4_worth 41 = .ok (.if_icmp .ne 11, 3) := by decide +kernel
theorem dX4_worth_44 : decode cX4_worth 44 = .ok (.aload_n 0, 1) := by decide +kernel
theorem dX4_worth_45 : decode cX4_worth 45 = .ok (.iload_n 2, 1) := by decide +kernel
theorem dX4_worth_46 : decode cX4_worth 46 = .ok (.invokevirtual 110, 3) := by decide +kernel
theorem dX4_worth_49 : decode cX4_worth 49 = .ok (.goto 8, 3) := by decide +kernel
theorem dX4_worth_52 : decode cX4_worth 52 = .ok (.aload_n 0, 1) := by decide +kernel
theorem dX4_worth_53 : decode cX4_worth 53 = .ok (.iload_n 2, 1) := by decide +kernel
theorem dX4_worth_54 : decode cX4_worth 54 = .ok (.invokevirtual 113, 3) := by decide +kernel
theorem dX4_worth_57 : decode cX4_worth 57 = .ok (.ireturn, 1) := by decide +kernel
theorem dX4_fuse_0 : decode cX4_fuse 0 = .ok (.iload_n 1, 1) := by decide +kernel
theorem dX4_fuse_1 : decode cX4_fuse 1 = .ok (.ifCond .lt 18, 3) := by decide +kernel
theorem dX4_fuse_4 : decode cX4_fuse 4 = .ok (.iload_n 1, 1) := by decide +kernel
theorem dX4_fuse_5 : decode cX4_fuse 5 = .ok (.sipush 625, 3) := by decide +kernel
theorem dX4_fuse_8 : decode cX4_fuse 8 = .ok (.if_icmp .ge 11, 3) := by decide +kernel
theorem dX4_fuse_11 : decode cX4_fuse 11 = .ok (.aload_n 0, 1) := by decide +kernel
theorem dX4_fuse_12 : decode cX4_fuse 12 = .ok (.iload_n 1, 1) := by decide +kernel
theorem dX4_fuse_13 : decode cX4_fuse 13 = .ok (.invokevirtual 116, 3) := by decide +kernel
theorem dX4_fuse_16 : decode cX4_fuse 16 = .ok (.ifCond .ne 5, 3) := by decide +kernel
theorem dX4_fuse_19 : decode cX4_fuse 19 = .ok (.iconst (-1), 1) := by decide +kernel
theorem dX4_fuse_20 : decode cX4_fuse 20 = .ok (.ireturn, 1) := by decide +kernel
theorem dX4_fuse_21 : decode cX4_fuse 21 = .ok (.aload_n 0, 1) := by decide +kernel
theorem dX4_fuse_22 : decode cX4_fuse 22 = .ok (.invokevirtual 67, 3) := by decide +kernel
theorem dX4_fuse_25 : decode cX4_fuse 25 = .ok (.ifCond .ne 6, 3) := by decide +kernel
theorem dX4_fuse_28 : decode cX4_fuse 28 = .ok (.bipush (-2), 2) := by decide +kernel
theorem dX4_fuse_30 : decode cX4_fuse 30 = .ok (.ireturn, 1) := by decide +kernel
theorem dX4_fuse_31 : decode cX4_fuse 31 = .ok (.aload_n 0, 1) := by decide +kernel
theorem dX4_fuse_32 : decode cX4_fuse 32 = .ok (.getfield 34, 3) := by decide +kernel
theorem dX4_fuse_35 : decode cX4_fuse 35 = .ok (.aload_n 0, 1) := by decide +kernel
theorem dX4_fuse_36 : decode cX4_fuse 36 = .ok (.getfield 30, 3) := by decide +kernel
theorem dX4_fuse_39 : decode cX4_fuse 39 = .ok (.iload_n 1, 1) := by decide +kernel
theorem dX4_fuse_40 : decode cX4_fuse 40 = .ok (.invokevirtual 119, 3) := by decide +kernel
theorem dX4_fuse_43 : decode cX4_fuse 43 = .ok (.aload_n 0, 1) := by decide +kernel
theorem dX4_fuse_44 : decode cX4_fuse 44 = .ok (.getfield 34, 3) := by decide +kernel
theorem dX4_fuse_47 : decode cX4_fuse 47 = .ok (.getfield 71, 3) := by decide +kernel
theorem dX4_fuse_50 : decode cX4_fuse 50 = .ok (.ifCond .eq 5, 3) := by decide +kernel
theorem dX4_fuse_53 : decode cX4_fuse 53 = .ok (.iconst 0, 1) := by decide +kernel
theorem dX4_fuse_54 : decode cX4_fuse 54 = .ok (.ireturn, 1) := by decide +kernel
theorem dX4_fuse_55 : decode cX4_fuse 55 = .ok (.aload_n 0, 1) := by decide +kernel
theorem dX4_fuse_56 : decode cX4_fuse 56 = .ok (.invokevirtual 123, 3) := by decide +kernel
theorem dX4_fuse_59 : decode cX4_fuse 59 = .ok (.iconst 1, 1) := by decide +kernel
theorem dX4_fuse_60 : decode cX4_fuse 60 = .ok (.ireturn, 1) := by decide +kernel
theorem dX4_quotient_0 : decode cX4_quotient 0 = .ok (.aload_n 0, 1) := by decide +kernel
theorem dX4_quotient_1 : decode cX4_quotient 1 = .ok (.iload_n 1, 1) := by decide +kernel
theorem dX4_quotient_2 : decode cX4_quotient 2 = .ok (.invokevirtual 91, 3) := by decide +kernel
theorem dX4_quotient_5 : decode cX4_quotient 5 = .ok (.ifCond .ne 5, 3) := by decide +kernel
theorem dX4_quotient_8 : decode cX4_quotient 8 = .ok (.iconst (-1), 1) := by decide +kernel
theorem dX4_quotient_9 : decode cX4_quotient 9 = .ok (.ireturn, 1) := by decide +kernel
theorem dX4_quotient_10 : decode cX4_quotient 10 = .ok (.aload_n 0, 1) := by decide +kernel
theorem dX4_quotient_11 : decode cX4_quotient 11 = .ok (.invokevirtual 67, 3) := by decide +kernel
theorem dX4_quotient_14 : decode cX4_quotient 14 = .ok (.ifCond .ne 6, 3) := by decide +kernel
theorem dX4_quotient_17 : decode cX4_quotient 17 = .ok (.bipush (-2), 2) := by decide +kernel
theorem dX4_quotient_19 : decode cX4_quotient 19 = .ok (.ireturn, 1) := by decide +kernel
theorem dX4_quotient_20 : decode cX4_quotient 20 = .ok (.aload_n 0, 1) := by decide +kernel
theorem dX4_quotient_21 : decode cX4_quotient 21 = .ok (.getfield 23, 3) := by decide +kernel
theorem dX4_quotient_24 : decode cX4_quotient 24 = .ok (.aload_n 0, 1) := by decide +kernel
theorem dX4_quotient_25 : decode cX4_quotient 25 = .ok (.getfield 30, 3) := by decide +kernel
theorem dX4_quotient_28 : decode cX4_quotient 28 = .ok (.aload_n 0, 1) := by decide +kernel
theorem dX4_quotient_29 : decode cX4_quotient 29 = .ok (.getfield 30, 3) := by decide +kernel
theorem dX4_quotient_32 : decode cX4_quotient 32 = .ok (.iload_n 1, 1) := by decide +kernel
theorem dX4_quotient_33 : decode cX4_quotient 33 = .ok (.invokevirtual 97, 3) := by decide +kernel
theorem dX4_quotient_36 : decode cX4_quotient 36 = .ok (.aload_n 0, 1) := by decide +kernel
theorem dX4_quotient_37 : decode cX4_quotient 37 = .ok (.getfield 34, 3) := by decide +kernel
theorem dX4_quotient_40 : decode cX4_quotient 40 = .ok (.invokevirtual 126, 3) := by decide +kernel
theorem dX4_quotient_43 : decode cX4_quotient 43 = .ok (.aload_n 0, 1) := by decide +kernel
theorem dX4_quotient_44 : decode cX4_quotient 44 = .ok (.invokevirtual 123, 3) := by decide +kernel
theorem dX4_quotient_47 : decode cX4_quotient 47 = .ok (.aload_n 0, 1) := by decide +kernel
theorem dX4_quotient_48 : decode cX4_quotient 48 = .ok (.getfield 30, 3) := by decide +kernel
theorem dX4_quotient_51 : decode cX4_quotient 51 = .ok (.getfield 45, 3) := by decide +kernel
theorem dX4_quotient_54 : decode cX4_quotient 54 = .ok (.ireturn, 1) := by decide +kernel
theorem dX4_weight_0 : decode cX4_weight 0 = .ok (.iload_n 1, 1) := by decide +kernel
theorem dX4_weight_1 : decode cX4_weight 1 = .ok (.ifCond .lt 18, 3) := by decide +kernel
theorem dX4_weight_4 : decode cX4_weight 4 = .ok (.iload_n 1, 1) := by decide +kernel
theorem dX4_weight_5 : decode cX4_weight 5 = .ok (.iconst 5, 1) := by decide +kernel
theorem dX4_weight_6 : decode cX4_weight 6 = .ok (.if_icmp .ge 13, 3) := by decide +kernel
theorem dX4_weight_9 : decode cX4_weight 9 = .ok (.iload_n 2, 1) := by decide +kernel
theorem dX4_weight_10 : decode cX4_weight 10 = .ok (.ifCond .lt 9, 3) := by decide +kernel
theorem dX4_weight_13 : decode cX4_weight 13 = .ok (.iload_n 2, 1) := by decide +kernel
theorem dX4_weight_14 : decode cX4_weight 14 = .ok (.bipush 9, 2) := by decide +kernel
theorem dX4_weight_16 : decode cX4_weight 16 = .ok (.if_icmp .le 5, 3) := by decide +kernel
theorem dX4_weight_19 : decode cX4_weight 19 = .ok (.iconst (-1), 1) := by decide +kernel
theorem dX4_weight_20 : decode cX4_weight 20 = .ok (.ireturn, 1) := by decide +kernel
theorem dX4_weight_21 : decode cX4_weight 21 = .ok (.aload_n 0, 1) := by decide +kernel
theorem dX4_weight_22 : decode cX4_weight 22 = .ok (.getfield 9, 3) := by decide +kernel
theorem dX4_weight_25 : decode cX4_weight 25 = .ok (.iload_n 1, 1) := by decide +kernel
theorem dX4_weight_26 : decode cX4_weight 26 = .ok (.iaload, 1) := by decide +kernel
theorem dX4_weight_27 : decode cX4_weight 27 = .ok (.istore_n 3, 1) := by decide +kernel
theorem dX4_weight_28 : decode cX4_weight 28 = .ok (.aload_n 0, 1) := by decide +kernel
theorem dX4_weight_29 : decode cX4_weight 29 = .ok (.getfield 9, 3) := by decide +kernel
theorem dX4_weight_32 : decode cX4_weight 32 = .ok (.iload_n 1, 1) := by decide +kernel
theorem dX4_weight_33 : decode cX4_weight 33 = .ok (.iload_n 2, 1) := by decide +kernel
theorem dX4_weight_34 : decode cX4_weight 34 = .ok (.iastore, 1) := by decide +kernel
theorem dX4_weight_35 : decode cX4_weight 35 = .ok (.iload_n 3, 1) := by decide +kernel
theorem dX4_weight_36 : decode cX4_weight 36 = .ok (.ireturn, 1) := by decide +kernel
theorem dX4_chance_0 : decode cX4_chance 0 = .ok (.aload_n 0, 1) := by decide +kernel
theorem dX4_chance_1 : decode cX4_chance 1 = .ok (.iload_n 1, 1) := by decide +kernel
theorem dX4_chance_2 : decode cX4_chance 2 = .ok (.invokevirtual 74, 3) := by decide +kernel
theorem dX4_chance_5 : decode cX4_chance 5 = .ok (.ifCond .eq 22, 3) := by decide +kernel
theorem dX4_chance_8 : decode cX4_chance 8 = .ok (.iload_n 2, 1) := by decide +kernel
theorem dX4_chance_9 : decode cX4_chance 9 = .ok (.ifCond .lt 18, 3) := by decide +kernel
theorem dX4_chance_12 : decode cX4_chance 12 = .ok (.iload_n 2, 1) := by decide +kernel
theorem dX4_chance_13 : decode cX4_chance 13 = .ok (.bipush 6, 2) := by decide +kernel
theorem dX4_chance_15 : decode cX4_chance 15 = .ok (.if_icmp .gt 12, 3) := by decide +kernel
theorem dX4_chance_18 : decode cX4_chance 18 = .ok (.iload_n 3, 1) := by decide +kernel
theorem dX4_chance_19 : decode cX4_chance 19 = .ok (.ifCond .lt 8, 3) := by decide +kernel
theorem dX4_chance_22 : decode cX4_chance 22 = .ok (.iload_n 3, 1) := by decide +kernel
theorem dX4_chance_23 : decode cX4_chance 23 = .ok (.iconst 1, 1) := by decide +kernel
theorem dX4_chance_24 : decode cX4_chance 24 = .ok (.if_icmp .le 7, 3) := by decide +kernel
theorem dX4_chance_27 : decode cX4_chance 27 = .ok (.ldc2_w 130, 3) := by decide +kernel
theorem dX4_chance_30 : decode cX4_chance 30 = .ok (.lreturn, 1) := by decide +kernel
theorem dX4_chance_31 : decode cX4_chance 31 = .ok (.aload_n 0, 1) := by decide +kernel
theorem dX4_chance_32 : decode cX4_chance 32 = .ok (.invokevirtual 67, 3) := by decide +kernel
theorem dX4_chance_35 : decode cX4_chance 35 = .ok (.ifCond .eq 10, 3) := by decide +kernel
theorem dX4_chance_38 : decode cX4_chance 38 = .ok (.aload_n 0, 1) := by decide +kernel
theorem dX4_chance_39 : decode cX4_chance 39 = .ok (.invokevirtual 132, 3) := by decide +kernel
theorem dX4_chance_42 : decode cX4_chance 42 = .ok (.ifCond .ne 7, 3) := by decide +kernel
theorem dX4_chance_45 : decode cX4_chance 45 = .ok (.ldc2_w 135, 3) := by decide +kernel
theorem dX4_chance_48 : decode cX4_chance 48 = .ok (.lreturn, 1) := by decide +kernel
theorem dX4_chance_49 : decode cX4_chance 49 = .ok (.aload_n 0, 1) := by decide +kernel
theorem dX4_chance_50 : decode cX4_chance 50 = .ok (.getfield 16, 3) := by decide +kernel
theorem dX4_chance_53 : decode cX4_chance 53 = .ok (.aload_n 0, 1) := by decide +kernel
theorem dX4_chance_54 : decode cX4_chance 54 = .ok (.getfield 30, 3) := by decide +kernel
theorem dX4_chance_57 : decode cX4_chance 57 = .ok (.aload_n 0, 1) := by decide +kernel
theorem dX4_chance_58 : decode cX4_chance 58 = .ok (.getfield 9, 3) := by decide +kernel
theorem dX4_chance_61 : decode cX4_chance 61 = .ok (.iload_n 2, 1) := by decide +kernel
theorem dX4_chance_62 : decode cX4_chance 62 = .ok (.invokevirtual 137, 3) := by decide +kernel
theorem dX4_chance_65 : decode cX4_chance 65 = .ok (.aload_n 0, 1) := by decide +kernel
theorem dX4_chance_66 : decode cX4_chance 66 = .ok (.getfield 16, 3) := by decide +kernel
theorem dX4_chance_69 : decode cX4_chance 69 = .ok (.aload_n 0, 1) := by decide +kernel
theorem dX4_chance_70 : decode cX4_chance 70 = .ok (.getfield 30, 3) := by decide +kernel
theorem dX4_chance_73 : decode cX4_chance 73 = .ok (.iload_n 1, 1) := by decide +kernel
theorem dX4_chance_74 : decode cX4_chance 74 = .ok (.invokevirtual 141, 3) := by decide +kernel
theorem dX4_chance_77 : decode cX4_chance 77 = .ok (.lstore 4, 2) := by decide +kernel
theorem dX4_chance_79 : decode cX4_chance 79 = .ok (.aload_n 0, 1) := by decide +kernel
theorem dX4_chance_80 : decode cX4_chance 80 = .ok (.getfield 16, 3) := by decide +kernel
theorem dX4_chance_83 : decode cX4_chance 83 = .ok (.getfield 145, 3) := by decide +kernel
theorem dX4_chance_86 : decode cX4_chance 86 = .ok (.lstore 6, 2) := by decide +kernel
theorem dX4_chance_88 : decode cX4_chance 88 = .ok (.lload 4, 2) := by decide +kernel
theorem dX4_chance_90 : decode cX4_chance 90 = .ok (.lload 6, 2) := by decide +kernel
theorem dX4_chance_92 : decode cX4_chance 92 = .ok (.invokestatic 148, 3) := by decide +kernel
theorem dX4_chance_95 : decode cX4_chance 95 = .ok (.lstore 8, 2) := by decide +kernel
theorem dX4_chance_97 : decode cX4_chance 97 = .ok (.lload 8, 2) := by decide +kernel
theorem dX4_chance_99 : decode cX4_chance 99 = .ok (.lconst 0, 1) := by decide +kernel
theorem dX4_chance_100 : decode cX4_chance 100 = .ok (.lcmp, 1) := by decide +kernel
theorem dX4_chance_101 : decode cX4_chance 101 = .ok (.ifCond .ne 7, 3) := by decide +kernel
theorem dX4_chance_104 : decode cX4_chance 104 = .ok (.ldc2_w 135, 3) := by decide +kernel
theorem dX4_chance_107 : decode cX4_chance 107 = .ok (.lreturn, 1) := by decide +kernel
theorem dX4_chance_108 : decode cX4_chance 108 = .ok (.iload_n 3, 1) := by decide +kernel
theorem dX4_chance_109 : decode cX4_chance 109 = .ok (.ifCond .ne 11, 3) := by decide +kernel
theorem dX4_chance_112 : decode cX4_chance 112 = .ok (.lload 4, 2) := by decide +kernel
theorem dX4_chance_114 : decode cX4_chance 114 = .ok (.lload 8, 2) := by decide +kernel
theorem dX4_chance_116 : decode cX4_chance 116 = .ok (.ldiv, 1) := by decide +kernel
theorem dX4_chance_117 : decode cX4_chance 117 = .ok (.goto 8, 3) := by decide +kernel
theorem dX4_chance_120 : decode cX4_chance 120 = .ok (.lload 6, 2) := by decide +kernel
theorem dX4_chance_122 : decode cX4_chance 122 = .ok (.lload 8, 2) := by decide +kernel
theorem dX4_chance_124 : decode cX4_chance 124 = .ok (.ldiv, 1) := by decide +kernel
theorem dX4_chance_125 : decode cX4_chance 125 = .ok (.lreturn, 1) := by decide +kernel
theorem dX4_sieve_0 : decode cX4_sieve 0 = .ok (.iload_n 1, 1) := by decide +kernel
theorem dX4_sieve_1 : decode cX4_sieve 1 = .ok (.iconst 2, 1) := by decide +kernel
theorem dX4_sieve_2 : decode cX4_sieve 2 = .ok (.if_icmp .lt 22, 3) := by decide +kernel
theorem dX4_sieve_5 : decode cX4_sieve 5 = .ok (.iload_n 1, 1) := by decide +kernel
theorem dX4_sieve_6 : decode cX4_sieve 6 = .ok (.sipush 200, 3) := by decide +kernel
theorem dX4_sieve_9 : decode cX4_sieve 9 = .ok (.if_icmp .gt 15, 3) := by decide +kernel
theorem dX4_sieve_12 : decode cX4_sieve 12 = .ok (.iload_n 2, 1) := by decide +kernel
theorem dX4_sieve_13 : decode cX4_sieve 13 = .ok (.iconst 1, 1) := by decide +kernel
theorem dX4_sieve_14 : decode cX4_sieve 14 = .ok (.if_icmp .lt 10, 3) := by decide +kernel
theorem dX4_sieve_17 : decode cX4_sieve 17 = .ok (.iload_n 2, 1) := by decide +kernel
theorem dX4_sieve_18 : decode cX4_sieve 18 = .ok (.iload_n 1, 1) := by decide +kernel
theorem dX4_sieve_19 : decode cX4_sieve 19 = .ok (.iconst 2, 1) := by decide +kernel
theorem dX4_sieve_20 : decode cX4_sieve 20 = .ok (.isub, 1) := by decide +kernel
theorem dX4_sieve_21 : decode cX4_sieve 21 = .ok (.if_icmp .le 5, 3) := by decide +kernel
theorem dX4_sieve_24 : decode cX4_sieve 24 = .ok (.iconst (-1), 1) := by decide +kernel
theorem dX4_sieve_25 : decode cX4_sieve 25 = .ok (.ireturn, 1) := by decide +kernel
theorem dX4_sieve_26 : decode cX4_sieve 26 = .ok (.iload_n 3, 1) := by decide +kernel
theorem dX4_sieve_27 : decode cX4_sieve 27 = .ok (.ifCond .lt 21, 3) := by decide +kernel
theorem dX4_sieve_30 : decode cX4_sieve 30 = .ok (.iload_n 3, 1) := by decide +kernel
theorem dX4_sieve_31 : decode cX4_sieve 31 = .ok (.iload_n 2, 1) := by decide +kernel
theorem dX4_sieve_32 : decode cX4_sieve 32 = .ok (.iconst 1, 1) := by decide +kernel
theorem dX4_sieve_33 : decode cX4_sieve 33 = .ok (.isub, 1) := by decide +kernel
theorem dX4_sieve_34 : decode cX4_sieve 34 = .ok (.if_icmp .gt 14, 3) := by decide +kernel
theorem dX4_sieve_37 : decode cX4_sieve 37 = .ok (.iload 4, 2) := by decide +kernel
theorem dX4_sieve_39 : decode cX4_sieve 39 = .ok (.ifCond .lt 9, 3) := by decide +kernel
theorem dX4_sieve_42 : decode cX4_sieve 42 = .ok (.iload 4, 2) := by decide +kernel
theorem dX4_sieve_44 : decode cX4_sieve 44 = .ok (.iload_n 2, 1) := by decide +kernel
theorem dX4_sieve_45 : decode cX4_sieve 45 = .ok (.if_icmp .le 5, 3) := by decide +kernel
theorem dX4_sieve_48 : decode cX4_sieve 48 = .ok (.iconst (-1), 1) := by decide +kernel
theorem dX4_sieve_49 : decode cX4_sieve 49 = .ok (.ireturn, 1) := by decide +kernel
theorem dX4_sieve_50 : decode cX4_sieve 50 = .ok (.iload_n 1, 1) := by decide +kernel
theorem dX4_sieve_51 : decode cX4_sieve 51 = .ok (.iload_n 2, 1) := by decide +kernel
theorem dX4_sieve_52 : decode cX4_sieve 52 = .ok (.iload_n 3, 1) := by decide +kernel
theorem dX4_sieve_53 : decode cX4_sieve 53 = .ok (.iload 4, 2) := by decide +kernel
theorem dX4_sieve_55 : decode cX4_sieve 55 = .ok (.invokestatic 152, 3) := by decide +kernel
theorem dX4_sieve_58 : decode cX4_sieve 58 = .ok (.ireturn, 1) := by decide +kernel
theorem dX4_many_0 : decode cX4_many 0 = .ok (.iload_n 1, 1) := by decide +kernel
theorem dX4_many_1 : decode cX4_many 1 = .ok (.iconst 2, 1) := by decide +kernel
theorem dX4_many_2 : decode cX4_many 2 = .ok (.if_icmp .lt 9, 3) := by decide +kernel
theorem dX4_many_5 : decode cX4_many 5 = .ok (.iload_n 1, 1) := by decide +kernel
theorem dX4_many_6 : decode cX4_many 6 = .ok (.bipush 40, 2) := by decide +kernel
theorem dX4_many_8 : decode cX4_many 8 = .ok (.if_icmp .le 5, 3) := by decide +kernel
theorem dX4_many_11 : decode cX4_many 11 = .ok (.iconst (-1), 1) := by decide +kernel
theorem dX4_many_12 : decode cX4_many 12 = .ok (.ireturn, 1) := by decide +kernel
theorem dX4_many_13 : decode cX4_many 13 = .ok (.iconst 0, 1) := by decide +kernel
theorem dX4_many_14 : decode cX4_many 14 = .ok (.istore_n 2, 1) := by decide +kernel
theorem dX4_many_15 : decode cX4_many 15 = .ok (.iconst 1, 1) := by decide +kernel
theorem dX4_many_16 : decode cX4_many 16 = .ok (.istore_n 3, 1) := by decide +kernel
theorem dX4_many_17 : decode cX4_many 17 = .ok (.iconst 2, 1) := by decide +kernel
theorem dX4_many_18 : decode cX4_many 18 = .ok (.iload_n 3, 1) := by decide +kernel
theorem dX4_many_19 : decode cX4_many 19 = .ok (.imul, 1) := by decide +kernel
theorem dX4_many_20 : decode cX4_many 20 = .ok (.iload_n 1, 1) := by decide +kernel
theorem dX4_many_21 : decode cX4_many 21 = .ok (.iconst 1, 1) := by decide +kernel
theorem dX4_many_22 : decode cX4_many 22 = .ok (.isub, 1) := by decide +kernel
theorem dX4_many_23 : decode cX4_many 23 = .ok (.if_icmp .gt 54, 3) := by decide +kernel
theorem dX4_many_26 : decode cX4_many 26 = .ok (.iconst 0, 1) := by decide +kernel
theorem dX4_many_27 : decode cX4_many 27 = .ok (.istore 4, 2) := by decide +kernel
theorem dX4_many_29 : decode cX4_many 29 = .ok (.iload 4, 2) := by decide +kernel
theorem dX4_many_31 : decode cX4_many 31 = .ok (.iload_n 3, 1) := by decide +kernel
theorem dX4_many_32 : decode cX4_many 32 = .ok (.if_icmp .ge 39, 3) := by decide +kernel
theorem dX4_many_35 : decode cX4_many 35 = .ok (.iconst 0, 1) := by decide +kernel
theorem dX4_many_36 : decode cX4_many 36 = .ok (.istore 5, 2) := by decide +kernel
theorem dX4_many_38 : decode cX4_many 38 = .ok (.iload 5, 2) := by decide +kernel
theorem dX4_many_40 : decode cX4_many 40 = .ok (.iload_n 3, 1) := by decide +kernel
theorem dX4_many_41 : decode cX4_many 41 = .ok (.if_icmp .gt 24, 3) := by decide +kernel
theorem dX4_many_44 : decode cX4_many 44 = .ok (.iload_n 1, 1) := by decide +kernel
theorem dX4_many_45 : decode cX4_many 45 = .ok (.iload_n 3, 1) := by decide +kernel
theorem dX4_many_46 : decode cX4_many 46 = .ok (.iload 4, 2) := by decide +kernel
theorem dX4_many_48 : decode cX4_many 48 = .ok (.iload 5, 2) := by decide +kernel
theorem dX4_many_50 : decode cX4_many 50 = .ok (.invokestatic 152, 3) := by decide +kernel
theorem dX4_many_53 : decode cX4_many 53 = .ok (.ifCond .ne 6, 3) := by decide +kernel
theorem dX4_many_56 : decode cX4_many 56 = .ok (.iinc 2 1, 3) := by decide +kernel
theorem dX4_many_59 : decode cX4_many 59 = .ok (.iinc 5 1, 3) := by decide +kernel
theorem dX4_many_62 : decode cX4_many 62 = .ok (.goto (-24), 3) := by decide +kernel
theorem dX4_many_65 : decode cX4_many 65 = .ok (.iinc 4 1, 3) := by decide +kernel
theorem dX4_many_68 : decode cX4_many 68 = .ok (.goto (-39), 3) := by decide +kernel
theorem dX4_many_71 : decode cX4_many 71 = .ok (.iinc 3 1, 3) := by decide +kernel
theorem dX4_many_74 : decode cX4_many 74 = .ok (.goto (-57), 3) := by decide +kernel
theorem dX4_many_77 : decode cX4_many 77 = .ok (.iload_n 2, 1) := by decide +kernel
theorem dX4_many_78 : decode cX4_many 78 = .ok (.ireturn, 1) := by decide +kernel
theorem dX4_count_0 : decode cX4_count 0 = .ok (.iload_n 1, 1) := by decide +kernel
theorem dX4_count_1 : decode cX4_count 1 = .ok (.tableswitch 65 0 3 #[31, 39, 47, 60], 31) := by decide +kernel
theorem dX4_count_32 : decode cX4_count 32 = .ok (.aload_n 0, 1) := by decide +kernel
theorem dX4_count_33 : decode cX4_count 33 = .ok (.getfield 30, 3) := by decide +kernel
theorem dX4_count_36 : decode cX4_count 36 = .ok (.getfield 45, 3) := by decide +kernel
theorem dX4_count_39 : decode cX4_count 39 = .ok (.ireturn, 1) := by decide +kernel
theorem dX4_count_40 : decode cX4_count 40 = .ok (.aload_n 0, 1) := by decide +kernel
theorem dX4_count_41 : decode cX4_count 41 = .ok (.getfield 30, 3) := by decide +kernel
theorem dX4_count_44 : decode cX4_count 44 = .ok (.getfield 158, 3) := by decide +kernel
theorem dX4_count_47 : decode cX4_count 47 = .ok (.ireturn, 1) := by decide +kernel
theorem dX4_count_48 : decode cX4_count 48 = .ok (.aload_n 0, 1) := by decide +kernel
theorem dX4_count_49 : decode cX4_count 49 = .ok (.invokevirtual 67, 3) := by decide +kernel
theorem dX4_count_52 : decode cX4_count 52 = .ok (.ifCond .eq 7, 3) := by decide +kernel
theorem dX4_count_55 : decode cX4_count 55 = .ok (.iconst 1, 1) := by decide +kernel
theorem dX4_count_56 : decode cX4_count 56 = .ok (.goto 4, 3) := by decide +kernel
theorem dX4_count_59 : decode cX4_count 59 = .ok (.iconst 0, 1) := by decide +kernel
theorem dX4_count_60 : decode cX4_count 60 = .ok (.ireturn, 1) := by decide +kernel
theorem dX4_count_61 : decode cX4_count 61 = .ok (.aload_n 0, 1) := by decide +kernel
theorem dX4_count_62 : decode cX4_count 62 = .ok (.invokevirtual 132, 3) := by decide +kernel
theorem dX4_count_65 : decode cX4_count 65 = .ok (.ireturn, 1) := by decide +kernel
theorem dX4_count_66 : decode cX4_count 66 = .ok (.iconst (-1), 1) := by decide +kernel
theorem dX4_count_67 : decode cX4_count 67 = .ok (.ireturn, 1) := by decide +kernel
theorem dX4_trace_0 : decode cX4_trace 0 = .ok (.aload_n 0, 1) := by decide +kernel
theorem dX4_trace_1 : decode cX4_trace 1 = .ok (.getfield 41, 3) := by decide +kernel
theorem dX4_trace_4 : decode cX4_trace 4 = .ok (.lreturn, 1) := by decide +kernel
theorem dX4_isPoint_0 : decode cX4_isPoint 0 = .ok (.iload_n 1, 1) := by decide +kernel
theorem dX4_isPoint_1 : decode cX4_isPoint 1 = .ok (.ifCond .lt 18, 3) := by decide +kernel
theorem dX4_isPoint_4 : decode cX4_isPoint 4 = .ok (.iload_n 1, 1) := by decide +kernel
theorem dX4_isPoint_5 : decode cX4_isPoint 5 = .ok (.aload_n 0, 1) := by decide +kernel
theorem dX4_isPoint_6 : decode cX4_isPoint 6 = .ok (.getfield 30, 3) := by decide +kernel
theorem dX4_isPoint_9 : decode cX4_isPoint 9 = .ok (.getfield 45, 3) := by decide +kernel
theorem dX4_isPoint_12 : decode cX4_isPoint 12 = .ok (.if_icmp .ge 7, 3) := by decide +kernel
theorem dX4_isPoint_15 : decode cX4_isPoint 15 = .ok (.iconst 1, 1) := by decide +kernel
theorem dX4_isPoint_16 : decode cX4_isPoint 16 = .ok (.goto 4, 3) := by decide +kernel
theorem dX4_isPoint_19 : decode cX4_isPoint 19 = .ok (.iconst 0, 1) := by decide +kernel
theorem dX4_isPoint_20 : decode cX4_isPoint 20 = .ok (.ireturn, 1) := by decide +kernel
theorem dX4_isColour_0 : decode cX4_isColour 0 = .ok (.iload_n 1, 1) := by decide +kernel
theorem dX4_isColour_1 : decode cX4_isColour 1 = .ok (.ifCond .lt 18, 3) := by decide +kernel
theorem dX4_isColour_4 : decode cX4_isColour 4 = .ok (.iload_n 1, 1) := by decide +kernel
theorem dX4_isColour_5 : decode cX4_isColour 5 = .ok (.aload_n 0, 1) := by decide +kernel
theorem dX4_isColour_6 : decode cX4_isColour 6 = .ok (.getfield 30, 3) := by decide +kernel
theorem dX4_isColour_9 : decode cX4_isColour 9 = .ok (.getfield 158, 3) := by decide +kernel
theorem dX4_isColour_12 : decode cX4_isColour 12 = .ok (.if_icmp .ge 7, 3) := by decide +kernel
theorem dX4_isColour_15 : decode cX4_isColour 15 = .ok (.iconst 1, 1) := by decide +kernel
theorem dX4_isColour_16 : decode cX4_isColour 16 = .ok (.goto 4, 3) := by decide +kernel
theorem dX4_isColour_19 : decode cX4_isColour 19 = .ok (.iconst 0, 1) := by decide +kernel
theorem dX4_isColour_20 : decode cX4_isColour 20 = .ok (.ireturn, 1) := by decide +kernel
theorem dX4_isSet_0 : decode cX4_isSet 0 = .ok (.iload_n 1, 1) := by decide +kernel
theorem dX4_isSet_1 : decode cX4_isSet 1 = .ok (.ifCond .lt 20, 3) := by decide +kernel
theorem dX4_isSet_4 : decode cX4_isSet 4 = .ok (.iload_n 1, 1) := by decide +kernel
theorem dX4_isSet_5 : decode cX4_isSet 5 = .ok (.iconst 1, 1) := by decide +kernel
theorem dX4_isSet_6 : decode cX4_isSet 6 = .ok (.aload_n 0, 1) := by decide +kernel
theorem dX4_isSet_7 : decode cX4_isSet 7 = .ok (.getfield 30, 3) := by decide +kernel
theorem dX4_isSet_10 : decode cX4_isSet 10 = .ok (.getfield 158, 3) := by decide +kernel
theorem dX4_isSet_13 : decode cX4_isSet 13 = .ok (.ishl, 1) := by decide +kernel
theorem dX4_isSet_14 : decode cX4_isSet 14 = .ok (.if_icmp .ge 7, 3) := by decide +kernel
theorem dX4_isSet_17 : decode cX4_isSet 17 = .ok (.iconst 1, 1) := by decide +kernel
theorem dX4_isSet_18 : decode cX4_isSet 18 = .ok (.goto 4, 3) := by decide +kernel
theorem dX4_isSet_21 : decode cX4_isSet 21 = .ok (.iconst 0, 1) := by decide +kernel
theorem dX4_isSet_22 : decode cX4_isSet 22 = .ok (.ireturn, 1) := by decide +kernel
theorem dX4_isEven_0 : decode cX4_isEven 0 = .ok (.aload_n 0, 1) := by decide +kernel
theorem dX4_isEven_1 : decode cX4_isEven 1 = .ok (.getfield 30, 3) := by decide +kernel
theorem dX4_isEven_4 : decode cX4_isEven 4 = .ok (.getfield 71, 3) := by decide +kernel
theorem dX4_isEven_7 : decode cX4_isEven 7 = .ok (.ifCond .ne 7, 3) := by decide +kernel
theorem dX4_isEven_10 : decode cX4_isEven 10 = .ok (.iconst 1, 1) := by decide +kernel
theorem dX4_isEven_11 : decode cX4_isEven 11 = .ok (.goto 4, 3) := by decide +kernel
theorem dX4_isEven_14 : decode cX4_isEven 14 = .ok (.iconst 0, 1) := by decide +kernel
theorem dX4_isEven_15 : decode cX4_isEven 15 = .ok (.ireturn, 1) := by decide +kernel
theorem dX4_mapsEveryColour_0 : decode cX4_mapsEveryColour 0 = .ok (.iconst 1, 1) := by decide +kernel
theorem dX4_mapsEveryColour_1 : decode cX4_mapsEveryColour 1 = .ok (.istore_n 2, 1) := by decide +kernel
theorem dX4_mapsEveryColour_2 : decode cX4_mapsEveryColour 2 = .ok (.iload_n 2, 1) := by decide +kernel
theorem dX4_mapsEveryColour_3 : decode cX4_mapsEveryColour 3 = .ok (.aload_n 0, 1) := by decide +kernel
theorem dX4_mapsEveryColour_4 : decode cX4_mapsEveryColour 4 = .ok (.getfield 30, 3) := by decide +kernel
theorem dX4_mapsEveryColour_7 : decode cX4_mapsEveryColour 7 = .ok (.getfield 158, 3) := by decide +kernel
theorem dX4_mapsEveryColour_10 : decode cX4_mapsEveryColour 10 = .ok (.if_icmp .ge 19, 3) := by decide +kernel
theorem dX4_mapsEveryColour_13 : decode cX4_mapsEveryColour 13 = .ok (.iload_n 1, 1) := by decide +kernel
theorem dX4_mapsEveryColour_14 : decode cX4_mapsEveryColour 14 = .ok (.iload_n 2, 1) := by decide +kernel
theorem dX4_mapsEveryColour_15 : decode cX4_mapsEveryColour 15 = .ok (.invokestatic 161, 3) := by decide +kernel
theorem dX4_mapsEveryColour_18 : decode cX4_mapsEveryColour 18 = .ok (.ifCond .ne 5, 3) := by decide +kernel
theorem dX4_mapsEveryColour_21 : decode cX4_mapsEveryColour 21 = .ok (.iconst 0, 1) := by decide +kernel
theorem dX4_mapsEveryColour_22 : decode cX4_mapsEveryColour 22 = .ok (.ireturn, 1) := by decide +kernel
theorem dX4_mapsEveryColour_23 : decode cX4_mapsEveryColour 23 = .ok (.iinc 2 1, 3) := by decide +kernel
theorem dX4_mapsEveryColour_26 : decode cX4_mapsEveryColour 26 = .ok (.goto (-24), 3) := by decide +kernel
theorem dX4_mapsEveryColour_29 : decode cX4_mapsEveryColour 29 = .ok (.iconst 1, 1) := by decide +kernel
theorem dX4_mapsEveryColour_30 : decode cX4_mapsEveryColour 30 = .ok (.ireturn, 1) := by decide +kernel
theorem dX4_weightBelowRank_0 : decode cX4_weightBelowRank 0 = .ok (.iconst 0, 1) := by decide +kernel
theorem dX4_weightBelowRank_1 : decode cX4_weightBelowRank 1 = .ok (.istore_n 1, 1) := by decide +kernel
theorem dX4_weightBelowRank_2 : decode cX4_weightBelowRank 2 = .ok (.iconst 0, 1) := by decide +kernel
theorem dX4_weightBelowRank_3 : decode cX4_weightBelowRank 3 = .ok (.istore_n 2, 1) := by decide +kernel
theorem dX4_weightBelowRank_4 : decode cX4_weightBelowRank 4 = .ok (.iload_n 2, 1) := by decide +kernel
theorem dX4_weightBelowRank_5 : decode cX4_weightBelowRank 5 = .ok (.aload_n 0, 1) := by decide +kernel
theorem dX4_weightBelowRank_6 : decode cX4_weightBelowRank 6 = .ok (.getfield 30, 3) := by decide +kernel
theorem dX4_weightBelowRank_9 : decode cX4_weightBelowRank 9 = .ok (.getfield 158, 3) := by decide +kernel
theorem dX4_weightBelowRank_12 : decode cX4_weightBelowRank 12 = .ok (.if_icmp .ge 18, 3) := by decide +kernel
theorem dX4_weightBelowRank_15 : decode cX4_weightBelowRank 15 = .ok (.iload_n 1, 1) := by decide +kernel
theorem dX4_weightBelowRank_16 : decode cX4_weightBelowRank 16 = .ok (.aload_n 0, 1) := by decide +kernel
theorem dX4_weightBelowRank_17 : decode cX4_weightBelowRank 17 = .ok (.getfield 9, 3) := by decide +kernel
theorem dX4_weightBelowRank_20 : decode cX4_weightBelowRank 20 = .ok (.iload_n 2, 1) := by decide +kernel
theorem dX4_weightBelowRank_21 : decode cX4_weightBelowRank 21 = .ok (.iaload, 1) := by decide +kernel
theorem dX4_weightBelowRank_22 : decode cX4_weightBelowRank 22 = .ok (.iadd, 1) := by decide +kernel
theorem dX4_weightBelowRank_23 : decode cX4_weightBelowRank 23 = .ok (.istore_n 1, 1) := by decide +kernel
theorem dX4_weightBelowRank_24 : decode cX4_weightBelowRank 24 = .ok (.iinc 2 1, 3) := by decide +kernel
theorem dX4_weightBelowRank_27 : decode cX4_weightBelowRank 27 = .ok (.goto (-23), 3) := by decide +kernel
theorem dX4_weightBelowRank_30 : decode cX4_weightBelowRank 30 = .ok (.iload_n 1, 1) := by decide +kernel
theorem dX4_weightBelowRank_31 : decode cX4_weightBelowRank 31 = .ok (.ireturn, 1) := by decide +kernel
theorem dX4_takeSpare_0 : decode cX4_takeSpare 0 = .ok (.aload_n 0, 1) := by decide +kernel
theorem dX4_takeSpare_1 : decode cX4_takeSpare 1 = .ok (.getfield 30, 3) := by decide +kernel
theorem dX4_takeSpare_4 : decode cX4_takeSpare 4 = .ok (.astore_n 1, 1) := by decide +kernel
theorem dX4_takeSpare_5 : decode cX4_takeSpare 5 = .ok (.aload_n 0, 1) := by decide +kernel
theorem dX4_takeSpare_6 : decode cX4_takeSpare 6 = .ok (.aload_n 0, 1) := by decide +kernel
theorem dX4_takeSpare_7 : decode cX4_takeSpare 7 = .ok (.getfield 34, 3) := by decide +kernel
theorem dX4_takeSpare_10 : decode cX4_takeSpare 10 = .ok (.putfield 30, 3) := by decide +kernel
theorem dX4_takeSpare_13 : decode cX4_takeSpare 13 = .ok (.aload_n 0, 1) := by decide +kernel
theorem dX4_takeSpare_14 : decode cX4_takeSpare 14 = .ok (.aload_n 1, 1) := by decide +kernel
theorem dX4_takeSpare_15 : decode cX4_takeSpare 15 = .ok (.putfield 34, 3) := by decide +kernel
theorem dX4_takeSpare_18 : decode cX4_takeSpare 18 = .ok (.return_, 1) := by decide +kernel
theorem dX4_worthByDegrees_0 : decode cX4_worthByDegrees 0 = .ok (.aload_n 0, 1) := by decide +kernel
theorem dX4_worthByDegrees_1 : decode cX4_worthByDegrees 1 = .ok (.dup, 1) := by decide +kernel
theorem dX4_worthByDegrees_2 : decode cX4_worthByDegrees 2 = .ok (.getfield 41, 3) := by decide +kernel
theorem dX4_worthByDegrees_5 : decode cX4_worthByDegrees 5 = .ok (.lconst 1, 1) := by decide +kernel
theorem dX4_worthByDegrees_6 : decode cX4_worthByDegrees 6 = .ok (.ladd, 1) := by decide +kernel
theorem dX4_worthByDegrees_7 : decode cX4_worthByDegrees 7 = .ok (.putfield 41, 3) := by decide +kernel
theorem dX4_worthByDegrees_10 : decode cX4_worthByDegrees 10 = .ok (.aload_n 0, 1) := by decide +kernel
theorem dX4_worthByDegrees_11 : decode cX4_worthByDegrees 11 = .ok (.getfield 30, 3) := by decide +kernel
theorem dX4_worthByDegrees_14 : decode cX4_worthByDegrees 14 = .ok (.iload_n 1, 1) := by decide +kernel
theorem dX4_worthByDegrees_15 : decode cX4_worthByDegrees 15 = .ok (.invokevirtual 85, 3) := by decide +kernel
theorem dX4_worthByDegrees_18 : decode cX4_worthByDegrees 18 = .ok (.ireturn, 1) := by decide +kernel
theorem dX4_worthByHulls_0 : decode cX4_worthByHulls 0 = .ok (.aload_n 0, 1) := by decide +kernel
theorem dX4_worthByHulls_1 : decode cX4_worthByHulls 1 = .ok (.dup, 1) := by decide +kernel
theorem dX4_worthByHulls_2 : decode cX4_worthByHulls 2 = .ok (.getfield 41, 3) := by decide +kernel
theorem dX4_worthByHulls_5 : decode cX4_worthByHulls 5 = .ok (.ldc2_w 164, 3) := by decide +kernel
theorem dX4_worthByHulls_8 : decode cX4_worthByHulls 8 = .ok (.ladd, 1) := by decide +kernel
theorem dX4_worthByHulls_9 : decode cX4_worthByHulls 9 = .ok (.putfield 41, 3) := by decide +kernel
theorem dX4_worthByHulls_12 : decode cX4_worthByHulls 12 = .ok (.aload_n 0, 1) := by decide +kernel
theorem dX4_worthByHulls_13 : decode cX4_worthByHulls 13 = .ok (.iload_n 1, 1) := by decide +kernel
theorem dX4_worthByHulls_14 : decode cX4_worthByHulls 14 = .ok (.invokevirtual 107, 3) := by decide +kernel
theorem dX4_worthByHulls_17 : decode cX4_worthByHulls 17 = .ok (.aload_n 0, 1) := by decide +kernel
theorem dX4_worthByHulls_18 : decode cX4_worthByHulls 18 = .ok (.getfield 30, 3) := by decide +kernel
theorem dX4_worthByHulls_21 : decode cX4_worthByHulls 21 = .ok (.aload_n 0, 1) := by decide +kernel
theorem dX4_worthByHulls_22 : decode cX4_worthByHulls 22 = .ok (.getfield 30, 3) := by decide +kernel
theorem dX4_worthByHulls_25 : decode cX4_worthByHulls 25 = .ok (.iconst 1, 1) := by decide +kernel
theorem dX4_worthByHulls_26 : decode cX4_worthByHulls 26 = .ok (.iload_n 1, 1) := by decide +kernel
theorem dX4_worthByHulls_27 : decode cX4_worthByHulls 27 = .ok (.ishl, 1) := by decide +kernel
theorem dX4_worthByHulls_28 : decode cX4_worthByHulls 28 = .ok (.invokevirtual 97, 3) := by decide +kernel
theorem dX4_worthByHulls_31 : decode cX4_worthByHulls 31 = .ok (.invokevirtual 104, 3) := by decide +kernel
theorem dX4_worthByHulls_34 : decode cX4_worthByHulls 34 = .ok (.imul, 1) := by decide +kernel
theorem dX4_worthByHulls_35 : decode cX4_worthByHulls 35 = .ok (.ireturn, 1) := by decide +kernel
theorem dX4_worthByTriples_0 : decode cX4_worthByTriples 0 = .ok (.aload_n 0, 1) := by decide +kernel
theorem dX4_worthByTriples_1 : decode cX4_worthByTriples 1 = .ok (.dup, 1) := by decide +kernel
theorem dX4_worthByTriples_2 : decode cX4_worthByTriples 2 = .ok (.getfield 41, 3) := by decide +kernel
theorem dX4_worthByTriples_5 : decode cX4_worthByTriples 5 = .ok (.ldc2_w 166, 3) := by decide +kernel
theorem dX4_worthByTriples_8 : decode cX4_worthByTriples 8 = .ok (.ladd, 1) := by decide +kernel
theorem dX4_worthByTriples_9 : decode cX4_worthByTriples 9 = .ok (.putfield 41, 3) := by decide +kernel
theorem dX4_worthByTriples_12 : decode cX4_worthByTriples 12 = .ok (.aload_n 0, 1) := by decide +kernel
theorem dX4_worthByTriples_13 : decode cX4_worthByTriples 13 = .ok (.iload_n 1, 1) := by decide +kernel
theorem dX4_worthByTriples_14 : decode cX4_worthByTriples 14 = .ok (.invokevirtual 110, 3) := by decide +kernel
theorem dX4_worthByTriples_17 : decode cX4_worthByTriples 17 = .ok (.aload_n 0, 1) := by decide +kernel
theorem dX4_worthByTriples_18 : decode cX4_worthByTriples 18 = .ok (.getfield 30, 3) := by decide +kernel
theorem dX4_worthByTriples_21 : decode cX4_worthByTriples 21 = .ok (.iload_n 1, 1) := by decide +kernel
theorem dX4_worthByTriples_22 : decode cX4_worthByTriples 22 = .ok (.iload_n 1, 1) := by decide +kernel
theorem dX4_worthByTriples_23 : decode cX4_worthByTriples 23 = .ok (.iload_n 1, 1) := by decide +kernel
theorem dX4_worthByTriples_24 : decode cX4_worthByTriples 24 = .ok (.invokevirtual 77, 3) := by decide +kernel
theorem dX4_worthByTriples_27 : decode cX4_worthByTriples 27 = .ok (.iadd, 1) := by decide +kernel
