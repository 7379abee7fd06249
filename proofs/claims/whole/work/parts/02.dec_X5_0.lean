-- decode rows (by program)
theorem dX5_init_0 : decode cX5_init 0 = .ok (.aload_n 0, 1) := by decide +kernel
theorem dX5_init_1 : decode cX5_init 1 = .ok (.invokespecial 1, 3) := by decide +kernel
theorem dX5_init_4 : decode cX5_init 4 = .ok (.aload_n 0, 1) := by decide +kernel
theorem dX5_init_5 : decode cX5_init 5 = .ok (.iconst 1, 1) := by decide +kernel
theorem dX5_init_6 : decode cX5_init 6 = .ok (.putfield 7, 3) := by decide +kernel
theorem dX5_init_9 : decode cX5_init 9 = .ok (.aload_n 0, 1) := by decide +kernel
theorem dX5_init_10 : decode cX5_init 10 = .ok (.bipush 64, 2) := by decide +kernel
theorem dX5_init_12 : decode cX5_init 12 = .ok (.newarray .int, 2) := by decide +kernel
theorem dX5_init_14 : decode cX5_init 14 = .ok (.putfield 13, 3) := by decide +kernel
theorem dX5_init_17 : decode cX5_init 17 = .ok (.aload_n 0, 1) := by decide +kernel
theorem dX5_init_18 : decode cX5_init 18 = .ok (.bipush 64, 2) := by decide +kernel
theorem dX5_init_20 : decode cX5_init 20 = .ok (.newarray .int, 2) := by decide +kernel
theorem dX5_init_22 : decode cX5_init 22 = .ok (.putfield 17, 3) := by decide +kernel
theorem dX5_init_25 : decode cX5_init 25 = .ok (.aload_n 0, 1) := by decide +kernel
theorem dX5_init_26 : decode cX5_init 26 = .ok (.iconst 5, 1) := by decide +kernel
theorem dX5_init_27 : decode cX5_init 27 = .ok (.newarray .int, 2) := by decide +kernel
theorem dX5_init_29 : decode cX5_init 29 = .ok (.putfield 20, 3) := by decide +kernel
theorem dX5_init_32 : decode cX5_init 32 = .ok (.aload_n 0, 1) := by decide +kernel
theorem dX5_init_33 : decode cX5_init 33 = .ok (.iconst 5, 1) := by decide +kernel
theorem dX5_init_34 : decode cX5_init 34 = .ok (.newarray .int, 2) := by decide +kernel
theorem dX5_init_36 : decode cX5_init 36 = .ok (.putfield 23, 3) := by decide +kernel
theorem dX5_init_39 : decode cX5_init 39 = .ok (.aload_n 0, 1) := by decide +kernel
theorem dX5_init_40 : decode cX5_init 40 = .ok (.iconst 5, 1) := by decide +kernel
theorem dX5_init_41 : decode cX5_init 41 = .ok (.newarray .int, 2) := by decide +kernel
theorem dX5_init_43 : decode cX5_init 43 = .ok (.putfield 26, 3) := by decide +kernel
theorem dX5_init_46 : decode cX5_init 46 = .ok (.aload_n 0, 1) := by decide +kernel
theorem dX5_init_47 : decode cX5_init 47 = .ok (.bipush 8, 2) := by decide +kernel
theorem dX5_init_49 : decode cX5_init 49 = .ok (.newarray .int, 2) := by decide +kernel
theorem dX5_init_51 : decode cX5_init 51 = .ok (.putfield 29, 3) := by decide +kernel
theorem dX5_init_54 : decode cX5_init 54 = .ok (.aload_n 0, 1) := by decide +kernel
theorem dX5_init_55 : decode cX5_init 55 = .ok (.iconst 5, 1) := by decide +kernel
theorem dX5_init_56 : decode cX5_init 56 = .ok (.newarray .int, 2) := by decide +kernel
theorem dX5_init_58 : decode cX5_init 58 = .ok (.putfield 32, 3) := by decide +kernel
theorem dX5_init_61 : decode cX5_init 61 = .ok (.aload_n 0, 1) := by decide +kernel
theorem dX5_init_62 : decode cX5_init 62 = .ok (.bipush 8, 2) := by decide +kernel
theorem dX5_init_64 : decode cX5_init 64 = .ok (.newarray .long, 2) := by decide +kernel
theorem dX5_init_66 : decode cX5_init 66 = .ok (.putfield 35, 3) := by decide +kernel
theorem dX5_init_69 : decode cX5_init 69 = .ok (.aload_n 0, 1) := by decide +kernel
theorem dX5_init_70 : decode cX5_init 70 = .ok (.bipush 8, 2) := by decide +kernel
theorem dX5_init_72 : decode cX5_init 72 = .ok (.newarray .long, 2) := by decide +kernel
theorem dX5_init_74 : decode cX5_init 74 = .ok (.putfield 39, 3) := by decide +kernel
theorem dX5_init_77 : decode cX5_init 77 = .ok (.iconst 0, 1) := by decide +kernel
theorem dX5_init_78 : decode cX5_init 78 = .ok (.istore_n 1, 1) := by decide +kernel
theorem dX5_init_79 : decode cX5_init 79 = .ok (.iload_n 1, 1) := by decide +kernel
theorem dX5_init_80 : decode cX5_init 80 = .ok (.iconst 5, 1) := by decide +kernel
theorem dX5_init_81 : decode cX5_init 81 = .ok (.if_icmp .ge 16, 3) := by decide +kernel
theorem dX5_init_84 : decode cX5_init 84 = .ok (.aload_n 0, 1) := by decide +kernel
theorem dX5_init_85 : decode cX5_init 85 = .ok (.getfield 20, 3) := by decide +kernel
theorem dX5_init_88 : decode cX5_init 88 = .ok (.iload_n 1, 1) := by decide +kernel
theorem dX5_init_89 : decode cX5_init 89 = .ok (.iconst 1, 1) := by decide +kernel
theorem dX5_init_90 : decode cX5_init 90 = .ok (.iastore, 1) := by decide +kernel
theorem dX5_init_91 : decode cX5_init 91 = .ok (.iinc 1 1, 3) := by decide +kernel
theorem dX5_init_94 : decode cX5_init 94 = .ok (.goto (-15), 3) := by decide +kernel
theorem dX5_init_97 : decode cX5_init 97 = .ok (.return_, 1) := by decide +kernel
theorem dX5_in_0 : decode cX5_in 0 = .ok (.iload_n 0, 1) := by decide +kernel
theorem dX5_in_1 : decode cX5_in 1 = .ok (.iload_n 1, 1) := by decide +kernel
theorem dX5_in_2 : decode cX5_in 2 = .ok (.if_icmp .lt 12, 3) := by decide +kernel
theorem dX5_in_5 : decode cX5_in 5 = .ok (.iload_n 0, 1) := by decide +kernel
theorem dX5_in_6 : decode cX5_in 6 = .ok (.iload_n 2, 1) := by decide +kernel
theorem dX5_in_7 : decode cX5_in 7 = .ok (.if_icmp .gt 7, 3) := by decide +kernel
theorem dX5_in_10 : decode cX5_in 10 = .ok (.iconst 1, 1) := by decide +kernel
theorem dX5_in_11 : decode cX5_in 11 = .ok (.goto 4, 3) := by decide +kernel
theorem dX5_in_14 : decode cX5_in 14 = .ok (.iconst 0, 1) := by decide +kernel
theorem dX5_in_15 : decode cX5_in 15 = .ok (.ireturn, 1) := by decide +kernel
theorem dX5_isPoint_0 : decode cX5_isPoint 0 = .ok (.iload_n 1, 1) := by decide +kernel
theorem dX5_isPoint_1 : decode cX5_isPoint 1 = .ok (.iconst 0, 1) := by decide +kernel
theorem dX5_isPoint_2 : decode cX5_isPoint 2 = .ok (.aload_n 0, 1) := by decide +kernel
theorem dX5_isPoint_3 : decode cX5_isPoint 3 = .ok (.getfield 7, 3) := by decide +kernel
theorem dX5_isPoint_6 : decode cX5_isPoint 6 = .ok (.iconst 1, 1) := by decide +kernel
theorem dX5_isPoint_7 : decode cX5_isPoint 7 = .ok (.isub, 1) := by decide +kernel
theorem dX5_isPoint_8 : decode cX5_isPoint 8 = .ok (.invokestatic 45, 3) := by decide +kernel
theorem dX5_isPoint_11 : decode cX5_isPoint 11 = .ok (.ireturn, 1) := by decide +kernel
theorem dX5_hue_0 : decode cX5_hue 0 = .ok (.aload_n 0, 1) := by decide +kernel
theorem dX5_hue_1 : decode cX5_hue 1 = .ok (.getfield 13, 3) := by decide +kernel
theorem dX5_hue_4 : decode cX5_hue 4 = .ok (.bipush 8, 2) := by decide +kernel
theorem dX5_hue_6 : decode cX5_hue 6 = .ok (.iload_n 1, 1) := by decide +kernel
theorem dX5_hue_7 : decode cX5_hue 7 = .ok (.imul, 1) := by decide +kernel
theorem dX5_hue_8 : decode cX5_hue 8 = .ok (.iload_n 2, 1) := by decide +kernel
theorem dX5_hue_9 : decode cX5_hue 9 = .ok (.iadd, 1) := by decide +kernel
theorem dX5_hue_10 : decode cX5_hue 10 = .ok (.iaload, 1) := by decide +kernel
theorem dX5_hue_11 : decode cX5_hue 11 = .ok (.ireturn, 1) := by decide +kernel
theorem dX5_points_0 : decode cX5_points 0 = .ok (.aload_n 0, 1) := by decide +kernel
theorem dX5_points_1 : decode cX5_points 1 = .ok (.iconst 0, 1) := by decide +kernel
theorem dX5_points_2 : decode cX5_points 2 = .ok (.putfield 42, 3) := by decide +kernel
theorem dX5_points_5 : decode cX5_points 5 = .ok (.iload_n 1, 1) := by decide +kernel
theorem dX5_points_6 : decode cX5_points 6 = .ok (.iconst 1, 1) := by decide +kernel
theorem dX5_points_7 : decode cX5_points 7 = .ok (.bipush 8, 2) := by decide +kernel
theorem dX5_points_9 : decode cX5_points 9 = .ok (.invokestatic 45, 3) := by decide +kernel
theorem dX5_points_12 : decode cX5_points 12 = .ok (.ifCond .ne 5, 3) := by decide +kernel
theorem dX5_points_15 : decode cX5_points 15 = .ok (.iconst (-1), 1) := by decide +kernel
theorem dX5_points_16 : decode cX5_points 16 = .ok (.ireturn, 1) := by decide +kernel
theorem dX5_points_17 : decode cX5_points 17 = .ok (.aload_n 0, 1) := by decide +kernel
theorem dX5_points_18 : decode cX5_points 18 = .ok (.getfield 7, 3) := by decide +kernel
theorem dX5_points_21 : decode cX5_points 21 = .ok (.istore_n 2, 1) := by decide +kernel
theorem dX5_points_22 : decode cX5_points 22 = .ok (.aload_n 0, 1) := by decide +kernel
theorem dX5_points_23 : decode cX5_points 23 = .ok (.iload_n 1, 1) := by decide +kernel
theorem dX5_points_24 : decode cX5_points 24 = .ok (.putfield 7, 3) := by decide +kernel
theorem dX5_points_27 : decode cX5_points 27 = .ok (.iconst 0, 1) := by decide +kernel
theorem dX5_points_28 : decode cX5_points 28 = .ok (.istore_n 3, 1) := by decide +kernel
theorem dX5_points_29 : decode cX5_points 29 = .ok (.iload_n 3, 1) := by decide +kernel
theorem dX5_points_30 : decode cX5_points 30 = .ok (.bipush 8, 2) := by decide +kernel
theorem dX5_points_32 : decode cX5_points 32 = .ok (.if_icmp .ge 48, 3) := by decide +kernel
theorem dX5_points_35 : decode cX5_points 35 = .ok (.iconst 0, 1) := by decide +kernel
theorem dX5_points_36 : decode cX5_points 36 = .ok (.istore 4, 2) := by decide +kernel
theorem dX5_points_38 : decode cX5_points 38 = .ok (.iload 4, 2) := by decide +kernel
theorem dX5_points_40 : decode cX5_points 40 = .ok (.bipush 8, 2) := by decide +kernel
theorem dX5_points_42 : decode cX5_points 42 = .ok (.if_icmp .ge 32, 3) := by decide +kernel
theorem dX5_points_45 : decode cX5_points 45 = .ok (.aload_n 0, 1) := by decide +kernel
theorem dX5_points_46 : decode cX5_points 46 = .ok (.getfield 13, 3) := by decide +kernel
theorem dX5_points_49 : decode cX5_points 49 = .ok (.bipush 8, 2) := by decide +kernel
theorem dX5_points_51 : decode cX5_points 51 = .ok (.iload_n 3, 1) := by decide +kernel
theorem dX5_points_52 : decode cX5_points 52 = .ok (.imul, 1) := by decide +kernel
theorem dX5_points_53 : decode cX5_points 53 = .ok (.iload 4, 2) := by decide +kernel
theorem dX5_points_55 : decode cX5_points 55 = .ok (.iadd, 1) := by decide +kernel
theorem dX5_points_56 : decode cX5_points 56 = .ok (.iload_n 3, 1) := by decide +kernel
theorem dX5_points_57 : decode cX5_points 57 = .ok (.iload 4, 2) := by decide +kernel
theorem dX5_points_59 : decode cX5_points 59 = .ok (.if_icmp .ne 7, 3) := by decide +kernel
theorem dX5_points_62 : decode cX5_points 62 = .ok (.iconst 0, 1) := by decide +kernel
theorem dX5_points_63 : decode cX5_points 63 = .ok (.goto 4, 3) := by decide +kernel
theorem dX5_points_66 : decode cX5_points 66 = .ok (.iconst 1, 1) := by decide +kernel
theorem dX5_points_67 : decode cX5_points 67 = .ok (.iastore, 1) := by decide +kernel
theorem dX5_points_68 : decode cX5_points 68 = .ok (.iinc 4 1, 3) := by decide +kernel
theorem dX5_points_71 : decode cX5_points 71 = .ok (.goto (-33), 3) := by decide +kernel
theorem dX5_points_74 : decode cX5_points 74 = .ok (.iinc 3 1, 3) := by decide +kernel
theorem dX5_points_77 : decode cX5_points 77 = .ok (.goto (-48), 3) := by decide +kernel
theorem dX5_points_80 : decode cX5_points 80 = .ok (.iload_n 2, 1) := by decide +kernel
theorem dX5_points_81 : decode cX5_points 81 = .ok (.ireturn, 1) := by decide +kernel
theorem dX5_colour_0 : decode cX5_colour 0 = .ok (.aload_n 0, 1) := by decide +kernel
theorem dX5_colour_1 : decode cX5_colour 1 = .ok (.iconst 0, 1) := by decide +kernel
theorem dX5_colour_2 : decode cX5_colour 2 = .ok (.putfield 42, 3) := by decide +kernel
theorem dX5_colour_5 : decode cX5_colour 5 = .ok (.aload_n 0, 1) := by decide +kernel
theorem dX5_colour_6 : decode cX5_colour 6 = .ok (.iload_n 1, 1) := by decide +kernel
theorem dX5_colour_7 : decode cX5_colour 7 = .ok (.invokevirtual 49, 3) := by decide +kernel
theorem dX5_colour_10 : decode cX5_colour 10 = .ok (.ifCond .eq 20, 3) := by decide +kernel
theorem dX5_colour_13 : decode cX5_colour 13 = .ok (.aload_n 0, 1) := by decide +kernel
theorem dX5_colour_14 : decode cX5_colour 14 = .ok (.iload_n 2, 1) := by decide +kernel
theorem dX5_colour_15 : decode cX5_colour 15 = .ok (.invokevirtual 49, 3) := by decide +kernel
theorem dX5_colour_18 : decode cX5_colour 18 = .ok (.ifCond .eq 12, 3) := by decide +kernel
theorem dX5_colour_21 : decode cX5_colour 21 = .ok (.iload_n 3, 1) := by decide +kernel
theorem dX5_colour_22 : decode cX5_colour 22 = .ok (.iconst 0, 1) := by decide +kernel
theorem dX5_colour_23 : decode cX5_colour 23 = .ok (.iconst 4, 1) := by decide +kernel
theorem dX5_colour_24 : decode cX5_colour 24 = .ok (.invokestatic 45, 3) := by decide +kernel
theorem dX5_colour_27 : decode cX5_colour 27 = .ok (.ifCond .ne 5, 3) := by decide +kernel
theorem dX5_colour_30 : decode cX5_colour 30 = .ok (.iconst (-1), 1) := by decide +kernel
theorem dX5_colour_31 : decode cX5_colour 31 = .ok (.ireturn, 1) := by decide +kernel
theorem dX5_colour_32 : decode cX5_colour 32 = .ok (.aload_n 0, 1) := by decide +kernel
theorem dX5_colour_33 : decode cX5_colour 33 = .ok (.iload_n 1, 1) := by decide +kernel
theorem dX5_colour_34 : decode cX5_colour 34 = .ok (.iload_n 2, 1) := by decide +kernel
theorem dX5_colour_35 : decode cX5_colour 35 = .ok (.invokevirtual 53, 3) := by decide +kernel
theorem dX5_colour_38 : decode cX5_colour 38 = .ok (.istore 4, 2) := by decide +kernel
theorem dX5_colour_40 : decode cX5_colour 40 = .ok (.aload_n 0, 1) := by decide +kernel
theorem dX5_colour_41 : decode cX5_colour 41 = .ok (.getfield 13, 3) := by decide +kernel
theorem dX5_colour_44 : decode cX5_colour 44 = .ok (.bipush 8, 2) := by decide +kernel
theorem dX5_colour_46 : decode cX5_colour 46 = .ok (.iload_n 1, 1) := by decide +kernel
theorem dX5_colour_47 : decode cX5_colour 47 = .ok (.imul, 1) := by decide +kernel
theorem dX5_colour_48 : decode cX5_colour 48 = .ok (.iload_n 2, 1) := by decide +kernel
theorem dX5_colour_49 : decode cX5_colour 49 = .ok (.iadd, 1) := by decide +kernel
theorem dX5_colour_50 : decode cX5_colour 50 = .ok (.iload_n 3, 1) := by decide +kernel
theorem dX5_colour_51 : decode cX5_colour 51 = .ok (.iastore, 1) := by decide +kernel
theorem dX5_colour_52 : decode cX5_colour 52 = .ok (.iload 4, 2) := by decide +kernel
theorem dX5_colour_54 : decode cX5_colour 54 = .ok (.ireturn, 1) := by decide +kernel
theorem dX5_at_0 : decode cX5_at 0 = .ok (.aload_n 0, 1) := by decide +kernel
theorem dX5_at_1 : decode cX5_at 1 = .ok (.iconst 0, 1) := by decide +kernel
theorem dX5_at_2 : decode cX5_at 2 = .ok (.putfield 42, 3) := by decide +kernel
theorem dX5_at_5 : decode cX5_at 5 = .ok (.aload_n 0, 1) := by decide +kernel
theorem dX5_at_6 : decode cX5_at 6 = .ok (.iload_n 1, 1) := by decide +kernel
theorem dX5_at_7 : decode cX5_at 7 = .ok (.invokevirtual 49, 3) := by decide +kernel
theorem dX5_at_10 : decode cX5_at 10 = .ok (.ifCond .eq 20, 3) := by decide +kernel
theorem dX5_at_13 : decode cX5_at 13 = .ok (.aload_n 0, 1) := by decide +kernel
theorem dX5_at_14 : decode cX5_at 14 = .ok (.iload_n 2, 1) := by decide +kernel
theorem dX5_at_15 : decode cX5_at 15 = .ok (.invokevirtual 49, 3) := by decide +kernel
theorem dX5_at_18 : decode cX5_at 18 = .ok (.ifCond .eq 12, 3) := by decide +kernel
theorem dX5_at_21 : decode cX5_at 21 = .ok (.aload_n 0, 1) := by decide +kernel
theorem dX5_at_22 : decode cX5_at 22 = .ok (.iload_n 1, 1) := by decide +kernel
theorem dX5_at_23 : decode cX5_at 23 = .ok (.iload_n 2, 1) := by decide +kernel
theorem dX5_at_24 : decode cX5_at 24 = .ok (.invokevirtual 53, 3) := by decide +kernel
theorem dX5_at_27 : decode cX5_at 27 = .ok (.goto 4, 3) := by decide +kernel
theorem dX5_at_30 : decode cX5_at 30 = .ok (.iconst (-1), 1) := by decide +kernel
theorem dX5_at_31 : decode cX5_at 31 = .ok (.ireturn, 1) := by decide +kernel
theorem dX5_ring_0 : decode cX5_ring 0 = .ok (.aload_n 0, 1) := by decide +kernel
theorem dX5_ring_1 : decode cX5_ring 1 = .ok (.iconst 0, 1) := by decide +kernel
theorem dX5_ring_2 : decode cX5_ring 2 = .ok (.putfield 42, 3) := by decide +kernel
theorem dX5_ring_5 : decode cX5_ring 5 = .ok (.iconst 1, 1) := by decide +kernel
theorem dX5_ring_6 : decode cX5_ring 6 = .ok (.istore_n 2, 1) := by decide +kernel
theorem dX5_ring_7 : decode cX5_ring 7 = .ok (.iconst 1, 1) := by decide +kernel
theorem dX5_ring_8 : decode cX5_ring 8 = .ok (.istore_n 3, 1) := by decide +kernel
theorem dX5_ring_9 : decode cX5_ring 9 = .ok (.iload_n 3, 1) := by decide +kernel
theorem dX5_ring_10 : decode cX5_ring 10 = .ok (.aload_n 0, 1) := by decide +kernel
theorem dX5_ring_11 : decode cX5_ring 11 = .ok (.getfield 7, 3) := by decide +kernel
theorem dX5_ring_14 : decode cX5_ring 14 = .ok (.if_icmp .ge 13, 3) := by decide +kernel
theorem dX5_ring_17 : decode cX5_ring 17 = .ok (.iload_n 2, 1) := by decide +kernel
theorem dX5_ring_18 : decode cX5_ring 18 = .ok (.iconst 5, 1) := by decide +kernel
theorem dX5_ring_19 : decode cX5_ring 19 = .ok (.imul, 1) := by decide +kernel
theorem dX5_ring_20 : decode cX5_ring 20 = .ok (.istore_n 2, 1) := by decide +kernel
theorem dX5_ring_21 : decode cX5_ring 21 = .ok (.iinc 3 1, 3) := by decide +kernel
theorem dX5_ring_24 : decode cX5_ring 24 = .ok (.goto (-15), 3) := by decide +kernel
theorem dX5_ring_27 : decode cX5_ring 27 = .ok (.iload_n 1, 1) := by decide +kernel
theorem dX5_ring_28 : decode cX5_ring 28 = .ok (.iconst 0, 1) := by decide +kernel
theorem dX5_ring_29 : decode cX5_ring 29 = .ok (.iload_n 2, 1) := by decide +kernel
theorem dX5_ring_30 : decode cX5_ring 30 = .ok (.iconst 1, 1) := by decide +kernel
theorem dX5_ring_31 : decode cX5_ring 31 = .ok (.isub, 1) := by decide +kernel
theorem dX5_ring_32 : decode cX5_ring 32 = .ok (.invokestatic 45, 3) := by decide +kernel
theorem dX5_ring_35 : decode cX5_ring 35 = .ok (.ifCond .ne 5, 3) := by decide +kernel
theorem dX5_ring_38 : decode cX5_ring 38 = .ok (.iconst (-1), 1) := by decide +kernel
theorem dX5_ring_39 : decode cX5_ring 39 = .ok (.ireturn, 1) := by decide +kernel
theorem dX5_ring_40 : decode cX5_ring 40 = .ok (.iload_n 1, 1) := by decide +kernel
theorem dX5_ring_41 : decode cX5_ring 41 = .ok (.istore_n 3, 1) := by decide +kernel
theorem dX5_ring_42 : decode cX5_ring 42 = .ok (.iconst 0, 1) := by decide +kernel
theorem dX5_ring_43 : decode cX5_ring 43 = .ok (.istore 4, 2) := by decide +kernel
theorem dX5_ring_45 : decode cX5_ring 45 = .ok (.iload 4, 2) := by decide +kernel
theorem dX5_ring_47 : decode cX5_ring 47 = .ok (.aload_n 0, 1) := by decide +kernel
theorem dX5_ring_48 : decode cX5_ring 48 = .ok (.getfield 7, 3) := by decide +kernel
theorem dX5_ring_51 : decode cX5_ring 51 = .ok (.if_icmp .ge 73, 3) := by decide +kernel
theorem dX5_ring_54 : decode cX5_ring 54 = .ok (.iconst 0, 1) := by decide +kernel
theorem dX5_ring_55 : decode cX5_ring 55 = .ok (.istore 5, 2) := by decide +kernel
theorem dX5_ring_57 : decode cX5_ring 57 = .ok (.iload 5, 2) := by decide +kernel
theorem dX5_ring_59 : decode cX5_ring 59 = .ok (.aload_n 0, 1) := by decide +kernel
theorem dX5_ring_60 : decode cX5_ring 60 = .ok (.getfield 7, 3) := by decide +kernel
theorem dX5_ring_63 : decode cX5_ring 63 = .ok (.if_icmp .ge 42, 3) := by decide +kernel
theorem dX5_ring_66 : decode cX5_ring 66 = .ok (.aload_n 0, 1) := by decide +kernel
theorem dX5_ring_67 : decode cX5_ring 67 = .ok (.getfield 13, 3) := by decide +kernel
theorem dX5_ring_70 : decode cX5_ring 70 = .ok (.bipush 8, 2) := by decide +kernel
theorem dX5_ring_72 : decode cX5_ring 72 = .ok (.iload 5, 2) := by decide +kernel
theorem dX5_ring_74 : decode cX5_ring 74 = .ok (.imul, 1) := by decide +kernel
theorem dX5_ring_75 : decode cX5_ring 75 = .ok (.iload 5, 2) := by decide +kernel
theorem dX5_ring_77 : decode cX5_ring 77 = .ok (.iload 4, 2) := by decide +kernel
theorem dX5_ring_79 : decode cX5_ring 79 = .ok (.iadd, 1) := by decide +kernel
theorem dX5_ring_80 : decode cX5_ring 80 = .ok (.aload_n 0, 1) := by decide +kernel
theorem dX5_ring_81 : decode cX5_ring 81 = .ok (.getfield 7, 3) := by decide +kernel
theorem dX5_ring_84 : decode cX5_ring 84 = .ok (.irem, 1) := by decide +kernel
theorem dX5_ring_85 : decode cX5_ring 85 = .ok (.iadd, 1) := by decide +kernel
theorem dX5_ring_86 : decode cX5_ring 86 = .ok (.iload 4, 2) := by decide +kernel
theorem dX5_ring_88 : decode cX5_ring 88 = .ok (.ifCond .ne 7, 3) := by decide +kernel
theorem dX5_ring_91 : decode cX5_ring 91 = .ok (.iconst 0, 1) := by decide +kernel
theorem dX5_ring_92 : decode cX5_ring 92 = .ok (.goto 6, 3) := by decide +kernel
theorem dX5_ring_95 : decode cX5_ring 95 = .ok (.iload_n 3, 1) := by decide +kernel
theorem dX5_ring_96 : decode cX5_ring 96 = .ok (.iconst 5, 1) := by decide +kernel
theorem dX5_ring_97 : decode cX5_ring 97 = .ok (.irem, 1) := by decide +kernel
theorem dX5_ring_98 : decode cX5_ring 98 = .ok (.iastore, 1) := by decide +kernel
theorem dX5_ring_99 : decode cX5_ring 99 = .ok (.iinc 5 1, 3) := by decide +kernel
theorem dX5_ring_102 : decode cX5_ring 102 = .ok (.goto (-45), 3) := by decide +kernel
theorem dX5_ring_105 : decode cX5_ring 105 = .ok (.iload_n 3, 1) := by decide +kernel
theorem dX5_ring_106 : decode cX5_ring 106 = .ok (.iload 4, 2) := by decide +kernel
theorem dX5_ring_108 : decode cX5_ring 108 = .ok (.ifCond .ne 7, 3) := by decide +kernel
theorem dX5_ring_111 : decode cX5_ring 111 = .ok (.iconst 1, 1) := by decide +kernel
theorem dX5_ring_112 : decode cX5_ring 112 = .ok (.goto 4, 3) := by decide +kernel
theorem dX5_ring_115 : decode cX5_ring 115 = .ok (.iconst 5, 1) := by decide +kernel
theorem dX5_ring_116 : decode cX5_ring 116 = .ok (.idiv, 1) := by decide +kernel
theorem dX5_ring_117 : decode cX5_ring 117 = .ok (.istore_n 3, 1) := by decide +kernel
theorem dX5_ring_118 : decode cX5_ring 118 = .ok (.iinc 4 1, 3) := by decide +kernel
theorem dX5_ring_121 : decode cX5_ring 121 = .ok (.goto (-76), 3) := by decide +kernel
theorem dX5_ring_124 : decode cX5_ring 124 = .ok (.aload_n 0, 1) := by decide +kernel
theorem dX5_ring_125 : decode cX5_ring 125 = .ok (.invokevirtual 57, 3) := by decide +kernel
theorem dX5_ring_128 : decode cX5_ring 128 = .ok (.ifCond .ne 7, 3) := by decide +kernel
theorem dX5_ring_131 : decode cX5_ring 131 = .ok (.iconst 1, 1) := by decide +kernel
theorem dX5_ring_132 : decode cX5_ring 132 = .ok (.goto 4, 3) := by decide +kernel
theorem dX5_ring_135 : decode cX5_ring 135 = .ok (.iconst 0, 1) := by decide +kernel
theorem dX5_ring_136 : decode cX5_ring 136 = .ok (.ireturn, 1) := by decide +kernel
theorem dX5_rank_0 : decode cX5_rank 0 = .ok (.iconst 0, 1) := by decide +kernel
theorem dX5_rank_1 : decode cX5_rank 1 = .ok (.istore_n 1, 1) := by decide +kernel
theorem dX5_rank_2 : decode cX5_rank 2 = .ok (.iconst 0, 1) := by decide +kernel
theorem dX5_rank_3 : decode cX5_rank 3 = .ok (.istore_n 2, 1) := by decide +kernel
theorem dX5_rank_4 : decode cX5_rank 4 = .ok (.iload_n 2, 1) := by decide +kernel
theorem dX5_rank_5 : decode cX5_rank 5 = .ok (.aload_n 0, 1) := by decide +kernel
theorem dX5_rank_6 : decode cX5_rank 6 = .ok (.getfield 7, 3) := by decide +kernel
theorem dX5_rank_9 : decode cX5_rank 9 = .ok (.if_icmp .ge 46, 3) := by decide +kernel
theorem dX5_rank_12 : decode cX5_rank 12 = .ok (.iconst 0, 1) := by decide +kernel
theorem dX5_rank_13 : decode cX5_rank 13 = .ok (.istore_n 3, 1) := by decide +kernel
theorem dX5_rank_14 : decode cX5_rank 14 = .ok (.iload_n 3, 1) := by decide +kernel
theorem dX5_rank_15 : decode cX5_rank 15 = .ok (.aload_n 0, 1) := by decide +kernel
theorem dX5_rank_16 : decode cX5_rank 16 = .ok (.getfield 7, 3) := by decide +kernel
theorem dX5_rank_19 : decode cX5_rank 19 = .ok (.if_icmp .ge 30, 3) := by decide +kernel
theorem dX5_rank_22 : decode cX5_rank 22 = .ok (.aload_n 0, 1) := by decide +kernel
theorem dX5_rank_23 : decode cX5_rank 23 = .ok (.iload_n 2, 1) := by decide +kernel
theorem dX5_rank_24 : decode cX5_rank 24 = .ok (.iload_n 3, 1) := by decide +kernel
theorem dX5_rank_25 : decode cX5_rank 25 = .ok (.invokevirtual 53, 3) := by decide +kernel
theorem dX5_rank_28 : decode cX5_rank 28 = .ok (.iload_n 1, 1) := by decide +kernel
theorem dX5_rank_29 : decode cX5_rank 29 = .ok (.if_icmp .le 12, 3) := by decide +kernel
theorem dX5_rank_32 : decode cX5_rank 32 = .ok (.aload_n 0, 1) := by decide +kernel
theorem dX5_rank_33 : decode cX5_rank 33 = .ok (.iload_n 2, 1) := by decide +kernel
theorem dX5_rank_34 : decode cX5_rank 34 = .ok (.iload_n 3, 1) := by decide +kernel
theorem dX5_rank_35 : decode cX5_rank 35 = .ok (.invokevirtual 53, 3) := by decide +kernel
theorem dX5_rank_38 : decode cX5_rank 38 = .ok (.goto 4, 3) := by decide +kernel
theorem dX5_rank_41 : decode cX5_rank 41 = .ok (.iload_n 1, 1) := by decide +kernel
theorem dX5_rank_42 : decode cX5_rank 42 = .ok (.istore_n 1, 1) := by decide +kernel
theorem dX5_rank_43 : decode cX5_rank 43 = .ok (.iinc 3 1, 3) := by decide +kernel
theorem dX5_rank_46 : decode cX5_rank 46 = .ok (.goto (-32), 3) := by decide +kernel
theorem dX5_rank_49 : decode cX5_rank 49 = .ok (.iinc 2 1, 3) := by decide +kernel
theorem dX5_rank_52 : decode cX5_rank 52 = .ok (.goto (-48), 3) := by decide +kernel
theorem dX5_rank_55 : decode cX5_rank 55 = .ok (.iload_n 1, 1) := by decide +kernel
theorem dX5_rank_56 : decode cX5_rank 56 = .ok (.iconst 1, 1) := by decide +kernel
theorem dX5_rank_57 : decode cX5_rank 57 = .ok (.iadd, 1) := by decide +kernel
theorem dX5_rank_58 : decode cX5_rank 58 = .ok (.ireturn, 1) := by decide +kernel
theorem dX5_between_0 : decode cX5_between 0 = .ok (.iconst 0, 1) := by decide +kernel
theorem dX5_between_1 : decode cX5_between 1 = .ok (.istore 5, 2) := by decide +kernel
theorem dX5_between_3 : decode cX5_between 3 = .ok (.iconst 0, 1) := by decide +kernel
theorem dX5_between_4 : decode cX5_between 4 = .ok (.istore 6, 2) := by decide +kernel
theorem dX5_between_6 : decode cX5_between 6 = .ok (.iload 6, 2) := by decide +kernel
theorem dX5_between_8 : decode cX5_between 8 = .ok (.aload_n 0, 1) := by decide +kernel
theorem dX5_between_9 : decode cX5_between 9 = .ok (.getfield 7, 3) := by decide +kernel
theorem dX5_between_12 : decode cX5_between 12 = .ok (.if_icmp .ge 42, 3) := by decide +kernel
theorem dX5_between_15 : decode cX5_between 15 = .ok (.iload 5, 2) := by decide +kernel
theorem dX5_between_17 : decode cX5_between 17 = .ok (.aload_n 0, 1) := by decide +kernel
theorem dX5_between_18 : decode cX5_between 18 = .ok (.iload_n 1, 1) := by decide +kernel
theorem dX5_between_19 : decode cX5_between 19 = .ok (.iload 6, 2) := by decide +kernel
theorem dX5_between_21 : decode cX5_between 21 = .ok (.invokevirtual 53, 3) := by decide +kernel
theorem dX5_between_24 : decode cX5_between 24 = .ok (.iload_n 3, 1) := by decide +kernel
theorem dX5_between_25 : decode cX5_between 25 = .ok (.if_icmp .ne 19, 3) := by decide +kernel
theorem dX5_between_28 : decode cX5_between 28 = .ok (.aload_n 0, 1) := by decide +kernel
theorem dX5_between_29 : decode cX5_between 29 = .ok (.iload 6, 2) := by decide +kernel
theorem dX5_between_31 : decode cX5_between 31 = .ok (.iload_n 2, 1) := by decide +kernel
theorem dX5_between_32 : decode cX5_between 32 = .ok (.invokevirtual 53, 3) := by decide +kernel
theorem dX5_between_35 : decode cX5_between 35 = .ok (.iload 4, 2) := by decide +kernel
theorem dX5_between_37 : decode cX5_between 37 = .ok (.if_icmp .ne 7, 3) := by decide +kernel
theorem dX5_between_40 : decode cX5_between 40 = .ok (.iconst 1, 1) := by decide +kernel
theorem dX5_between_41 : decode cX5_between 41 = .ok (.goto 4, 3) := by decide +kernel
theorem dX5_between_44 : decode cX5_between 44 = .ok (.iconst 0, 1) := by decide +kernel
theorem dX5_between_45 : decode cX5_between 45 = .ok (.iadd, 1) := by decide +kernel
theorem dX5_between_46 : decode cX5_between 46 = .ok (.istore 5, 2) := by decide +kernel
theorem dX5_between_48 : decode cX5_between 48 = .ok (.iinc 6 1, 3) := by decide +kernel
theorem dX5_between_51 : decode cX5_between 51 = .ok (.goto (-45), 3) := by decide +kernel
theorem dX5_between_54 : decode cX5_between 54 = .ok (.iload 5, 2) := by decide +kernel
theorem dX5_between_56 : decode cX5_between 56 = .ok (.ireturn, 1) := by decide +kernel
theorem dX5_firsts_0 : decode cX5_firsts 0 = .ok (.aload_n 0, 1) := by decide +kernel
theorem dX5_firsts_1 : decode cX5_firsts 1 = .ok (.invokevirtual 61, 3) := by decide +kernel
theorem dX5_firsts_4 : decode cX5_firsts 4 = .ok (.istore_n 1, 1) := by decide +kernel
theorem dX5_firsts_5 : decode cX5_firsts 5 = .ok (.iconst 0, 1) := by decide +kernel
theorem dX5_firsts_6 : decode cX5_firsts 6 = .ok (.istore_n 2, 1) := by decide +kernel
theorem dX5_firsts_7 : decode cX5_firsts 7 = .ok (.aload_n 0, 1) := by decide +kernel
theorem dX5_firsts_8 : decode cX5_firsts 8 = .ok (.getfield 7, 3) := by decide +kernel
theorem dX5_firsts_11 : decode cX5_firsts 11 = .ok (.iconst 1, 1) := by decide +kernel
theorem dX5_firsts_12 : decode cX5_firsts 12 = .ok (.isub, 1) := by decide +kernel
theorem dX5_firsts_13 : decode cX5_firsts 13 = .ok (.istore_n 3, 1) := by decide +kernel
theorem dX5_firsts_14 : decode cX5_firsts 14 = .ok (.iload_n 3, 1) := by decide +kernel
theorem dX5_firsts_15 : decode cX5_firsts 15 = .ok (.ifCond .lt 67, 3) := by decide +kernel
theorem dX5_firsts_18 : decode cX5_firsts 18 = .ok (.aload_n 0, 1) := by decide +kernel
theorem dX5_firsts_19 : decode cX5_firsts 19 = .ok (.getfield 7, 3) := by decide +kernel
theorem dX5_firsts_22 : decode cX5_firsts 22 = .ok (.iconst 1, 1) := by decide +kernel
theorem dX5_firsts_23 : decode cX5_firsts 23 = .ok (.isub, 1) := by decide +kernel
theorem dX5_firsts_24 : decode cX5_firsts 24 = .ok (.istore 4, 2) := by decide +kernel
theorem dX5_firsts_26 : decode cX5_firsts 26 = .ok (.iload 4, 2) := by decide +kernel
theorem dX5_firsts_28 : decode cX5_firsts 28 = .ok (.ifCond .lt 48, 3) := by decide +kernel
theorem dX5_firsts_31 : decode cX5_firsts 31 = .ok (.aload_n 0, 1) := by decide +kernel
theorem dX5_firsts_32 : decode cX5_firsts 32 = .ok (.getfield 23, 3) := by decide +kernel
theorem dX5_firsts_35 : decode cX5_firsts 35 = .ok (.aload_n 0, 1) := by decide +kernel
theorem dX5_firsts_36 : decode cX5_firsts 36 = .ok (.iload_n 3, 1) := by decide +kernel
theorem dX5_firsts_37 : decode cX5_firsts 37 = .ok (.iload 4, 2) := by decide +kernel
theorem dX5_firsts_39 : decode cX5_firsts 39 = .ok (.invokevirtual 53, 3) := by decide +kernel
theorem dX5_firsts_42 : decode cX5_firsts 42 = .ok (.iload_n 3, 1) := by decide +kernel
theorem dX5_firsts_43 : decode cX5_firsts 43 = .ok (.iastore, 1) := by decide +kernel
theorem dX5_firsts_44 : decode cX5_firsts 44 = .ok (.aload_n 0, 1) := by decide +kernel
theorem dX5_firsts_45 : decode cX5_firsts 45 = .ok (.getfield 26, 3) := by decide +kernel
theorem dX5_firsts_48 : decode cX5_firsts 48 = .ok (.aload_n 0, 1) := by decide +kernel
theorem dX5_firsts_49 : decode cX5_firsts 49 = .ok (.iload_n 3, 1) := by decide +kernel
theorem dX5_firsts_50 : decode cX5_firsts 50 = .ok (.iload 4, 2) := by decide +kernel
theorem dX5_firsts_52 : decode cX5_firsts 52 = .ok (.invokevirtual 53, 3) := by decide +kernel
theorem dX5_firsts_55 : decode cX5_firsts 55 = .ok (.iload 4, 2) := by decide +kernel
theorem dX5_firsts_57 : decode cX5_firsts 57 = .ok (.iastore, 1) := by decide +kernel
theorem dX5_firsts_58 : decode cX5_firsts 58 = .ok (.iload_n 2, 1) := by decide +kernel
theorem dX5_firsts_59 : decode cX5_firsts 59 = .ok (.iconst 1, 1) := by decide +kernel
theorem dX5_firsts_60 : decode cX5_firsts 60 = .ok (.aload_n 0, 1) := by decide +kernel
theorem dX5_firsts_61 : decode cX5_firsts 61 = .ok (.iload_n 3, 1) := by decide +kernel
theorem dX5_firsts_62 : decode cX5_firsts 62 = .ok (.iload 4, 2) := by decide +kernel
theorem dX5_firsts_64 : decode cX5_firsts 64 = .ok (.invokevirtual 53, 3) := by decide +kernel
theorem dX5_firsts_67 : decode cX5_firsts 67 = .ok (.ishl, 1) := by decide +kernel
theorem dX5_firsts_68 : decode cX5_firsts 68 = .ok (.ior, 1) := by decide +kernel
theorem dX5_firsts_69 : decode cX5_firsts 69 = .ok (.istore_n 2, 1) := by decide +kernel
theorem dX5_firsts_70 : decode cX5_firsts 70 = .ok (.iinc 4 (-1), 3) := by decide +kernel
theorem dX5_firsts_73 : decode cX5_firsts 73 = .ok (.goto (-47), 3) := by decide +kernel
theorem dX5_firsts_76 : decode cX5_firsts 76 = .ok (.iinc 3 (-1), 3) := by decide +kernel
theorem dX5_firsts_79 : decode cX5_firsts 79 = .ok (.goto (-65), 3) := by decide +kernel
theorem dX5_firsts_82 : decode cX5_firsts 82 = .ok (.iload_n 2, 1) := by decide +kernel
theorem dX5_firsts_83 : decode cX5_firsts 83 = .ok (.iconst 1, 1) := by decide +kernel
theorem dX5_firsts_84 : decode cX5_firsts 84 = .ok (.iload_n 1, 1) := by decide +kernel
theorem dX5_firsts_85 : decode cX5_firsts 85 = .ok (.ishl, 1) := by decide +kernel
theorem dX5_firsts_86 : decode cX5_firsts 86 = .ok (.iconst 1, 1) := by decide +kernel
theorem dX5_firsts_87 : decode cX5_firsts 87 = .ok (.isub, 1) := by decide +kernel
theorem dX5_firsts_88 : decode cX5_firsts 88 = .ok (.if_icmp .ne 7, 3) := by decide +kernel
theorem dX5_firsts_91 : decode cX5_firsts 91 = .ok (.iconst 1, 1) := by decide +kernel
theorem dX5_firsts_92 : decode cX5_firsts 92 = .ok (.goto 4, 3) := by decide +kernel
theorem dX5_firsts_95 : decode cX5_firsts 95 = .ok (.iconst 0, 1) := by decide +kernel
theorem dX5_firsts_96 : decode cX5_firsts 96 = .ok (.ireturn, 1) := by decide +kernel
theorem dX5_failsBy_0 : decode cX5_failsBy 0 = .ok (.iconst 0, 1) := by decide +kernel
theorem dX5_failsBy_1 : decode cX5_failsBy 1 = .ok (.istore_n 1, 1) := by decide +kernel
theorem dX5_failsBy_2 : decode cX5_failsBy 2 = .ok (.iload_n 1, 1) := by decide +kernel
theorem dX5_failsBy_3 : decode cX5_failsBy 3 = .ok (.aload_n 0, 1) := by decide +kernel
theorem dX5_failsBy_4 : decode cX5_failsBy 4 = .ok (.getfield 7, 3) := by decide +kernel
theorem dX5_failsBy_7 : decode cX5_failsBy 7 = .ok (.if_icmp .ge 62, 3) := by decide +kernel
theorem dX5_failsBy_10 : decode cX5_failsBy 10 = .ok (.iconst 0, 1) := by decide +kernel
theorem dX5_failsBy_11 : decode cX5_failsBy 11 = .ok (.istore_n 2, 1) := by decide +kernel
theorem dX5_failsBy_12 : decode cX5_failsBy 12 = .ok (.iload_n 2, 1) := by decide +kernel
theorem dX5_failsBy_13 : decode cX5_failsBy 13 = .ok (.aload_n 0, 1) := by decide +kernel
theorem dX5_failsBy_14 : decode cX5_failsBy 14 = .ok (.getfield 7, 3) := by decide +kernel
theorem dX5_failsBy_17 : decode cX5_failsBy 17 = .ok (.if_icmp .ge 46, 3) := by decide +kernel
theorem dX5_failsBy_20 : decode cX5_failsBy 20 = .ok (.iload_n 1, 1) := by decide +kernel
theorem dX5_failsBy_21 : decode cX5_failsBy 21 = .ok (.iload_n 2, 1) := by decide +kernel
theorem dX5_failsBy_22 : decode cX5_failsBy 22 = .ok (.if_icmp .ne 7, 3) := by decide +kernel
theorem dX5_failsBy_25 : decode cX5_failsBy 25 = .ok (.iconst 1, 1) := by decide +kernel
theorem dX5_failsBy_26 : decode cX5_failsBy 26 = .ok (.goto 4, 3) := by decide +kernel
theorem dX5_failsBy_29 : decode cX5_failsBy 29 = .ok (.iconst 0, 1) := by decide +kernel
theorem dX5_failsBy_30 : decode cX5_failsBy 30 = .ok (.aload_n 0, 1) := by decide +kernel
theorem dX5_failsBy_31 : decode cX5_failsBy 31 = .ok (.iload_n 1, 1) := by decide +kernel
theorem dX5_failsBy_32 : decode cX5_failsBy 32 = .ok (.iload_n 2, 1) := by decide +kernel
theorem dX5_failsBy_33 : decode cX5_failsBy 33 = .ok (.invokevirtual 53, 3) := by decide +kernel
theorem dX5_failsBy_36 : decode cX5_failsBy 36 = .ok (.ifCond .ne 7, 3) := by decide +kernel
theorem dX5_failsBy_39 : decode cX5_failsBy 39 = .ok (.iconst 1, 1) := by decide +kernel
theorem dX5_failsBy_40 : decode cX5_failsBy 40 = .ok (.goto 4, 3) := by decide +kernel
theorem dX5_failsBy_43 : decode cX5_failsBy 43 = .ok (.iconst 0, 1) := by decide +kernel
theorem dX5_failsBy_44 : decode cX5_failsBy 44 = .ok (.if_icmp .eq 13, 3) := by decide +kernel
theorem dX5_failsBy_47 : decode cX5_failsBy 47 = .ok (.bipush 100, 2) := by decide +kernel
theorem dX5_failsBy_49 : decode cX5_failsBy 49 = .ok (.bipush 10, 2) := by decide +kernel
theorem dX5_failsBy_51 : decode cX5_failsBy 51 = .ok (.iload_n 1, 1) := by decide +kernel
theorem dX5_failsBy_52 : decode cX5_failsBy 52 = .ok (.imul, 1) := by decide +kernel
theorem dX5_failsBy_53 : decode cX5_failsBy 53 = .ok (.iadd, 1) := by decide +kernel
theorem dX5_failsBy_54 : decode cX5_failsBy 54 = .ok (.iload_n 2, 1) := by decide +kernel
theorem dX5_failsBy_55 : decode cX5_failsBy 55 = .ok (.iadd, 1) := by decide +kernel
theorem dX5_failsBy_56 : decode cX5_failsBy 56 = .ok (.ireturn, 1) := by decide +kernel
theorem dX5_failsBy_57 : decode cX5_failsBy 57 = .ok (.iinc 2 1, 3) := by decide +kernel
theorem dX5_failsBy_60 : decode cX5_failsBy 60 = .ok (.goto (-48), 3) := by decide +kernel
theorem dX5_failsBy_63 : decode cX5_failsBy 63 = .ok (.iinc 1 1, 3) := by decide +kernel
theorem dX5_failsBy_66 : decode cX5_failsBy 66 = .ok (.goto (-64), 3) := by decide +kernel
theorem dX5_failsBy_69 : decode cX5_failsBy 69 = .ok (.aload_n 0, 1) := by decide +kernel
theorem dX5_failsBy_70 : decode cX5_failsBy 70 = .ok (.invokevirtual 64, 3) := by decide +kernel
theorem dX5_failsBy_73 : decode cX5_failsBy 73 = .ok (.ifCond .ne 7, 3) := by decide +kernel
theorem dX5_failsBy_76 : decode cX5_failsBy 76 = .ok (.sipush 200, 3) := by decide +kernel
theorem dX5_failsBy_79 : decode cX5_failsBy 79 = .ok (.ireturn, 1) := by decide +kernel
theorem dX5_failsBy_80 : decode cX5_failsBy 80 = .ok (.iconst 0, 1) := by decide +kernel
theorem dX5_failsBy_81 : decode cX5_failsBy 81 = .ok (.istore_n 1, 1) := by decide +kernel
theorem dX5_failsBy_82 : decode cX5_failsBy 82 = .ok (.iload_n 1, 1) := by decide +kernel
theorem dX5_failsBy_83 : decode cX5_failsBy 83 = .ok (.aload_n 0, 1) := by decide +kernel
theorem dX5_failsBy_84 : decode cX5_failsBy 84 = .ok (.getfield 7, 3) := by decide +kernel
theorem dX5_failsBy_87 : decode cX5_failsBy 87 = .ok (.if_icmp .ge 68, 3) := by decide +kernel
theorem dX5_failsBy_90 : decode cX5_failsBy 90 = .ok (.iconst 0, 1) := by decide +kernel
theorem dX5_failsBy_91 : decode cX5_failsBy 91 = .ok (.istore_n 2, 1) := by decide +kernel
theorem dX5_failsBy_92 : decode cX5_failsBy 92 = .ok (.iload_n 2, 1) := by decide +kernel
theorem dX5_failsBy_93 : decode cX5_failsBy 93 = .ok (.aload_n 0, 1) := by decide +kernel
theorem dX5_failsBy_94 : decode cX5_failsBy 94 = .ok (.getfield 7, 3) := by decide +kernel
theorem dX5_failsBy_97 : decode cX5_failsBy 97 = .ok (.if_icmp .ge 52, 3) := by decide +kernel
theorem dX5_failsBy_100 : decode cX5_failsBy 100 = .ok (.aload_n 0, 1) := by decide +kernel
theorem dX5_failsBy_101 : decode cX5_failsBy 101 = .ok (.iload_n 1, 1) := by decide +kernel
theorem dX5_failsBy_102 : decode cX5_failsBy 102 = .ok (.iload_n 2, 1) := by decide +kernel
theorem dX5_failsBy_103 : decode cX5_failsBy 103 = .ok (.invokevirtual 53, 3) := by decide +kernel
theorem dX5_failsBy_106 : decode cX5_failsBy 106 = .ok (.istore_n 3, 1) := by decide +kernel
theorem dX5_failsBy_107 : decode cX5_failsBy 107 = .ok (.aload_n 0, 1) := by decide +kernel
theorem dX5_failsBy_108 : decode cX5_failsBy 108 = .ok (.iload_n 2, 1) := by decide +kernel
theorem dX5_failsBy_109 : decode cX5_failsBy 109 = .ok (.iload_n 1, 1) := by decide +kernel
theorem dX5_failsBy_110 : decode cX5_failsBy 110 = .ok (.invokevirtual 53, 3) := by decide +kernel
theorem dX5_failsBy_113 : decode cX5_failsBy 113 = .ok (.aload_n 0, 1) := by decide +kernel
theorem dX5_failsBy_114 : decode cX5_failsBy 114 = .ok (.aload_n 0, 1) := by decide +kernel
theorem dX5_failsBy_115 : decode cX5_failsBy 115 = .ok (.getfield 26, 3) := by decide +kernel
theorem dX5_failsBy_118 : decode cX5_failsBy 118 = .ok (.iload_n 3, 1) := by decide +kernel
theorem dX5_failsBy_119 : decode cX5_failsBy 119 = .ok (.iaload, 1) := by decide +kernel
theorem dX5_failsBy_120 : decode cX5_failsBy 120 = .ok (.aload_n 0, 1) := by decide +kernel
theorem dX5_failsBy_121 : decode cX5_failsBy 121 = .ok (.getfield 23, 3) := by decide +kernel
theorem dX5_failsBy_124 : decode cX5_failsBy 124 = .ok (.iload_n 3, 1) := by decide +kernel
theorem dX5_failsBy_125 : decode cX5_failsBy 125 = .ok (.iaload, 1) := by decide +kernel
theorem dX5_failsBy_126 : decode cX5_failsBy 126 = .ok (.invokevirtual 53, 3) := by decide +kernel
theorem dX5_failsBy_129 : decode cX5_failsBy 129 = .ok (.if_icmp .eq 14, 3) := by decide +kernel
theorem dX5_failsBy_132 : decode cX5_failsBy 132 = .ok (.sipush 300, 3) := by decide +kernel
theorem dX5_failsBy_135 : decode cX5_failsBy 135 = .ok (.bipush 10, 2) := by decide +kernel
theorem dX5_failsBy_137 : decode cX5_failsBy 137 = .ok (.iload_n 1, 1) := by decide +kernel
theorem dX5_failsBy_138 : decode cX5_failsBy 138 = .ok (.imul, 1) := by decide +kernel
theorem dX5_failsBy_139 : decode cX5_failsBy 139 = .ok (.iadd, 1) := by decide +kernel
theorem dX5_failsBy_140 : decode cX5_failsBy 140 = .ok (.iload_n 2, 1) := by decide +kernel
theorem dX5_failsBy_141 : decode cX5_failsBy 141 = .ok (.iadd, 1) := by decide +kernel
theorem dX5_failsBy_142 : decode cX5_failsBy 142 = .ok (.ireturn, 1) := by decide +kernel
theorem dX5_failsBy_143 : decode cX5_failsBy 143 = .ok (.iinc 2 1, 3) := by decide +kernel
theorem dX5_failsBy_146 : decode cX5_failsBy 146 = .ok (.goto (-54), 3) := by decide +kernel
theorem dX5_failsBy_149 : decode cX5_failsBy 149 = .ok (.iinc 1 1, 3) := by decide +kernel
theorem dX5_failsBy_152 : decode cX5_failsBy 152 = .ok (.goto (-70), 3) := by decide +kernel
theorem dX5_failsBy_155 : decode cX5_failsBy 155 = .ok (.aload_n 0, 1) := by decide +kernel
theorem dX5_failsBy_156 : decode cX5_failsBy 156 = .ok (.invokevirtual 61, 3) := by decide +kernel
theorem dX5_failsBy_159 : decode cX5_failsBy 159 = .ok (.istore_n 1, 1) := by decide +kernel
theorem dX5_failsBy_160 : decode cX5_failsBy 160 = .ok (.iconst 0, 1) := by decide +kernel
theorem dX5_failsBy_161 : decode cX5_failsBy 161 = .ok (.istore_n 2, 1) := by decide +kernel
theorem dX5_failsBy_162 : decode cX5_failsBy 162 = .ok (.iload_n 2, 1) := by decide +kernel
theorem dX5_failsBy_163 : decode cX5_failsBy 163 = .ok (.aload_n 0, 1) := by decide +kernel
theorem dX5_failsBy_164 : decode cX5_failsBy 164 = .ok (.getfield 7, 3) := by decide +kernel
theorem dX5_failsBy_167 : decode cX5_failsBy 167 = .ok (.if_icmp .ge 109, 3) := by decide +kernel
theorem dX5_failsBy_170 : decode cX5_failsBy 170 = .ok (.iconst 0, 1) := by decide +kernel
theorem dX5_failsBy_171 : decode cX5_failsBy 171 = .ok (.istore_n 3, 1) := by decide +kernel
theorem dX5_failsBy_172 : decode cX5_failsBy 172 = .ok (.iload_n 3, 1) := by decide +kernel
theorem dX5_failsBy_173 : decode cX5_failsBy 173 = .ok (.aload_n 0, 1) := by decide +kernel
theorem dX5_failsBy_174 : decode cX5_failsBy 174 = .ok (.getfield 7, 3) := by decide +kernel
theorem dX5_failsBy_177 : decode cX5_failsBy 177 = .ok (.if_icmp .ge 93, 3) := by decide +kernel
theorem dX5_failsBy_180 : decode cX5_failsBy 180 = .ok (.aload_n 0, 1) := by decide +kernel
theorem dX5_failsBy_181 : decode cX5_failsBy 181 = .ok (.iload_n 2, 1) := by decide +kernel
theorem dX5_failsBy_182 : decode cX5_failsBy 182 = .ok (.iload_n 3, 1) := by decide +kernel
theorem dX5_failsBy_183 : decode cX5_failsBy 183 = .ok (.invokevirtual 53, 3) := by decide +kernel
theorem dX5_failsBy_186 : decode cX5_failsBy 186 = .ok (.istore 4, 2) := by decide +kernel
theorem dX5_failsBy_188 : decode cX5_failsBy 188 = .ok (.iconst 0, 1) := by decide +kernel
theorem dX5_failsBy_189 : decode cX5_failsBy 189 = .ok (.istore 5, 2) := by decide +kernel
theorem dX5_failsBy_191 : decode cX5_failsBy 191 = .ok (.iload 5, 2) := by decide +kernel
theorem dX5_failsBy_193 : decode cX5_failsBy 193 = .ok (.iload_n 1, 1) := by decide +kernel
theorem dX5_failsBy_194 : decode cX5_failsBy 194 = .ok (.if_icmp .ge 70, 3) := by decide +kernel
theorem dX5_failsBy_197 : decode cX5_failsBy 197 = .ok (.iconst 0, 1) := by decide +kernel
theorem dX5_failsBy_198 : decode cX5_failsBy 198 = .ok (.istore 6, 2) := by decide +kernel
theorem dX5_failsBy_200 : decode cX5_failsBy 200 = .ok (.iload 6, 2) := by decide +kernel
theorem dX5_failsBy_202 : decode cX5_failsBy 202 = .ok (.iload_n 1, 1) := by decide +kernel
theorem dX5_failsBy_203 : decode cX5_failsBy 203 = .ok (.if_icmp .ge 55, 3) := by decide +kernel
theorem dX5_failsBy_206 : decode cX5_failsBy 206 = .ok (.aload_n 0, 1) := by decide +kernel
theorem dX5_failsBy_207 : decode cX5_failsBy 207 = .ok (.iload_n 2, 1) := by decide +kernel
theorem dX5_failsBy_208 : decode cX5_failsBy 208 = .ok (.iload_n 3, 1) := by decide +kernel
theorem dX5_failsBy_209 : decode cX5_failsBy 209 = .ok (.iload 5, 2) := by decide +kernel
theorem dX5_failsBy_211 : decode cX5_failsBy 211 = .ok (.iload 6, 2) := by decide +kernel
theorem dX5_failsBy_213 : decode cX5_failsBy 213 = .ok (.invokevirtual 68, 3) := by decide +kernel
theorem dX5_failsBy_216 : decode cX5_failsBy 216 = .ok (.aload_n 0, 1) := by decide +kernel
theorem dX5_failsBy_217 : decode cX5_failsBy 217 = .ok (.aload_n 0, 1) := by decide +kernel
theorem dX5_failsBy_218 : decode cX5_failsBy 218 = .ok (.getfield 23, 3) := by decide +kernel
theorem dX5_failsBy_221 : decode cX5_failsBy 221 = .ok (.iload 4, 2) := by decide +kernel
theorem dX5_failsBy_223 : decode cX5_failsBy 223 = .ok (.iaload, 1) := by decide +kernel
theorem dX5_failsBy_224 : decode cX5_failsBy 224 = .ok (.aload_n 0, 1) := by decide +kernel
theorem dX5_failsBy_225 : decode cX5_failsBy 225 = .ok (.getfield 26, 3) := by decide +kernel
theorem dX5_failsBy_228 : decode cX5_failsBy 228 = .ok (.iload 4, 2) := by decide +kernel
theorem dX5_failsBy_230 : decode cX5_failsBy 230 = .ok (.iaload, 1) := by decide +kernel
theorem dX5_failsBy_231 : decode cX5_failsBy 231 = .ok (.iload 5, 2) := by decide +kernel
theorem dX5_failsBy_233 : decode cX5_failsBy 233 = .ok (.iload 6, 2) := by decide +kernel
theorem dX5_failsBy_235 : decode cX5_failsBy 235 = .ok (.invokevirtual 68, 3) := by decide +kernel
theorem dX5_failsBy_238 : decode cX5_failsBy 238 = .ok (.if_icmp .eq 14, 3) := by decide +kernel
theorem dX5_failsBy_241 : decode cX5_failsBy 241 = .ok (.sipush 400, 3) := by decide +kernel
theorem dX5_failsBy_244 : decode cX5_failsBy 244 = .ok (.bipush 10, 2) := by decide +kernel
theorem dX5_failsBy_246 : decode cX5_failsBy 246 = .ok (.iload_n 2, 1) := by decide +kernel
theorem dX5_failsBy_247 : decode cX5_failsBy 247 = .ok (.imul, 1) := by decide +kernel
theorem dX5_failsBy_248 : decode cX5_failsBy 248 = .ok (.iadd, 1) := by decide +kernel
theorem dX5_failsBy_249 : decode cX5_failsBy 249 = .ok (.iload_n 3, 1) := by decide +kernel
theorem dX5_failsBy_250 : decode cX5_failsBy 250 = .ok (.iadd, 1) := by decide +kernel
theorem dX5_failsBy_251 : decode cX5_failsBy 251 = .ok (.ireturn, 1) := by decide +kernel
theorem dX5_failsBy_252 : decode cX5_failsBy 252 = .ok (.iinc 6 1, 3) := by decide +kernel
theorem dX5_failsBy_255 : decode cX5_failsBy 255 = .ok (.goto (-55), 3) := by decide +kernel
theorem dX5_failsBy_258 : decode cX5_failsBy 258 = .ok (.iinc 5 1, 3) := by decide +kernel
theorem dX5_failsBy_261 : decode cX5_failsBy 261 = .ok (.goto (-70), 3) := by decide +kernel
theorem dX5_failsBy_264 : decode cX5_failsBy 264 = .ok (.iinc 3 1, 3) := by decide +kernel
theorem dX5_failsBy_267 : decode cX5_failsBy 267 = .ok (.goto (-95), 3) := by decide +kernel
theorem dX5_failsBy_270 : decode cX5_failsBy 270 = .ok (.iinc 2 1, 3) := by decide +kernel
theorem dX5_failsBy_273 : decode cX5_failsBy 273 = .ok (.goto (-111), 3) := by decide +kernel
theorem dX5_failsBy_276 : decode cX5_failsBy 276 = .ok (.iconst 0, 1) := by decide +kernel
theorem dX5_failsBy_277 : decode cX5_failsBy 277 = .ok (.ireturn, 1) := by decide +kernel
theorem dX5_fails_0 : decode cX5_fails 0 = .ok (.aload_n 0, 1) := by decide +kernel
theorem dX5_fails_1 : decode cX5_fails 1 = .ok (.iconst 0, 1) := by decide +kernel
theorem dX5_fails_2 : decode cX5_fails 2 = .ok (.putfield 42, 3) := by decide +kernel
theorem dX5_fails_5 : decode cX5_fails 5 = .ok (.aload_n 0, 1) := by decide +kernel
theorem dX5_fails_6 : decode cX5_fails 6 = .ok (.invokevirtual 57, 3) := by decide +kernel
theorem dX5_fails_9 : decode cX5_fails 9 = .ok (.ireturn, 1) := by decide +kernel
theorem dX5_isColour_0 : decode cX5_isColour 0 = .ok (.iload_n 1, 1) := by decide +kernel
theorem dX5_isColour_1 : decode cX5_isColour 1 = .ok (.iconst 0, 1) := by decide +kernel
theorem dX5_isColour_2 : decode cX5_isColour 2 = .ok (.aload_n 0, 1) := by decide +kernel
theorem dX5_isColour_3 : decode cX5_isColour 3 = .ok (.invokevirtual 61, 3) := by decide +kernel
theorem dX5_isColour_6 : decode cX5_isColour 6 = .ok (.iconst 1, 1) := by decide +kernel
theorem dX5_isColour_7 : decode cX5_isColour 7 = .ok (.isub, 1) := by decide +kernel
theorem dX5_isColour_8 : decode cX5_isColour 8 = .ok (.invokestatic 45, 3) := by decide +kernel
theorem dX5_isColour_11 : decode cX5_isColour 11 = .ok (.ireturn, 1) := by decide +kernel
theorem dX5_isEven_0 : decode cX5_isEven 0 = .ok (.aload_n 0, 1) := by decide +kernel
theorem dX5_isEven_1 : decode cX5_isEven 1 = .ok (.invokevirtual 57, 3) := by decide +kernel
theorem dX5_isEven_4 : decode cX5_isEven 4 = .ok (.ifCond .ne 7, 3) := by decide +kernel
theorem dX5_isEven_7 : decode cX5_isEven 7 = .ok (.iconst 1, 1) := by decide +kernel
theorem dX5_isEven_8 : decode cX5_isEven 8 = .ok (.goto 4, 3) := by decide +kernel
theorem dX5_isEven_11 : decode cX5_isEven 11 = .ok (.iconst 0, 1) := by decide +kernel
theorem dX5_isEven_12 : decode cX5_isEven 12 = .ok (.ireturn, 1) := by decide +kernel
theorem dX5_numberOf_0 : decode cX5_numberOf 0 = .ok (.aload_n 0, 1) := by decide +kernel
theorem dX5_numberOf_1 : decode cX5_numberOf 1 = .ok (.aload_n 0, 1) := by decide +kernel
theorem dX5_numberOf_2 : decode cX5_numberOf 2 = .ok (.getfield 23, 3) := by decide +kernel
theorem dX5_numberOf_5 : decode cX5_numberOf 5 = .ok (.iload_n 3, 1) := by decide +kernel
theorem dX5_numberOf_6 : decode cX5_numberOf 6 = .ok (.iaload, 1) := by decide +kernel
theorem dX5_numberOf_7 : decode cX5_numberOf 7 = .ok (.aload_n 0, 1) := by decide +kernel
theorem dX5_numberOf_8 : decode cX5_numberOf 8 = .ok (.getfield 26, 3) := by decide +kernel
theorem dX5_numberOf_11 : decode cX5_numberOf 11 = .ok (.iload_n 3, 1) := by decide +kernel
theorem dX5_numberOf_12 : decode cX5_numberOf 12 = .ok (.iaload, 1) := by decide +kernel
theorem dX5_numberOf_13 : decode cX5_numberOf 13 = .ok (.iload_n 1, 1) := by decide +kernel
theorem dX5_numberOf_14 : decode cX5_numberOf 14 = .ok (.iload_n 2, 1) := by decide +kernel
theorem dX5_numberOf_15 : decode cX5_numberOf 15 = .ok (.invokevirtual 68, 3) := by decide +kernel
theorem dX5_numberOf_18 : decode cX5_numberOf 18 = .ok (.ireturn, 1) := by decide +kernel
theorem dX5_number_0 : decode cX5_number 0 = .ok (.aload_n 0, 1) := by decide +kernel
theorem dX5_number_1 : decode cX5_number 1 = .ok (.iconst 0, 1) := by decide +kernel
theorem dX5_number_2 : decode cX5_number 2 = .ok (.putfield 42, 3) := by decide +kernel
theorem dX5_number_5 : decode cX5_number 5 = .ok (.aload_n 0, 1) := by decide +kernel
theorem dX5_number_6 : decode cX5_number 6 = .ok (.iload_n 1, 1) := by decide +kernel
theorem dX5_number_7 : decode cX5_number 7 = .ok (.invokevirtual 72, 3) := by decide +kernel
theorem dX5_number_10 : decode cX5_number 10 = .ok (.ifCond .eq 19, 3) := by decide +kernel
theorem dX5_number_13 : decode cX5_number 13 = .ok (.aload_n 0, 1) := by decide +kernel
theorem dX5_number_14 : decode cX5_number 14 = .ok (.iload_n 2, 1) := by decide +kernel
theorem dX5_number_15 : decode cX5_number 15 = .ok (.invokevirtual 72, 3) := by decide +kernel
theorem dX5_number_18 : decode cX5_number 18 = .ok (.ifCond .eq 11, 3) := by decide +kernel
theorem dX5_number_21 : decode cX5_number 21 = .ok (.aload_n 0, 1) := by decide +kernel
theorem dX5_number_22 : decode cX5_number 22 = .ok (.iload_n 3, 1) := by decide +kernel
theorem dX5_number_23 : decode cX5_number 23 = .ok (.invokevirtual 72, 3) := by decide +kernel
theorem dX5_number_26 : decode cX5_number 26 = .ok (.ifCond .ne 5, 3) := by decide +kernel
theorem dX5_number_29 : decode cX5_number 29 = .ok (.iconst (-1), 1) := by decide +kernel
theorem dX5_number_30 : decode cX5_number 30 = .ok (.ireturn, 1) := by decide +kernel
theorem dX5_number_31 : decode cX5_number 31 = .ok (.aload_n 0, 1) := by decide +kernel
theorem dX5_number_32 : decode cX5_number 32 = .ok (.invokevirtual 75, 3) := by decide +kernel
theorem dX5_number_35 : decode cX5_number 35 = .ok (.ifCond .eq 13, 3) := by decide +kernel
theorem dX5_number_38 : decode cX5_number 38 = .ok (.aload_n 0, 1) := by decide +kernel
theorem dX5_number_39 : decode cX5_number 39 = .ok (.iload_n 1, 1) := by decide +kernel
theorem dX5_number_40 : decode cX5_number 40 = .ok (.iload_n 2, 1) := by decide +kernel
theorem dX5_number_41 : decode cX5_number 41 = .ok (.iload_n 3, 1) := by decide +kernel
theorem dX5_number_42 : decode cX5_number 42 = .ok (.invokevirtual 78, 3) := by decide +kernel
theorem dX5_number_45 : decode cX5_number 45 = .ok (.goto 5, 3) := by decide +kernel
theorem dX5_number_48 : decode cX5_number 48 = .ok (.bipush (-2), 2) := by decide +kernel
theorem dX5_number_50 : decode cX5_number 50 = .ok (.ireturn, 1) := by decide +kernel
theorem dX5_degree_0 : decode cX5_degree 0 = .ok (.iconst 0, 1) := by decide +kernel
theorem dX5_degree_1 : decode cX5_degree 1 = .ok (.istore_n 2, 1) := by decide +kernel
theorem dX5_degree_2 : decode cX5_degree 2 = .ok (.iconst 0, 1) := by decide +kernel
theorem dX5_degree_3 : decode cX5_degree 3 = .ok (.istore_n 3, 1) := by decide +kernel
theorem dX5_degree_4 : decode cX5_degree 4 = .ok (.iload_n 3, 1) := by decide +kernel
theorem dX5_degree_5 : decode cX5_degree 5 = .ok (.aload_n 0, 1) := by decide +kernel
theorem dX5_degree_6 : decode cX5_degree 6 = .ok (.getfield 7, 3) := by decide +kernel
theorem dX5_degree_9 : decode cX5_degree 9 = .ok (.if_icmp .ge 27, 3) := by decide +kernel
theorem dX5_degree_12 : decode cX5_degree 12 = .ok (.iload_n 2, 1) := by decide +kernel
theorem dX5_degree_13 : decode cX5_degree 13 = .ok (.aload_n 0, 1) := by decide +kernel
theorem dX5_degree_14 : decode cX5_degree 14 = .ok (.iconst 0, 1) := by decide +kernel
theorem dX5_degree_15 : decode cX5_degree 15 = .ok (.iload_n 3, 1) := by decide +kernel
theorem dX5_degree_16 : decode cX5_degree 16 = .ok (.invokevirtual 53, 3) := by decide +kernel
theorem dX5_degree_19 : decode cX5_degree 19 = .ok (.iload_n 1, 1) := by decide +kernel
theorem dX5_degree_20 : decode cX5_degree 20 = .ok (.if_icmp .ne 7, 3) := by decide +kernel
theorem dX5_degree_23 : decode cX5_degree 23 = .ok (.iconst 1, 1) := by decide +kernel
theorem dX5_degree_24 : decode cX5_degree 24 = .ok (.goto 4, 3) := by decide +kernel
theorem dX5_degree_27 : decode cX5_degree 27 = .ok (.iconst 0, 1) := by decide +kernel
theorem dX5_degree_28 : decode cX5_degree 28 = .ok (.iadd, 1) := by decide +kernel
theorem dX5_degree_29 : decode cX5_degree 29 = .ok (.istore_n 2, 1) := by decide +kernel
theorem dX5_degree_30 : decode cX5_degree 30 = .ok (.iinc 3 1, 3) := by decide +kernel
theorem dX5_degree_33 : decode cX5_degree 33 = .ok (.goto (-29), 3) := by decide +kernel
theorem dX5_degree_36 : decode cX5_degree 36 = .ok (.iload_n 2, 1) := by decide +kernel
theorem dX5_degree_37 : decode cX5_degree 37 = .ok (.ireturn, 1) := by decide +kernel
theorem dX5_of_0 : decode cX5_of 0 = .ok (.aload_n 0, 1) := by decide +kernel
theorem dX5_of_1 : decode cX5_of 1 = .ok (.iconst 0, 1) := by decide +kernel
theorem dX5_of_2 : decode cX5_of 2 = .ok (.putfield 42, 3) := by decide +kernel
theorem dX5_of_5 : decode cX5_of 5 = .ok (.aload_n 0, 1) := by decide +kernel
theorem dX5_of_6 : decode cX5_of 6 = .ok (.iload_n 1, 1) := by decide +kernel
theorem dX5_of_7 : decode cX5_of 7 = .ok (.invokevirtual 72, 3) := by decide +kernel
theorem dX5_of_10 : decode cX5_of 10 = .ok (.ifCond .eq 12, 3) := by decide +kernel
theorem dX5_of_13 : decode cX5_of 13 = .ok (.iload_n 2, 1) := by decide +kernel
theorem dX5_of_14 : decode cX5_of 14 = .ok (.iconst 0, 1) := by decide +kernel
theorem dX5_of_15 : decode cX5_of 15 = .ok (.iconst 1, 1) := by decide +kernel
theorem dX5_of_16 : decode cX5_of 16 = .ok (.invokestatic 45, 3) := by decide +kernel
theorem dX5_of_19 : decode cX5_of 19 = .ok (.ifCond .ne 5, 3) := by decide +kernel
theorem dX5_of_22 : decode cX5_of 22 = .ok (.iconst (-1), 1) := by decide +kernel
theorem dX5_of_23 : decode cX5_of 23 = .ok (.ireturn, 1) := by decide +kernel
theorem dX5_of_24 : decode cX5_of 24 = .ok (.aload_n 0, 1) := by decide +kernel
theorem dX5_of_25 : decode cX5_of 25 = .ok (.invokevirtual 75, 3) := by decide +kernel
theorem dX5_of_28 : decode cX5_of 28 = .ok (.ifCond .ne 6, 3) := by decide +kernel
theorem dX5_of_31 : decode cX5_of 31 = .ok (.bipush (-2), 2) := by decide +kernel
theorem dX5_of_33 : decode cX5_of 33 = .ok (.ireturn, 1) := by decide +kernel
theorem dX5_of_34 : decode cX5_of 34 = .ok (.iload_n 2, 1) := by decide +kernel
theorem dX5_of_35 : decode cX5_of 35 = .ok (.ifCond .ne 22, 3) := by decide +kernel
theorem dX5_of_38 : decode cX5_of 38 = .ok (.aload_n 0, 1) := by decide +kernel
theorem dX5_of_39 : decode cX5_of 39 = .ok (.aload_n 0, 1) := by decide +kernel
theorem dX5_of_40 : decode cX5_of 40 = .ok (.getfield 26, 3) := by decide +kernel
theorem dX5_of_43 : decode cX5_of 43 = .ok (.iload_n 1, 1) := by decide +kernel
theorem dX5_of_44 : decode cX5_of 44 = .ok (.iaload, 1) := by decide +kernel
theorem dX5_of_45 : decode cX5_of 45 = .ok (.aload_n 0, 1) := by decide +kernel
theorem dX5_of_46 : decode cX5_of 46 = .ok (.getfield 23, 3) := by decide +kernel
theorem dX5_of_49 : decode cX5_of 49 = .ok (.iload_n 1, 1) := by decide +kernel
theorem dX5_of_50 : decode cX5_of 50 = .ok (.iaload, 1) := by decide +kernel
theorem dX5_of_51 : decode cX5_of 51 = .ok (.invokevirtual 53, 3) := by decide +kernel
theorem dX5_of_54 : decode cX5_of 54 = .ok (.goto 8, 3) := by decide +kernel
theorem dX5_of_57 : decode cX5_of 57 = .ok (.aload_n 0, 1) := by decide +kernel
theorem dX5_of_58 : decode cX5_of 58 = .ok (.iload_n 1, 1) := by decide +kernel
theorem dX5_of_59 : decode cX5_of 59 = .ok (.invokevirtual 82, 3) := by decide +kernel
theorem dX5_of_62 : decode cX5_of 62 = .ok (.ireturn, 1) := by decide +kernel
theorem dX5_turns_0 : decode cX5_turns 0 = .ok (.aload_n 0, 1) := by decide +kernel
theorem dX5_turns_1 : decode cX5_turns 1 = .ok (.iconst 0, 1) := by decide +kernel
theorem dX5_turns_2 : decode cX5_turns 2 = .ok (.putfield 42, 3) := by decide +kernel
theorem dX5_turns_5 : decode cX5_turns 5 = .ok (.aload_n 0, 1) := by decide +kernel
theorem dX5_turns_6 : decode cX5_turns 6 = .ok (.invokevirtual 75, 3) := by decide +kernel
theorem dX5_turns_9 : decode cX5_turns 9 = .ok (.ifCond .ne 6, 3) := by decide +kernel
theorem dX5_turns_12 : decode cX5_turns 12 = .ok (.bipush (-2), 2) := by decide +kernel
theorem dX5_turns_14 : decode cX5_turns 14 = .ok (.ireturn, 1) := by decide +kernel
theorem dX5_turns_15 : decode cX5_turns 15 = .ok (.aload_n 0, 1) := by decide +kernel
theorem dX5_turns_16 : decode cX5_turns 16 = .ok (.invokevirtual 61, 3) := by decide +kernel
theorem dX5_turns_19 : decode cX5_turns 19 = .ok (.istore_n 1, 1) := by decide +kernel
theorem dX5_turns_20 : decode cX5_turns 20 = .ok (.iconst 1, 1) := by decide +kernel
theorem dX5_turns_21 : decode cX5_turns 21 = .ok (.istore_n 2, 1) := by decide +kernel
theorem dX5_turns_22 : decode cX5_turns 22 = .ok (.iconst 0, 1) := by decide +kernel
theorem dX5_turns_23 : decode cX5_turns 23 = .ok (.istore_n 3, 1) := by decide +kernel
theorem dX5_turns_24 : decode cX5_turns 24 = .ok (.iload_n 3, 1) := by decide +kernel
theorem dX5_turns_25 : decode cX5_turns 25 = .ok (.iload_n 1, 1) := by decide +kernel
theorem dX5_turns_26 : decode cX5_turns 26 = .ok (.if_icmp .ge 68, 3) := by decide +kernel
theorem dX5_turns_29 : decode cX5_turns 29 = .ok (.iconst 0, 1) := by decide +kernel
theorem dX5_turns_30 : decode cX5_turns 30 = .ok (.istore 4, 2) := by decide +kernel
theorem dX5_turns_32 : decode cX5_turns 32 = .ok (.iload 4, 2) := by decide +kernel
theorem dX5_turns_34 : decode cX5_turns 34 = .ok (.iload_n 1, 1) := by decide +kernel
theorem dX5_turns_35 : decode cX5_turns 35 = .ok (.if_icmp .ge 53, 3) := by decide +kernel
theorem dX5_turns_38 : decode cX5_turns 38 = .ok (.iconst 0, 1) := by decide +kernel
theorem dX5_turns_39 : decode cX5_turns 39 = .ok (.istore 5, 2) := by decide +kernel
theorem dX5_turns_41 : decode cX5_turns 41 = .ok (.iload 5, 2) := by decide +kernel
theorem dX5_turns_43 : decode cX5_turns 43 = .ok (.iload_n 1, 1) := by decide +kernel
theorem dX5_turns_44 : decode cX5_turns 44 = .ok (.if_icmp .ge 38, 3) := by decide +kernel
theorem dX5_turns_47 : decode cX5_turns 47 = .ok (.iload_n 2, 1) := by decide +kernel
theorem dX5_turns_48 : decode cX5_turns 48 = .ok (.aload_n 0, 1) := by decide +kernel
theorem dX5_turns_49 : decode cX5_turns 49 = .ok (.iload_n 3, 1) := by decide +kernel
theorem dX5_turns_50 : decode cX5_turns 50 = .ok (.iload 4, 2) := by decide +kernel
theorem dX5_turns_52 : decode cX5_turns 52 = .ok (.iload 5, 2) := by decide +kernel
theorem dX5_turns_54 : decode cX5_turns 54 = .ok (.invokevirtual 78, 3) := by decide +kernel
theorem dX5_turns_57 : decode cX5_turns 57 = .ok (.aload_n 0, 1) := by decide +kernel
theorem dX5_turns_58 : decode cX5_turns 58 = .ok (.iload 4, 2) := by decide +kernel
theorem dX5_turns_60 : decode cX5_turns 60 = .ok (.iload_n 3, 1) := by decide +kernel
theorem dX5_turns_61 : decode cX5_turns 61 = .ok (.iload 5, 2) := by decide +kernel
theorem dX5_turns_63 : decode cX5_turns 63 = .ok (.invokevirtual 78, 3) := by decide +kernel
theorem dX5_turns_66 : decode cX5_turns 66 = .ok (.if_icmp .ne 7, 3) := by decide +kernel
theorem dX5_turns_69 : decode cX5_turns 69 = .ok (.iconst 1, 1) := by decide +kernel
