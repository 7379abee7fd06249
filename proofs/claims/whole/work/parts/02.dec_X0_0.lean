-- decode rows (by program)
theorem dX0_init_0 : decode cX0_init 0 = .ok (.aload_n 0, 1) := by decide +kernel
theorem dX0_init_1 : decode cX0_init 1 = .ok (.invokespecial 3, 3) := by decide +kernel
theorem dX0_init_4 : decode cX0_init 4 = .ok (.aload_n 0, 1) := by decide +kernel
theorem dX0_init_5 : decode cX0_init 5 = .ok (.bipush 64, 2) := by decide +kernel
theorem dX0_init_7 : decode cX0_init 7 = .ok (.newarray .int, 2) := by decide +kernel
theorem dX0_init_9 : decode cX0_init 9 = .ok (.putfield 9, 3) := by decide +kernel
theorem dX0_init_12 : decode cX0_init 12 = .ok (.aload_n 0, 1) := by decide +kernel
theorem dX0_init_13 : decode cX0_init 13 = .ok (.iconst 5, 1) := by decide +kernel
theorem dX0_init_14 : decode cX0_init 14 = .ok (.newarray .int, 2) := by decide +kernel
theorem dX0_init_16 : decode cX0_init 16 = .ok (.putfield 15, 3) := by decide +kernel
theorem dX0_init_19 : decode cX0_init 19 = .ok (.aload_n 0, 1) := by decide +kernel
theorem dX0_init_20 : decode cX0_init 20 = .ok (.bipush 125, 2) := by decide +kernel
theorem dX0_init_22 : decode cX0_init 22 = .ok (.newarray .int, 2) := by decide +kernel
theorem dX0_init_24 : decode cX0_init 24 = .ok (.putfield 18, 3) := by decide +kernel
theorem dX0_init_27 : decode cX0_init 27 = .ok (.aload_n 0, 1) := by decide +kernel
theorem dX0_init_28 : decode cX0_init 28 = .ok (.bipush 25, 2) := by decide +kernel
theorem dX0_init_30 : decode cX0_init 30 = .ok (.newarray .int, 2) := by decide +kernel
theorem dX0_init_32 : decode cX0_init 32 = .ok (.putfield 21, 3) := by decide +kernel
theorem dX0_init_35 : decode cX0_init 35 = .ok (.aload_n 0, 1) := by decide +kernel
theorem dX0_init_36 : decode cX0_init 36 = .ok (.iconst 1, 1) := by decide +kernel
theorem dX0_init_37 : decode cX0_init 37 = .ok (.putfield 24, 3) := by decide +kernel
theorem dX0_init_40 : decode cX0_init 40 = .ok (.aload_n 0, 1) := by decide +kernel
theorem dX0_init_41 : decode cX0_init 41 = .ok (.iconst 1, 1) := by decide +kernel
theorem dX0_init_42 : decode cX0_init 42 = .ok (.putfield 28, 3) := by decide +kernel
theorem dX0_init_45 : decode cX0_init 45 = .ok (.aload_n 0, 1) := by decide +kernel
theorem dX0_init_46 : decode cX0_init 46 = .ok (.iconst 0, 1) := by decide +kernel
theorem dX0_init_47 : decode cX0_init 47 = .ok (.putfield 31, 3) := by decide +kernel
theorem dX0_init_50 : decode cX0_init 50 = .ok (.return_, 1) := by decide +kernel
theorem dX0_colourOf_0 : decode cX0_colourOf 0 = .ok (.aload_n 0, 1) := by decide +kernel
theorem dX0_colourOf_1 : decode cX0_colourOf 1 = .ok (.getfield 9, 3) := by decide +kernel
theorem dX0_colourOf_4 : decode cX0_colourOf 4 = .ok (.iload_n 1, 1) := by decide +kernel
theorem dX0_colourOf_5 : decode cX0_colourOf 5 = .ok (.bipush 8, 2) := by decide +kernel
theorem dX0_colourOf_7 : decode cX0_colourOf 7 = .ok (.imul, 1) := by decide +kernel
theorem dX0_colourOf_8 : decode cX0_colourOf 8 = .ok (.iload_n 2, 1) := by decide +kernel
theorem dX0_colourOf_9 : decode cX0_colourOf 9 = .ok (.iadd, 1) := by decide +kernel
theorem dX0_colourOf_10 : decode cX0_colourOf 10 = .ok (.iaload, 1) := by decide +kernel
theorem dX0_colourOf_11 : decode cX0_colourOf 11 = .ok (.ireturn, 1) := by decide +kernel
theorem dX0_paint_0 : decode cX0_paint 0 = .ok (.aload_n 0, 1) := by decide +kernel
theorem dX0_paint_1 : decode cX0_paint 1 = .ok (.getfield 9, 3) := by decide +kernel
theorem dX0_paint_4 : decode cX0_paint 4 = .ok (.iload_n 1, 1) := by decide +kernel
theorem dX0_paint_5 : decode cX0_paint 5 = .ok (.bipush 8, 2) := by decide +kernel
theorem dX0_paint_7 : decode cX0_paint 7 = .ok (.imul, 1) := by decide +kernel
theorem dX0_paint_8 : decode cX0_paint 8 = .ok (.iload_n 2, 1) := by decide +kernel
theorem dX0_paint_9 : decode cX0_paint 9 = .ok (.iadd, 1) := by decide +kernel
theorem dX0_paint_10 : decode cX0_paint 10 = .ok (.iload_n 3, 1) := by decide +kernel
theorem dX0_paint_11 : decode cX0_paint 11 = .ok (.iastore, 1) := by decide +kernel
theorem dX0_paint_12 : decode cX0_paint 12 = .ok (.return_, 1) := by decide +kernel
theorem dX0_begin_0 : decode cX0_begin 0 = .ok (.aload_n 0, 1) := by decide +kernel
theorem dX0_begin_1 : decode cX0_begin 1 = .ok (.iload_n 1, 1) := by decide +kernel
theorem dX0_begin_2 : decode cX0_begin 2 = .ok (.putfield 24, 3) := by decide +kernel
theorem dX0_begin_5 : decode cX0_begin 5 = .ok (.iconst 0, 1) := by decide +kernel
theorem dX0_begin_6 : decode cX0_begin 6 = .ok (.istore_n 2, 1) := by decide +kernel
theorem dX0_begin_7 : decode cX0_begin 7 = .ok (.iload_n 2, 1) := by decide +kernel
theorem dX0_begin_8 : decode cX0_begin 8 = .ok (.iload_n 1, 1) := by decide +kernel
theorem dX0_begin_9 : decode cX0_begin 9 = .ok (.if_icmp .ge 38, 3) := by decide +kernel
theorem dX0_begin_12 : decode cX0_begin 12 = .ok (.iconst 0, 1) := by decide +kernel
theorem dX0_begin_13 : decode cX0_begin 13 = .ok (.istore_n 3, 1) := by decide +kernel
theorem dX0_begin_14 : decode cX0_begin 14 = .ok (.iload_n 3, 1) := by decide +kernel
theorem dX0_begin_15 : decode cX0_begin 15 = .ok (.iload_n 1, 1) := by decide +kernel
theorem dX0_begin_16 : decode cX0_begin 16 = .ok (.if_icmp .ge 25, 3) := by decide +kernel
theorem dX0_begin_19 : decode cX0_begin 19 = .ok (.aload_n 0, 1) := by decide +kernel
theorem dX0_begin_20 : decode cX0_begin 20 = .ok (.iload_n 2, 1) := by decide +kernel
theorem dX0_begin_21 : decode cX0_begin 21 = .ok (.iload_n 3, 1) := by decide +kernel
theorem dX0_begin_22 : decode cX0_begin 22 = .ok (.iload_n 2, 1) := by decide +kernel
theorem dX0_begin_23 : decode cX0_begin 23 = .ok (.iload_n 3, 1) := by decide +kernel
theorem dX0_begin_24 : decode cX0_begin 24 = .ok (.if_icmp .ne 7, 3) := by decide +kernel
theorem dX0_begin_27 : decode cX0_begin 27 = .ok (.iconst 0, 1) := by decide +kernel
theorem dX0_begin_28 : decode cX0_begin 28 = .ok (.goto 4, 3) := by decide +kernel
theorem dX0_begin_31 : decode cX0_begin 31 = .ok (.iconst 1, 1) := by decide +kernel
theorem dX0_begin_32 : decode cX0_begin 32 = .ok (.invokevirtual 34, 3) := by decide +kernel
theorem dX0_begin_35 : decode cX0_begin 35 = .ok (.iinc 3 1, 3) := by decide +kernel
theorem dX0_begin_38 : decode cX0_begin 38 = .ok (.goto (-24), 3) := by decide +kernel
theorem dX0_begin_41 : decode cX0_begin 41 = .ok (.iinc 2 1, 3) := by decide +kernel
theorem dX0_begin_44 : decode cX0_begin 44 = .ok (.goto (-37), 3) := by decide +kernel
theorem dX0_begin_47 : decode cX0_begin 47 = .ok (.aload_n 0, 1) := by decide +kernel
theorem dX0_begin_48 : decode cX0_begin 48 = .ok (.invokevirtual 38, 3) := by decide +kernel
theorem dX0_begin_51 : decode cX0_begin 51 = .ok (.return_, 1) := by decide +kernel
theorem dX0_paintRing_0 : decode cX0_paintRing 0 = .ok (.iload_n 1, 1) := by decide +kernel
theorem dX0_paintRing_1 : decode cX0_paintRing 1 = .ok (.istore_n 2, 1) := by decide +kernel
theorem dX0_paintRing_2 : decode cX0_paintRing 2 = .ok (.iconst 0, 1) := by decide +kernel
theorem dX0_paintRing_3 : decode cX0_paintRing 3 = .ok (.istore_n 3, 1) := by decide +kernel
theorem dX0_paintRing_4 : decode cX0_paintRing 4 = .ok (.iload_n 3, 1) := by decide +kernel
theorem dX0_paintRing_5 : decode cX0_paintRing 5 = .ok (.aload_n 0, 1) := by decide +kernel
theorem dX0_paintRing_6 : decode cX0_paintRing 6 = .ok (.getfield 24, 3) := by decide +kernel
theorem dX0_paintRing_9 : decode cX0_paintRing 9 = .ok (.if_icmp .ge 16, 3) := by decide +kernel
theorem dX0_paintRing_12 : decode cX0_paintRing 12 = .ok (.aload_n 0, 1) := by decide +kernel
theorem dX0_paintRing_13 : decode cX0_paintRing 13 = .ok (.iload_n 3, 1) := by decide +kernel
theorem dX0_paintRing_14 : decode cX0_paintRing 14 = .ok (.iload_n 3, 1) := by decide +kernel
theorem dX0_paintRing_15 : decode cX0_paintRing 15 = .ok (.iconst 0, 1) := by decide +kernel
theorem dX0_paintRing_16 : decode cX0_paintRing 16 = .ok (.invokevirtual 34, 3) := by decide +kernel
theorem dX0_paintRing_19 : decode cX0_paintRing 19 = .ok (.iinc 3 1, 3) := by decide +kernel
theorem dX0_paintRing_22 : decode cX0_paintRing 22 = .ok (.goto (-18), 3) := by decide +kernel
theorem dX0_paintRing_25 : decode cX0_paintRing 25 = .ok (.iconst 1, 1) := by decide +kernel
theorem dX0_paintRing_26 : decode cX0_paintRing 26 = .ok (.istore_n 3, 1) := by decide +kernel
theorem dX0_paintRing_27 : decode cX0_paintRing 27 = .ok (.iload_n 3, 1) := by decide +kernel
theorem dX0_paintRing_28 : decode cX0_paintRing 28 = .ok (.aload_n 0, 1) := by decide +kernel
theorem dX0_paintRing_29 : decode cX0_paintRing 29 = .ok (.getfield 24, 3) := by decide +kernel
theorem dX0_paintRing_32 : decode cX0_paintRing 32 = .ok (.if_icmp .ge 71, 3) := by decide +kernel
theorem dX0_paintRing_35 : decode cX0_paintRing 35 = .ok (.iload_n 2, 1) := by decide +kernel
theorem dX0_paintRing_36 : decode cX0_paintRing 36 = .ok (.iconst 5, 1) := by decide +kernel
theorem dX0_paintRing_37 : decode cX0_paintRing 37 = .ok (.irem, 1) := by decide +kernel
theorem dX0_paintRing_38 : decode cX0_paintRing 38 = .ok (.istore 4, 2) := by decide +kernel
theorem dX0_paintRing_40 : decode cX0_paintRing 40 = .ok (.iload_n 2, 1) := by decide +kernel
theorem dX0_paintRing_41 : decode cX0_paintRing 41 = .ok (.iconst 5, 1) := by decide +kernel
theorem dX0_paintRing_42 : decode cX0_paintRing 42 = .ok (.idiv, 1) := by decide +kernel
theorem dX0_paintRing_43 : decode cX0_paintRing 43 = .ok (.istore_n 2, 1) := by decide +kernel
theorem dX0_paintRing_44 : decode cX0_paintRing 44 = .ok (.iconst 0, 1) := by decide +kernel
theorem dX0_paintRing_45 : decode cX0_paintRing 45 = .ok (.istore 5, 2) := by decide +kernel
theorem dX0_paintRing_47 : decode cX0_paintRing 47 = .ok (.iload 5, 2) := by decide +kernel
theorem dX0_paintRing_49 : decode cX0_paintRing 49 = .ok (.aload_n 0, 1) := by decide +kernel
theorem dX0_paintRing_50 : decode cX0_paintRing 50 = .ok (.getfield 24, 3) := by decide +kernel
theorem dX0_paintRing_53 : decode cX0_paintRing 53 = .ok (.if_icmp .ge 44, 3) := by decide +kernel
theorem dX0_paintRing_56 : decode cX0_paintRing 56 = .ok (.iload 5, 2) := by decide +kernel
theorem dX0_paintRing_58 : decode cX0_paintRing 58 = .ok (.iload_n 3, 1) := by decide +kernel
theorem dX0_paintRing_59 : decode cX0_paintRing 59 = .ok (.iadd, 1) := by decide +kernel
theorem dX0_paintRing_60 : decode cX0_paintRing 60 = .ok (.istore 6, 2) := by decide +kernel
theorem dX0_paintRing_62 : decode cX0_paintRing 62 = .ok (.aload_n 0, 1) := by decide +kernel
theorem dX0_paintRing_63 : decode cX0_paintRing 63 = .ok (.iload 5, 2) := by decide +kernel
theorem dX0_paintRing_65 : decode cX0_paintRing 65 = .ok (.iload 6, 2) := by decide +kernel
theorem dX0_paintRing_67 : decode cX0_paintRing 67 = .ok (.aload_n 0, 1) := by decide +kernel
theorem dX0_paintRing_68 : decode cX0_paintRing 68 = .ok (.getfield 24, 3) := by decide +kernel
theorem dX0_paintRing_71 : decode cX0_paintRing 71 = .ok (.if_icmp .ge 8, 3) := by decide +kernel
theorem dX0_paintRing_74 : decode cX0_paintRing 74 = .ok (.iload 6, 2) := by decide +kernel
theorem dX0_paintRing_76 : decode cX0_paintRing 76 = .ok (.goto 10, 3) := by decide +kernel
theorem dX0_paintRing_79 : decode cX0_paintRing 79 = .ok (.iload 6, 2) := by decide +kernel
theorem dX0_paintRing_81 : decode cX0_paintRing 81 = .ok (.aload_n 0, 1) := by decide +kernel
theorem dX0_paintRing_82 : decode cX0_paintRing 82 = .ok (.getfield 24, 3) := by decide +kernel
theorem dX0_paintRing_85 : decode cX0_paintRing 85 = .ok (.isub, 1) := by decide +kernel
theorem dX0_paintRing_86 : decode cX0_paintRing 86 = .ok (.iload 4, 2) := by decide +kernel
theorem dX0_paintRing_88 : decode cX0_paintRing 88 = .ok (.invokevirtual 34, 3) := by decide +kernel
theorem dX0_paintRing_91 : decode cX0_paintRing 91 = .ok (.iinc 5 1, 3) := by decide +kernel
theorem dX0_paintRing_94 : decode cX0_paintRing 94 = .ok (.goto (-47), 3) := by decide +kernel
theorem dX0_paintRing_97 : decode cX0_paintRing 97 = .ok (.iinc 3 1, 3) := by decide +kernel
theorem dX0_paintRing_100 : decode cX0_paintRing 100 = .ok (.goto (-73), 3) := by decide +kernel
theorem dX0_paintRing_103 : decode cX0_paintRing 103 = .ok (.aload_n 0, 1) := by decide +kernel
theorem dX0_paintRing_104 : decode cX0_paintRing 104 = .ok (.invokevirtual 38, 3) := by decide +kernel
theorem dX0_paintRing_107 : decode cX0_paintRing 107 = .ok (.return_, 1) := by decide +kernel
theorem dX0_paintFused_0 : decode cX0_paintFused 0 = .ok (.aload_n 0, 1) := by decide +kernel
theorem dX0_paintFused_1 : decode cX0_paintFused 1 = .ok (.aload_n 1, 1) := by decide +kernel
theorem dX0_paintFused_2 : decode cX0_paintFused 2 = .ok (.getfield 24, 3) := by decide +kernel
theorem dX0_paintFused_5 : decode cX0_paintFused 5 = .ok (.putfield 24, 3) := by decide +kernel
theorem dX0_paintFused_8 : decode cX0_paintFused 8 = .ok (.iconst 0, 1) := by decide +kernel
theorem dX0_paintFused_9 : decode cX0_paintFused 9 = .ok (.istore_n 3, 1) := by decide +kernel
theorem dX0_paintFused_10 : decode cX0_paintFused 10 = .ok (.iload_n 3, 1) := by decide +kernel
theorem dX0_paintFused_11 : decode cX0_paintFused 11 = .ok (.aload_n 0, 1) := by decide +kernel
theorem dX0_paintFused_12 : decode cX0_paintFused 12 = .ok (.getfield 24, 3) := by decide +kernel
theorem dX0_paintFused_15 : decode cX0_paintFused 15 = .ok (.if_icmp .ge 45, 3) := by decide +kernel
theorem dX0_paintFused_18 : decode cX0_paintFused 18 = .ok (.iconst 0, 1) := by decide +kernel
theorem dX0_paintFused_19 : decode cX0_paintFused 19 = .ok (.istore 4, 2) := by decide +kernel
theorem dX0_paintFused_21 : decode cX0_paintFused 21 = .ok (.iload 4, 2) := by decide +kernel
theorem dX0_paintFused_23 : decode cX0_paintFused 23 = .ok (.aload_n 0, 1) := by decide +kernel
theorem dX0_paintFused_24 : decode cX0_paintFused 24 = .ok (.getfield 24, 3) := by decide +kernel
theorem dX0_paintFused_27 : decode cX0_paintFused 27 = .ok (.if_icmp .ge 27, 3) := by decide +kernel
theorem dX0_paintFused_30 : decode cX0_paintFused 30 = .ok (.aload_n 0, 1) := by decide +kernel
theorem dX0_paintFused_31 : decode cX0_paintFused 31 = .ok (.iload_n 3, 1) := by decide +kernel
theorem dX0_paintFused_32 : decode cX0_paintFused 32 = .ok (.iload 4, 2) := by decide +kernel
theorem dX0_paintFused_34 : decode cX0_paintFused 34 = .ok (.iload_n 2, 1) := by decide +kernel
theorem dX0_paintFused_35 : decode cX0_paintFused 35 = .ok (.aload_n 1, 1) := by decide +kernel
theorem dX0_paintFused_36 : decode cX0_paintFused 36 = .ok (.iload_n 3, 1) := by decide +kernel
theorem dX0_paintFused_37 : decode cX0_paintFused 37 = .ok (.iload 4, 2) := by decide +kernel
theorem dX0_paintFused_39 : decode cX0_paintFused 39 = .ok (.invokevirtual 41, 3) := by decide +kernel
theorem dX0_paintFused_42 : decode cX0_paintFused 42 = .ok (.invokestatic 45, 3) := by decide +kernel
theorem dX0_paintFused_45 : decode cX0_paintFused 45 = .ok (.invokevirtual 34, 3) := by decide +kernel
theorem dX0_paintFused_48 : decode cX0_paintFused 48 = .ok (.iinc 4 1, 3) := by decide +kernel
theorem dX0_paintFused_51 : decode cX0_paintFused 51 = .ok (.goto (-30), 3) := by decide +kernel
theorem dX0_paintFused_54 : decode cX0_paintFused 54 = .ok (.iinc 3 1, 3) := by decide +kernel
theorem dX0_paintFused_57 : decode cX0_paintFused 57 = .ok (.goto (-47), 3) := by decide +kernel
theorem dX0_paintFused_60 : decode cX0_paintFused 60 = .ok (.aload_n 0, 1) := by decide +kernel
theorem dX0_paintFused_61 : decode cX0_paintFused 61 = .ok (.invokevirtual 38, 3) := by decide +kernel
theorem dX0_paintFused_64 : decode cX0_paintFused 64 = .ok (.return_, 1) := by decide +kernel
theorem dX0_fusedColour_0 : decode cX0_fusedColour 0 = .ok (.iload_n 1, 1) := by decide +kernel
theorem dX0_fusedColour_1 : decode cX0_fusedColour 1 = .ok (.ifCond .ne 5, 3) := by decide +kernel
theorem dX0_fusedColour_4 : decode cX0_fusedColour 4 = .ok (.iconst 0, 1) := by decide +kernel
theorem dX0_fusedColour_5 : decode cX0_fusedColour 5 = .ok (.ireturn, 1) := by decide +kernel
theorem dX0_fusedColour_6 : decode cX0_fusedColour 6 = .ok (.iload_n 0, 1) := by decide +kernel
theorem dX0_fusedColour_7 : decode cX0_fusedColour 7 = .ok (.istore_n 2, 1) := by decide +kernel
theorem dX0_fusedColour_8 : decode cX0_fusedColour 8 = .ok (.iconst 1, 1) := by decide +kernel
theorem dX0_fusedColour_9 : decode cX0_fusedColour 9 = .ok (.istore_n 3, 1) := by decide +kernel
theorem dX0_fusedColour_10 : decode cX0_fusedColour 10 = .ok (.iload_n 3, 1) := by decide +kernel
theorem dX0_fusedColour_11 : decode cX0_fusedColour 11 = .ok (.iload_n 1, 1) := by decide +kernel
theorem dX0_fusedColour_12 : decode cX0_fusedColour 12 = .ok (.if_icmp .ge 13, 3) := by decide +kernel
theorem dX0_fusedColour_15 : decode cX0_fusedColour 15 = .ok (.iload_n 2, 1) := by decide +kernel
theorem dX0_fusedColour_16 : decode cX0_fusedColour 16 = .ok (.iconst 5, 1) := by decide +kernel
theorem dX0_fusedColour_17 : decode cX0_fusedColour 17 = .ok (.idiv, 1) := by decide +kernel
theorem dX0_fusedColour_18 : decode cX0_fusedColour 18 = .ok (.istore_n 2, 1) := by decide +kernel
theorem dX0_fusedColour_19 : decode cX0_fusedColour 19 = .ok (.iinc 3 1, 3) := by decide +kernel
theorem dX0_fusedColour_22 : decode cX0_fusedColour 22 = .ok (.goto (-12), 3) := by decide +kernel
theorem dX0_fusedColour_25 : decode cX0_fusedColour 25 = .ok (.iload_n 2, 1) := by decide +kernel
theorem dX0_fusedColour_26 : decode cX0_fusedColour 26 = .ok (.iconst 5, 1) := by decide +kernel
theorem dX0_fusedColour_27 : decode cX0_fusedColour 27 = .ok (.irem, 1) := by decide +kernel
theorem dX0_fusedColour_28 : decode cX0_fusedColour 28 = .ok (.ireturn, 1) := by decide +kernel
theorem dX0_measure_0 : decode cX0_measure 0 = .ok (.aload_n 0, 1) := by decide +kernel
theorem dX0_measure_1 : decode cX0_measure 1 = .ok (.invokevirtual 48, 3) := by decide +kernel
theorem dX0_measure_4 : decode cX0_measure 4 = .ok (.aload_n 0, 1) := by decide +kernel
theorem dX0_measure_5 : decode cX0_measure 5 = .ok (.aload_n 0, 1) := by decide +kernel
theorem dX0_measure_6 : decode cX0_measure 6 = .ok (.invokevirtual 51, 3) := by decide +kernel
theorem dX0_measure_9 : decode cX0_measure 9 = .ok (.putfield 31, 3) := by decide +kernel
theorem dX0_measure_12 : decode cX0_measure 12 = .ok (.return_, 1) := by decide +kernel
theorem dX0_findFirsts_0 : decode cX0_findFirsts 0 = .ok (.iconst 0, 1) := by decide +kernel
theorem dX0_findFirsts_1 : decode cX0_findFirsts 1 = .ok (.istore_n 1, 1) := by decide +kernel
theorem dX0_findFirsts_2 : decode cX0_findFirsts 2 = .ok (.iload_n 1, 1) := by decide +kernel
theorem dX0_findFirsts_3 : decode cX0_findFirsts 3 = .ok (.iconst 5, 1) := by decide +kernel
theorem dX0_findFirsts_4 : decode cX0_findFirsts 4 = .ok (.if_icmp .ge 16, 3) := by decide +kernel
theorem dX0_findFirsts_7 : decode cX0_findFirsts 7 = .ok (.aload_n 0, 1) := by decide +kernel
theorem dX0_findFirsts_8 : decode cX0_findFirsts 8 = .ok (.getfield 15, 3) := by decide +kernel
theorem dX0_findFirsts_11 : decode cX0_findFirsts 11 = .ok (.iload_n 1, 1) := by decide +kernel
theorem dX0_findFirsts_12 : decode cX0_findFirsts 12 = .ok (.iconst (-1), 1) := by decide +kernel
theorem dX0_findFirsts_13 : decode cX0_findFirsts 13 = .ok (.iastore, 1) := by decide +kernel
theorem dX0_findFirsts_14 : decode cX0_findFirsts 14 = .ok (.iinc 1 1, 3) := by decide +kernel
theorem dX0_findFirsts_17 : decode cX0_findFirsts 17 = .ok (.goto (-15), 3) := by decide +kernel
theorem dX0_findFirsts_20 : decode cX0_findFirsts 20 = .ok (.aload_n 0, 1) := by decide +kernel
theorem dX0_findFirsts_21 : decode cX0_findFirsts 21 = .ok (.iconst 1, 1) := by decide +kernel
theorem dX0_findFirsts_22 : decode cX0_findFirsts 22 = .ok (.putfield 28, 3) := by decide +kernel
theorem dX0_findFirsts_25 : decode cX0_findFirsts 25 = .ok (.iconst 0, 1) := by decide +kernel
theorem dX0_findFirsts_26 : decode cX0_findFirsts 26 = .ok (.istore_n 1, 1) := by decide +kernel
theorem dX0_findFirsts_27 : decode cX0_findFirsts 27 = .ok (.iload_n 1, 1) := by decide +kernel
theorem dX0_findFirsts_28 : decode cX0_findFirsts 28 = .ok (.aload_n 0, 1) := by decide +kernel
theorem dX0_findFirsts_29 : decode cX0_findFirsts 29 = .ok (.getfield 24, 3) := by decide +kernel
theorem dX0_findFirsts_32 : decode cX0_findFirsts 32 = .ok (.if_icmp .ge 68, 3) := by decide +kernel
theorem dX0_findFirsts_35 : decode cX0_findFirsts 35 = .ok (.iconst 0, 1) := by decide +kernel
theorem dX0_findFirsts_36 : decode cX0_findFirsts 36 = .ok (.istore_n 2, 1) := by decide +kernel
theorem dX0_findFirsts_37 : decode cX0_findFirsts 37 = .ok (.iload_n 2, 1) := by decide +kernel
theorem dX0_findFirsts_38 : decode cX0_findFirsts 38 = .ok (.aload_n 0, 1) := by decide +kernel
theorem dX0_findFirsts_39 : decode cX0_findFirsts 39 = .ok (.getfield 24, 3) := by decide +kernel
theorem dX0_findFirsts_42 : decode cX0_findFirsts 42 = .ok (.if_icmp .ge 52, 3) := by decide +kernel
theorem dX0_findFirsts_45 : decode cX0_findFirsts 45 = .ok (.aload_n 0, 1) := by decide +kernel
theorem dX0_findFirsts_46 : decode cX0_findFirsts 46 = .ok (.iload_n 1, 1) := by decide +kernel
theorem dX0_findFirsts_47 : decode cX0_findFirsts 47 = .ok (.iload_n 2, 1) := by decide +kernel
theorem dX0_findFirsts_48 : decode cX0_findFirsts 48 = .ok (.invokevirtual 41, 3) := by decide +kernel
theorem dX0_findFirsts_51 : decode cX0_findFirsts 51 = .ok (.istore_n 3, 1) := by decide +kernel
theorem dX0_findFirsts_52 : decode cX0_findFirsts 52 = .ok (.aload_n 0, 1) := by decide +kernel
theorem dX0_findFirsts_53 : decode cX0_findFirsts 53 = .ok (.getfield 15, 3) := by decide +kernel
theorem dX0_findFirsts_56 : decode cX0_findFirsts 56 = .ok (.iload_n 3, 1) := by decide +kernel
theorem dX0_findFirsts_57 : decode cX0_findFirsts 57 = .ok (.iaload, 1) := by decide +kernel
theorem dX0_findFirsts_58 : decode cX0_findFirsts 58 = .ok (.iconst (-1), 1) := by decide +kernel
theorem dX0_findFirsts_59 : decode cX0_findFirsts 59 = .ok (.if_icmp .ne 15, 3) := by decide +kernel
theorem dX0_findFirsts_62 : decode cX0_findFirsts 62 = .ok (.aload_n 0, 1) := by decide +kernel
theorem dX0_findFirsts_63 : decode cX0_findFirsts 63 = .ok (.getfield 15, 3) := by decide +kernel
theorem dX0_findFirsts_66 : decode cX0_findFirsts 66 = .ok (.iload_n 3, 1) := by decide +kernel
theorem dX0_findFirsts_67 : decode cX0_findFirsts 67 = .ok (.iload_n 1, 1) := by decide +kernel
theorem dX0_findFirsts_68 : decode cX0_findFirsts 68 = .ok (.bipush 8, 2) := by decide +kernel
theorem dX0_findFirsts_70 : decode cX0_findFirsts 70 = .ok (.imul, 1) := by decide +kernel
theorem dX0_findFirsts_71 : decode cX0_findFirsts 71 = .ok (.iload_n 2, 1) := by decide +kernel
theorem dX0_findFirsts_72 : decode cX0_findFirsts 72 = .ok (.iadd, 1) := by decide +kernel
theorem dX0_findFirsts_73 : decode cX0_findFirsts 73 = .ok (.iastore, 1) := by decide +kernel
theorem dX0_findFirsts_74 : decode cX0_findFirsts 74 = .ok (.aload_n 0, 1) := by decide +kernel
theorem dX0_findFirsts_75 : decode cX0_findFirsts 75 = .ok (.aload_n 0, 1) := by decide +kernel
theorem dX0_findFirsts_76 : decode cX0_findFirsts 76 = .ok (.getfield 28, 3) := by decide +kernel
theorem dX0_findFirsts_79 : decode cX0_findFirsts 79 = .ok (.iload_n 3, 1) := by decide +kernel
theorem dX0_findFirsts_80 : decode cX0_findFirsts 80 = .ok (.iconst 1, 1) := by decide +kernel
theorem dX0_findFirsts_81 : decode cX0_findFirsts 81 = .ok (.iadd, 1) := by decide +kernel
theorem dX0_findFirsts_82 : decode cX0_findFirsts 82 = .ok (.invokestatic 55, 3) := by decide +kernel
theorem dX0_findFirsts_85 : decode cX0_findFirsts 85 = .ok (.putfield 28, 3) := by decide +kernel
theorem dX0_findFirsts_88 : decode cX0_findFirsts 88 = .ok (.iinc 2 1, 3) := by decide +kernel
theorem dX0_findFirsts_91 : decode cX0_findFirsts 91 = .ok (.goto (-54), 3) := by decide +kernel
theorem dX0_findFirsts_94 : decode cX0_findFirsts 94 = .ok (.iinc 1 1, 3) := by decide +kernel
theorem dX0_findFirsts_97 : decode cX0_findFirsts 97 = .ok (.goto (-70), 3) := by decide +kernel
theorem dX0_findFirsts_100 : decode cX0_findFirsts 100 = .ok (.return_, 1) := by decide +kernel
theorem dX0_firstFailure_0 : decode cX0_firstFailure 0 = .ok (.aload_n 0, 1) := by decide +kernel
theorem dX0_firstFailure_1 : decode cX0_firstFailure 1 = .ok (.invokevirtual 60, 3) := by decide +kernel
theorem dX0_firstFailure_4 : decode cX0_firstFailure 4 = .ok (.istore_n 1, 1) := by decide +kernel
theorem dX0_firstFailure_5 : decode cX0_firstFailure 5 = .ok (.iload_n 1, 1) := by decide +kernel
theorem dX0_firstFailure_6 : decode cX0_firstFailure 6 = .ok (.ifCond .ne 8, 3) := by decide +kernel
theorem dX0_firstFailure_9 : decode cX0_firstFailure 9 = .ok (.aload_n 0, 1) := by decide +kernel
theorem dX0_firstFailure_10 : decode cX0_firstFailure 10 = .ok (.invokevirtual 63, 3) := by decide +kernel
theorem dX0_firstFailure_13 : decode cX0_firstFailure 13 = .ok (.istore_n 1, 1) := by decide +kernel
theorem dX0_firstFailure_14 : decode cX0_firstFailure 14 = .ok (.iload_n 1, 1) := by decide +kernel
theorem dX0_firstFailure_15 : decode cX0_firstFailure 15 = .ok (.ifCond .ne 8, 3) := by decide +kernel
theorem dX0_firstFailure_18 : decode cX0_firstFailure 18 = .ok (.aload_n 0, 1) := by decide +kernel
theorem dX0_firstFailure_19 : decode cX0_firstFailure 19 = .ok (.invokevirtual 66, 3) := by decide +kernel
theorem dX0_firstFailure_22 : decode cX0_firstFailure 22 = .ok (.istore_n 1, 1) := by decide +kernel
theorem dX0_firstFailure_23 : decode cX0_firstFailure 23 = .ok (.iload_n 1, 1) := by decide +kernel
theorem dX0_firstFailure_24 : decode cX0_firstFailure 24 = .ok (.ifCond .ne 8, 3) := by decide +kernel
theorem dX0_firstFailure_27 : decode cX0_firstFailure 27 = .ok (.aload_n 0, 1) := by decide +kernel
theorem dX0_firstFailure_28 : decode cX0_firstFailure 28 = .ok (.invokevirtual 69, 3) := by decide +kernel
theorem dX0_firstFailure_31 : decode cX0_firstFailure 31 = .ok (.istore_n 1, 1) := by decide +kernel
theorem dX0_firstFailure_32 : decode cX0_firstFailure 32 = .ok (.iload_n 1, 1) := by decide +kernel
theorem dX0_firstFailure_33 : decode cX0_firstFailure 33 = .ok (.ireturn, 1) := by decide +kernel
theorem dX0_failureAt_0 : decode cX0_failureAt 0 = .ok (.bipush 100, 2) := by decide +kernel
theorem dX0_failureAt_2 : decode cX0_failureAt 2 = .ok (.iload_n 0, 1) := by decide +kernel
theorem dX0_failureAt_3 : decode cX0_failureAt 3 = .ok (.imul, 1) := by decide +kernel
theorem dX0_failureAt_4 : decode cX0_failureAt 4 = .ok (.bipush 10, 2) := by decide +kernel
theorem dX0_failureAt_6 : decode cX0_failureAt 6 = .ok (.iload_n 1, 1) := by decide +kernel
theorem dX0_failureAt_7 : decode cX0_failureAt 7 = .ok (.imul, 1) := by decide +kernel
theorem dX0_failureAt_8 : decode cX0_failureAt 8 = .ok (.iadd, 1) := by decide +kernel
theorem dX0_failureAt_9 : decode cX0_failureAt 9 = .ok (.iload_n 2, 1) := by decide +kernel
theorem dX0_failureAt_10 : decode cX0_failureAt 10 = .ok (.iadd, 1) := by decide +kernel
theorem dX0_failureAt_11 : decode cX0_failureAt 11 = .ok (.ireturn, 1) := by decide +kernel
theorem dX0_misplacedZero_0 : decode cX0_misplacedZero 0 = .ok (.iconst 0, 1) := by decide +kernel
theorem dX0_misplacedZero_1 : decode cX0_misplacedZero 1 = .ok (.istore_n 1, 1) := by decide +kernel
theorem dX0_misplacedZero_2 : decode cX0_misplacedZero 2 = .ok (.iload_n 1, 1) := by decide +kernel
theorem dX0_misplacedZero_3 : decode cX0_misplacedZero 3 = .ok (.aload_n 0, 1) := by decide +kernel
theorem dX0_misplacedZero_4 : decode cX0_misplacedZero 4 = .ok (.getfield 24, 3) := by decide +kernel
theorem dX0_misplacedZero_7 : decode cX0_misplacedZero 7 = .ok (.if_icmp .ge 59, 3) := by decide +kernel
theorem dX0_misplacedZero_10 : decode cX0_misplacedZero 10 = .ok (.iconst 0, 1) := by decide +kernel
theorem dX0_misplacedZero_11 : decode cX0_misplacedZero 11 = .ok (.istore_n 2, 1) := by decide +kernel
theorem dX0_misplacedZero_12 : decode cX0_misplacedZero 12 = .ok (.iload_n 2, 1) := by decide +kernel
theorem dX0_misplacedZero_13 : decode cX0_misplacedZero 13 = .ok (.aload_n 0, 1) := by decide +kernel
theorem dX0_misplacedZero_14 : decode cX0_misplacedZero 14 = .ok (.getfield 24, 3) := by decide +kernel
theorem dX0_misplacedZero_17 : decode cX0_misplacedZero 17 = .ok (.if_icmp .ge 43, 3) := by decide +kernel
theorem dX0_misplacedZero_20 : decode cX0_misplacedZero 20 = .ok (.aload_n 0, 1) := by decide +kernel
theorem dX0_misplacedZero_21 : decode cX0_misplacedZero 21 = .ok (.iload_n 1, 1) := by decide +kernel
theorem dX0_misplacedZero_22 : decode cX0_misplacedZero 22 = .ok (.iload_n 2, 1) := by decide +kernel
theorem dX0_misplacedZero_23 : decode cX0_misplacedZero 23 = .ok (.invokevirtual 41, 3) := by decide +kernel
theorem dX0_misplacedZero_26 : decode cX0_misplacedZero 26 = .ok (.ifCond .ne 7, 3) := by decide +kernel
theorem dX0_misplacedZero_29 : decode cX0_misplacedZero 29 = .ok (.iconst 1, 1) := by decide +kernel
theorem dX0_misplacedZero_30 : decode cX0_misplacedZero 30 = .ok (.goto 4, 3) := by decide +kernel
theorem dX0_misplacedZero_33 : decode cX0_misplacedZero 33 = .ok (.iconst 0, 1) := by decide +kernel
theorem dX0_misplacedZero_34 : decode cX0_misplacedZero 34 = .ok (.iload_n 1, 1) := by decide +kernel
theorem dX0_misplacedZero_35 : decode cX0_misplacedZero 35 = .ok (.iload_n 2, 1) := by decide +kernel
theorem dX0_misplacedZero_36 : decode cX0_misplacedZero 36 = .ok (.if_icmp .ne 7, 3) := by decide +kernel
theorem dX0_misplacedZero_39 : decode cX0_misplacedZero 39 = .ok (.iconst 1, 1) := by decide +kernel
theorem dX0_misplacedZero_40 : decode cX0_misplacedZero 40 = .ok (.goto 4, 3) := by decide +kernel
theorem dX0_misplacedZero_43 : decode cX0_misplacedZero 43 = .ok (.iconst 0, 1) := by decide +kernel
theorem dX0_misplacedZero_44 : decode cX0_misplacedZero 44 = .ok (.if_icmp .eq 10, 3) := by decide +kernel
theorem dX0_misplacedZero_47 : decode cX0_misplacedZero 47 = .ok (.iconst 1, 1) := by decide +kernel
theorem dX0_misplacedZero_48 : decode cX0_misplacedZero 48 = .ok (.iload_n 1, 1) := by decide +kernel
theorem dX0_misplacedZero_49 : decode cX0_misplacedZero 49 = .ok (.iload_n 2, 1) := by decide +kernel
theorem dX0_misplacedZero_50 : decode cX0_misplacedZero 50 = .ok (.invokestatic 72, 3) := by decide +kernel
theorem dX0_misplacedZero_53 : decode cX0_misplacedZero 53 = .ok (.ireturn, 1) := by decide +kernel
theorem dX0_misplacedZero_54 : decode cX0_misplacedZero 54 = .ok (.iinc 2 1, 3) := by decide +kernel
theorem dX0_misplacedZero_57 : decode cX0_misplacedZero 57 = .ok (.goto (-45), 3) := by decide +kernel
theorem dX0_misplacedZero_60 : decode cX0_misplacedZero 60 = .ok (.iinc 1 1, 3) := by decide +kernel
theorem dX0_misplacedZero_63 : decode cX0_misplacedZero 63 = .ok (.goto (-61), 3) := by decide +kernel
theorem dX0_misplacedZero_66 : decode cX0_misplacedZero 66 = .ok (.iconst 0, 1) := by decide +kernel
theorem dX0_misplacedZero_67 : decode cX0_misplacedZero 67 = .ok (.ireturn, 1) := by decide +kernel
theorem dX0_missingColour_0 : decode cX0_missingColour 0 = .ok (.iconst 0, 1) := by decide +kernel
theorem dX0_missingColour_1 : decode cX0_missingColour 1 = .ok (.istore_n 1, 1) := by decide +kernel
theorem dX0_missingColour_2 : decode cX0_missingColour 2 = .ok (.iload_n 1, 1) := by decide +kernel
theorem dX0_missingColour_3 : decode cX0_missingColour 3 = .ok (.aload_n 0, 1) := by decide +kernel
theorem dX0_missingColour_4 : decode cX0_missingColour 4 = .ok (.getfield 28, 3) := by decide +kernel
theorem dX0_missingColour_7 : decode cX0_missingColour 7 = .ok (.if_icmp .ge 26, 3) := by decide +kernel
theorem dX0_missingColour_10 : decode cX0_missingColour 10 = .ok (.aload_n 0, 1) := by decide +kernel
theorem dX0_missingColour_11 : decode cX0_missingColour 11 = .ok (.getfield 15, 3) := by decide +kernel
theorem dX0_missingColour_14 : decode cX0_missingColour 14 = .ok (.iload_n 1, 1) := by decide +kernel
theorem dX0_missingColour_15 : decode cX0_missingColour 15 = .ok (.iaload, 1) := by decide +kernel
theorem dX0_missingColour_16 : decode cX0_missingColour 16 = .ok (.iconst (-1), 1) := by decide +kernel
theorem dX0_missingColour_17 : decode cX0_missingColour 17 = .ok (.if_icmp .ne 10, 3) := by decide +kernel
theorem dX0_missingColour_20 : decode cX0_missingColour 20 = .ok (.iconst 2, 1) := by decide +kernel
theorem dX0_missingColour_21 : decode cX0_missingColour 21 = .ok (.iconst 0, 1) := by decide +kernel
theorem dX0_missingColour_22 : decode cX0_missingColour 22 = .ok (.iconst 0, 1) := by decide +kernel
theorem dX0_missingColour_23 : decode cX0_missingColour 23 = .ok (.invokestatic 72, 3) := by decide +kernel
theorem dX0_missingColour_26 : decode cX0_missingColour 26 = .ok (.ireturn, 1) := by decide +kernel
theorem dX0_missingColour_27 : decode cX0_missingColour 27 = .ok (.iinc 1 1, 3) := by decide +kernel
theorem dX0_missingColour_30 : decode cX0_missingColour 30 = .ok (.goto (-28), 3) := by decide +kernel
theorem dX0_missingColour_33 : decode cX0_missingColour 33 = .ok (.iconst 0, 1) := by decide +kernel
theorem dX0_missingColour_34 : decode cX0_missingColour 34 = .ok (.ireturn, 1) := by decide +kernel
theorem dX0_wrongReversal_0 : decode cX0_wrongReversal 0 = .ok (.iconst 0, 1) := by decide +kernel
theorem dX0_wrongReversal_1 : decode cX0_wrongReversal 1 = .ok (.istore_n 1, 1) := by decide +kernel
theorem dX0_wrongReversal_2 : decode cX0_wrongReversal 2 = .ok (.iload_n 1, 1) := by decide +kernel
theorem dX0_wrongReversal_3 : decode cX0_wrongReversal 3 = .ok (.aload_n 0, 1) := by decide +kernel
theorem dX0_wrongReversal_4 : decode cX0_wrongReversal 4 = .ok (.getfield 24, 3) := by decide +kernel
theorem dX0_wrongReversal_7 : decode cX0_wrongReversal 7 = .ok (.if_icmp .ge 51, 3) := by decide +kernel
theorem dX0_wrongReversal_10 : decode cX0_wrongReversal 10 = .ok (.iconst 0, 1) := by decide +kernel
theorem dX0_wrongReversal_11 : decode cX0_wrongReversal 11 = .ok (.istore_n 2, 1) := by decide +kernel
theorem dX0_wrongReversal_12 : decode cX0_wrongReversal 12 = .ok (.iload_n 2, 1) := by decide +kernel
theorem dX0_wrongReversal_13 : decode cX0_wrongReversal 13 = .ok (.aload_n 0, 1) := by decide +kernel
theorem dX0_wrongReversal_14 : decode cX0_wrongReversal 14 = .ok (.getfield 24, 3) := by decide +kernel
theorem dX0_wrongReversal_17 : decode cX0_wrongReversal 17 = .ok (.if_icmp .ge 35, 3) := by decide +kernel
theorem dX0_wrongReversal_20 : decode cX0_wrongReversal 20 = .ok (.aload_n 0, 1) := by decide +kernel
theorem dX0_wrongReversal_21 : decode cX0_wrongReversal 21 = .ok (.iload_n 2, 1) := by decide +kernel
theorem dX0_wrongReversal_22 : decode cX0_wrongReversal 22 = .ok (.iload_n 1, 1) := by decide +kernel
theorem dX0_wrongReversal_23 : decode cX0_wrongReversal 23 = .ok (.invokevirtual 41, 3) := by decide +kernel
theorem dX0_wrongReversal_26 : decode cX0_wrongReversal 26 = .ok (.aload_n 0, 1) := by decide +kernel
theorem dX0_wrongReversal_27 : decode cX0_wrongReversal 27 = .ok (.aload_n 0, 1) := by decide +kernel
theorem dX0_wrongReversal_28 : decode cX0_wrongReversal 28 = .ok (.iload_n 1, 1) := by decide +kernel
theorem dX0_wrongReversal_29 : decode cX0_wrongReversal 29 = .ok (.iload_n 2, 1) := by decide +kernel
theorem dX0_wrongReversal_30 : decode cX0_wrongReversal 30 = .ok (.invokevirtual 41, 3) := by decide +kernel
theorem dX0_wrongReversal_33 : decode cX0_wrongReversal 33 = .ok (.invokevirtual 76, 3) := by decide +kernel
theorem dX0_wrongReversal_36 : decode cX0_wrongReversal 36 = .ok (.if_icmp .eq 10, 3) := by decide +kernel
theorem dX0_wrongReversal_39 : decode cX0_wrongReversal 39 = .ok (.iconst 3, 1) := by decide +kernel
theorem dX0_wrongReversal_40 : decode cX0_wrongReversal 40 = .ok (.iload_n 1, 1) := by decide +kernel
theorem dX0_wrongReversal_41 : decode cX0_wrongReversal 41 = .ok (.iload_n 2, 1) := by decide +kernel
theorem dX0_wrongReversal_42 : decode cX0_wrongReversal 42 = .ok (.invokestatic 72, 3) := by decide +kernel
theorem dX0_wrongReversal_45 : decode cX0_wrongReversal 45 = .ok (.ireturn, 1) := by decide +kernel
theorem dX0_wrongReversal_46 : decode cX0_wrongReversal 46 = .ok (.iinc 2 1, 3) := by decide +kernel
theorem dX0_wrongReversal_49 : decode cX0_wrongReversal 49 = .ok (.goto (-37), 3) := by decide +kernel
theorem dX0_wrongReversal_52 : decode cX0_wrongReversal 52 = .ok (.iinc 1 1, 3) := by decide +kernel
theorem dX0_wrongReversal_55 : decode cX0_wrongReversal 55 = .ok (.goto (-53), 3) := by decide +kernel
theorem dX0_wrongReversal_58 : decode cX0_wrongReversal 58 = .ok (.iconst 0, 1) := by decide +kernel
theorem dX0_wrongReversal_59 : decode cX0_wrongReversal 59 = .ok (.ireturn, 1) := by decide +kernel
theorem dX0_wrongCounts_0 : decode cX0_wrongCounts 0 = .ok (.iconst 0, 1) := by decide +kernel
theorem dX0_wrongCounts_1 : decode cX0_wrongCounts 1 = .ok (.istore_n 1, 1) := by decide +kernel
theorem dX0_wrongCounts_2 : decode cX0_wrongCounts 2 = .ok (.iload_n 1, 1) := by decide +kernel
theorem dX0_wrongCounts_3 : decode cX0_wrongCounts 3 = .ok (.aload_n 0, 1) := by decide +kernel
theorem dX0_wrongCounts_4 : decode cX0_wrongCounts 4 = .ok (.getfield 24, 3) := by decide +kernel
theorem dX0_wrongCounts_7 : decode cX0_wrongCounts 7 = .ok (.if_icmp .ge 76, 3) := by decide +kernel
theorem dX0_wrongCounts_10 : decode cX0_wrongCounts 10 = .ok (.iconst 0, 1) := by decide +kernel
theorem dX0_wrongCounts_11 : decode cX0_wrongCounts 11 = .ok (.istore_n 2, 1) := by decide +kernel
theorem dX0_wrongCounts_12 : decode cX0_wrongCounts 12 = .ok (.iload_n 2, 1) := by decide +kernel
theorem dX0_wrongCounts_13 : decode cX0_wrongCounts 13 = .ok (.aload_n 0, 1) := by decide +kernel
theorem dX0_wrongCounts_14 : decode cX0_wrongCounts 14 = .ok (.getfield 24, 3) := by decide +kernel
theorem dX0_wrongCounts_17 : decode cX0_wrongCounts 17 = .ok (.if_icmp .ge 60, 3) := by decide +kernel
theorem dX0_wrongCounts_20 : decode cX0_wrongCounts 20 = .ok (.aload_n 0, 1) := by decide +kernel
theorem dX0_wrongCounts_21 : decode cX0_wrongCounts 21 = .ok (.iload_n 1, 1) := by decide +kernel
theorem dX0_wrongCounts_22 : decode cX0_wrongCounts 22 = .ok (.iload_n 2, 1) := by decide +kernel
theorem dX0_wrongCounts_23 : decode cX0_wrongCounts 23 = .ok (.invokevirtual 41, 3) := by decide +kernel
theorem dX0_wrongCounts_26 : decode cX0_wrongCounts 26 = .ok (.istore_n 3, 1) := by decide +kernel
theorem dX0_wrongCounts_27 : decode cX0_wrongCounts 27 = .ok (.aload_n 0, 1) := by decide +kernel
theorem dX0_wrongCounts_28 : decode cX0_wrongCounts 28 = .ok (.iload_n 1, 1) := by decide +kernel
theorem dX0_wrongCounts_29 : decode cX0_wrongCounts 29 = .ok (.iload_n 2, 1) := by decide +kernel
theorem dX0_wrongCounts_30 : decode cX0_wrongCounts 30 = .ok (.invokevirtual 80, 3) := by decide +kernel
theorem dX0_wrongCounts_33 : decode cX0_wrongCounts 33 = .ok (.aload_n 0, 1) := by decide +kernel
theorem dX0_wrongCounts_34 : decode cX0_wrongCounts 34 = .ok (.getfield 15, 3) := by decide +kernel
theorem dX0_wrongCounts_37 : decode cX0_wrongCounts 37 = .ok (.iload_n 3, 1) := by decide +kernel
theorem dX0_wrongCounts_38 : decode cX0_wrongCounts 38 = .ok (.iaload, 1) := by decide +kernel
theorem dX0_wrongCounts_39 : decode cX0_wrongCounts 39 = .ok (.iload_n 1, 1) := by decide +kernel
theorem dX0_wrongCounts_40 : decode cX0_wrongCounts 40 = .ok (.bipush 8, 2) := by decide +kernel
theorem dX0_wrongCounts_42 : decode cX0_wrongCounts 42 = .ok (.imul, 1) := by decide +kernel
theorem dX0_wrongCounts_43 : decode cX0_wrongCounts 43 = .ok (.iload_n 2, 1) := by decide +kernel
theorem dX0_wrongCounts_44 : decode cX0_wrongCounts 44 = .ok (.iadd, 1) := by decide +kernel
theorem dX0_wrongCounts_45 : decode cX0_wrongCounts 45 = .ok (.if_icmp .ne 11, 3) := by decide +kernel
theorem dX0_wrongCounts_48 : decode cX0_wrongCounts 48 = .ok (.aload_n 0, 1) := by decide +kernel
theorem dX0_wrongCounts_49 : decode cX0_wrongCounts 49 = .ok (.iload_n 3, 1) := by decide +kernel
theorem dX0_wrongCounts_50 : decode cX0_wrongCounts 50 = .ok (.invokevirtual 84, 3) := by decide +kernel
theorem dX0_wrongCounts_53 : decode cX0_wrongCounts 53 = .ok (.goto 18, 3) := by decide +kernel
theorem dX0_wrongCounts_56 : decode cX0_wrongCounts 56 = .ok (.aload_n 0, 1) := by decide +kernel
theorem dX0_wrongCounts_57 : decode cX0_wrongCounts 57 = .ok (.iload_n 3, 1) := by decide +kernel
theorem dX0_wrongCounts_58 : decode cX0_wrongCounts 58 = .ok (.invokevirtual 88, 3) := by decide +kernel
theorem dX0_wrongCounts_61 : decode cX0_wrongCounts 61 = .ok (.ifCond .ne 10, 3) := by decide +kernel
theorem dX0_wrongCounts_64 : decode cX0_wrongCounts 64 = .ok (.iconst 4, 1) := by decide +kernel
theorem dX0_wrongCounts_65 : decode cX0_wrongCounts 65 = .ok (.iload_n 1, 1) := by decide +kernel
theorem dX0_wrongCounts_66 : decode cX0_wrongCounts 66 = .ok (.iload_n 2, 1) := by decide +kernel
theorem dX0_wrongCounts_67 : decode cX0_wrongCounts 67 = .ok (.invokestatic 72, 3) := by decide +kernel
theorem dX0_wrongCounts_70 : decode cX0_wrongCounts 70 = .ok (.ireturn, 1) := by decide +kernel
theorem dX0_wrongCounts_71 : decode cX0_wrongCounts 71 = .ok (.iinc 2 1, 3) := by decide +kernel
theorem dX0_wrongCounts_74 : decode cX0_wrongCounts 74 = .ok (.goto (-62), 3) := by decide +kernel
theorem dX0_wrongCounts_77 : decode cX0_wrongCounts 77 = .ok (.iinc 1 1, 3) := by decide +kernel
theorem dX0_wrongCounts_80 : decode cX0_wrongCounts 80 = .ok (.goto (-78), 3) := by decide +kernel
theorem dX0_wrongCounts_83 : decode cX0_wrongCounts 83 = .ok (.iconst 0, 1) := by decide +kernel
theorem dX0_wrongCounts_84 : decode cX0_wrongCounts 84 = .ok (.ireturn, 1) := by decide +kernel
theorem dX0_countBetween_0 : decode cX0_countBetween 0 = .ok (.iconst 0, 1) := by decide +kernel
theorem dX0_countBetween_1 : decode cX0_countBetween 1 = .ok (.istore_n 3, 1) := by decide +kernel
theorem dX0_countBetween_2 : decode cX0_countBetween 2 = .ok (.iload_n 3, 1) := by decide +kernel
theorem dX0_countBetween_3 : decode cX0_countBetween 3 = .ok (.bipush 25, 2) := by decide +kernel
theorem dX0_countBetween_5 : decode cX0_countBetween 5 = .ok (.if_icmp .ge 16, 3) := by decide +kernel
theorem dX0_countBetween_8 : decode cX0_countBetween 8 = .ok (.aload_n 0, 1) := by decide +kernel
theorem dX0_countBetween_9 : decode cX0_countBetween 9 = .ok (.getfield 21, 3) := by decide +kernel
theorem dX0_countBetween_12 : decode cX0_countBetween 12 = .ok (.iload_n 3, 1) := by decide +kernel
theorem dX0_countBetween_13 : decode cX0_countBetween 13 = .ok (.iconst 0, 1) := by decide +kernel
theorem dX0_countBetween_14 : decode cX0_countBetween 14 = .ok (.iastore, 1) := by decide +kernel
theorem dX0_countBetween_15 : decode cX0_countBetween 15 = .ok (.iinc 3 1, 3) := by decide +kernel
theorem dX0_countBetween_18 : decode cX0_countBetween 18 = .ok (.goto (-16), 3) := by decide +kernel
theorem dX0_countBetween_21 : decode cX0_countBetween 21 = .ok (.iconst 0, 1) := by decide +kernel
theorem dX0_countBetween_22 : decode cX0_countBetween 22 = .ok (.istore_n 3, 1) := by decide +kernel
theorem dX0_countBetween_23 : decode cX0_countBetween 23 = .ok (.iload_n 3, 1) := by decide +kernel
theorem dX0_countBetween_24 : decode cX0_countBetween 24 = .ok (.aload_n 0, 1) := by decide +kernel
theorem dX0_countBetween_25 : decode cX0_countBetween 25 = .ok (.getfield 24, 3) := by decide +kernel
theorem dX0_countBetween_28 : decode cX0_countBetween 28 = .ok (.if_icmp .ge 33, 3) := by decide +kernel
theorem dX0_countBetween_31 : decode cX0_countBetween 31 = .ok (.aload_n 0, 1) := by decide +kernel
theorem dX0_countBetween_32 : decode cX0_countBetween 32 = .ok (.getfield 21, 3) := by decide +kernel
theorem dX0_countBetween_35 : decode cX0_countBetween 35 = .ok (.aload_n 0, 1) := by decide +kernel
theorem dX0_countBetween_36 : decode cX0_countBetween 36 = .ok (.iload_n 1, 1) := by decide +kernel
theorem dX0_countBetween_37 : decode cX0_countBetween 37 = .ok (.iload_n 3, 1) := by decide +kernel
theorem dX0_countBetween_38 : decode cX0_countBetween 38 = .ok (.invokevirtual 41, 3) := by decide +kernel
theorem dX0_countBetween_41 : decode cX0_countBetween 41 = .ok (.iconst 5, 1) := by decide +kernel
theorem dX0_countBetween_42 : decode cX0_countBetween 42 = .ok (.imul, 1) := by decide +kernel
theorem dX0_countBetween_43 : decode cX0_countBetween 43 = .ok (.aload_n 0, 1) := by decide +kernel
theorem dX0_countBetween_44 : decode cX0_countBetween 44 = .ok (.iload_n 3, 1) := by decide +kernel
theorem dX0_countBetween_45 : decode cX0_countBetween 45 = .ok (.iload_n 2, 1) := by decide +kernel
theorem dX0_countBetween_46 : decode cX0_countBetween 46 = .ok (.invokevirtual 41, 3) := by decide +kernel
theorem dX0_countBetween_49 : decode cX0_countBetween 49 = .ok (.iadd, 1) := by decide +kernel
theorem dX0_countBetween_50 : decode cX0_countBetween 50 = .ok (.dup2, 1) := by decide +kernel
theorem dX0_countBetween_51 : decode cX0_countBetween 51 = .ok (.iaload, 1) := by decide +kernel
theorem dX0_countBetween_52 : decode cX0_countBetween 52 = .ok (.iconst 1, 1) := by decide +kernel
theorem dX0_countBetween_53 : decode cX0_countBetween 53 = .ok (.iadd, 1) := by decide +kernel
theorem dX0_countBetween_54 : decode cX0_countBetween 54 = .ok (.iastore, 1) := by decide +kernel
theorem dX0_countBetween_55 : decode cX0_countBetween 55 = .ok (.iinc 3 1, 3) := by decide +kernel
theorem dX0_countBetween_58 : decode cX0_countBetween 58 = .ok (.goto (-35), 3) := by decide +kernel
theorem dX0_countBetween_61 : decode cX0_countBetween 61 = .ok (.return_, 1) := by decide +kernel
theorem dX0_keepCounts_0 : decode cX0_keepCounts 0 = .ok (.iconst 0, 1) := by decide +kernel
theorem dX0_keepCounts_1 : decode cX0_keepCounts 1 = .ok (.istore_n 2, 1) := by decide +kernel
theorem dX0_keepCounts_2 : decode cX0_keepCounts 2 = .ok (.iload_n 2, 1) := by decide +kernel
theorem dX0_keepCounts_3 : decode cX0_keepCounts 3 = .ok (.bipush 25, 2) := by decide +kernel
theorem dX0_keepCounts_5 : decode cX0_keepCounts 5 = .ok (.if_icmp .ge 27, 3) := by decide +kernel
theorem dX0_keepCounts_8 : decode cX0_keepCounts 8 = .ok (.aload_n 0, 1) := by decide +kernel
theorem dX0_keepCounts_9 : decode cX0_keepCounts 9 = .ok (.getfield 18, 3) := by decide +kernel
theorem dX0_keepCounts_12 : decode cX0_keepCounts 12 = .ok (.iload_n 1, 1) := by decide +kernel
theorem dX0_keepCounts_13 : decode cX0_keepCounts 13 = .ok (.iconst 5, 1) := by decide +kernel
theorem dX0_keepCounts_14 : decode cX0_keepCounts 14 = .ok (.imul, 1) := by decide +kernel
theorem dX0_keepCounts_15 : decode cX0_keepCounts 15 = .ok (.iconst 5, 1) := by decide +kernel
theorem dX0_keepCounts_16 : decode cX0_keepCounts 16 = .ok (.imul, 1) := by decide +kernel
theorem dX0_keepCounts_17 : decode cX0_keepCounts 17 = .ok (.iload_n 2, 1) := by decide +kernel
theorem dX0_keepCounts_18 : decode cX0_keepCounts 18 = .ok (.iadd, 1) := by decide +kernel
theorem dX0_keepCounts_19 : decode cX0_keepCounts 19 = .ok (.aload_n 0, 1) := by decide +kernel
theorem dX0_keepCounts_20 : decode cX0_keepCounts 20 = .ok (.getfield 21, 3) := by decide +kernel
theorem dX0_keepCounts_23 : decode cX0_keepCounts 23 = .ok (.iload_n 2, 1) := by decide +kernel
theorem dX0_keepCounts_24 : decode cX0_keepCounts 24 = .ok (.iaload, 1) := by decide +kernel
theorem dX0_keepCounts_25 : decode cX0_keepCounts 25 = .ok (.iastore, 1) := by decide +kernel
theorem dX0_keepCounts_26 : decode cX0_keepCounts 26 = .ok (.iinc 2 1, 3) := by decide +kernel
theorem dX0_keepCounts_29 : decode cX0_keepCounts 29 = .ok (.goto (-27), 3) := by decide +kernel
theorem dX0_keepCounts_32 : decode cX0_keepCounts 32 = .ok (.return_, 1) := by decide +kernel
theorem dX0_countsAreKept_0 : decode cX0_countsAreKept 0 = .ok (.iconst 0, 1) := by decide +kernel
theorem dX0_countsAreKept_1 : decode cX0_countsAreKept 1 = .ok (.istore_n 2, 1) := by decide +kernel
theorem dX0_countsAreKept_2 : decode cX0_countsAreKept 2 = .ok (.iload_n 2, 1) := by decide +kernel
theorem dX0_countsAreKept_3 : decode cX0_countsAreKept 3 = .ok (.bipush 25, 2) := by decide +kernel
theorem dX0_countsAreKept_5 : decode cX0_countsAreKept 5 = .ok (.if_icmp .ge 32, 3) := by decide +kernel
theorem dX0_countsAreKept_8 : decode cX0_countsAreKept 8 = .ok (.aload_n 0, 1) := by decide +kernel
theorem dX0_countsAreKept_9 : decode cX0_countsAreKept 9 = .ok (.getfield 18, 3) := by decide +kernel
theorem dX0_countsAreKept_12 : decode cX0_countsAreKept 12 = .ok (.iload_n 1, 1) := by decide +kernel
theorem dX0_countsAreKept_13 : decode cX0_countsAreKept 13 = .ok (.iconst 5, 1) := by decide +kernel
theorem dX0_countsAreKept_14 : decode cX0_countsAreKept 14 = .ok (.imul, 1) := by decide +kernel
theorem dX0_countsAreKept_15 : decode cX0_countsAreKept 15 = .ok (.iconst 5, 1) := by decide +kernel
theorem dX0_countsAreKept_16 : decode cX0_countsAreKept 16 = .ok (.imul, 1) := by decide +kernel
theorem dX0_countsAreKept_17 : decode cX0_countsAreKept 17 = .ok (.iload_n 2, 1) := by decide +kernel
theorem dX0_countsAreKept_18 : decode cX0_countsAreKept 18 = .ok (.iadd, 1) := by decide +kernel
theorem dX0_countsAreKept_19 : decode cX0_countsAreKept 19 = .ok (.iaload, 1) := by decide +kernel
theorem dX0_countsAreKept_20 : decode cX0_countsAreKept 20 = .ok (.aload_n 0, 1) := by decide +kernel
theorem dX0_countsAreKept_21 : decode cX0_countsAreKept 21 = .ok (.getfield 21, 3) := by decide +kernel
theorem dX0_countsAreKept_24 : decode cX0_countsAreKept 24 = .ok (.iload_n 2, 1) := by decide +kernel
theorem dX0_countsAreKept_25 : decode cX0_countsAreKept 25 = .ok (.iaload, 1) := by decide +kernel
theorem dX0_countsAreKept_26 : decode cX0_countsAreKept 26 = .ok (.if_icmp .eq 5, 3) := by decide +kernel
theorem dX0_countsAreKept_29 : decode cX0_countsAreKept 29 = .ok (.iconst 0, 1) := by decide +kernel
theorem dX0_countsAreKept_30 : decode cX0_countsAreKept 30 = .ok (.ireturn, 1) := by decide +kernel
theorem dX0_countsAreKept_31 : decode cX0_countsAreKept 31 = .ok (.iinc 2 1, 3) := by decide +kernel
theorem dX0_countsAreKept_34 : decode cX0_countsAreKept 34 = .ok (.goto (-32), 3) := by decide +kernel
theorem dX0_countsAreKept_37 : decode cX0_countsAreKept 37 = .ok (.iconst 1, 1) := by decide +kernel
theorem dX0_countsAreKept_38 : decode cX0_countsAreKept 38 = .ok (.ireturn, 1) := by decide +kernel
theorem dX0_reverseOf_0 : decode cX0_reverseOf 0 = .ok (.aload_n 0, 1) := by decide +kernel
theorem dX0_reverseOf_1 : decode cX0_reverseOf 1 = .ok (.getfield 15, 3) := by decide +kernel
theorem dX0_reverseOf_4 : decode cX0_reverseOf 4 = .ok (.iload_n 1, 1) := by decide +kernel
theorem dX0_reverseOf_5 : decode cX0_reverseOf 5 = .ok (.iaload, 1) := by decide +kernel
theorem dX0_reverseOf_6 : decode cX0_reverseOf 6 = .ok (.istore_n 2, 1) := by decide +kernel
theorem dX0_reverseOf_7 : decode cX0_reverseOf 7 = .ok (.iload_n 2, 1) := by decide +kernel
theorem dX0_reverseOf_8 : decode cX0_reverseOf 8 = .ok (.iconst (-1), 1) := by decide +kernel
theorem dX0_reverseOf_9 : decode cX0_reverseOf 9 = .ok (.if_icmp .ne 5, 3) := by decide +kernel
theorem dX0_reverseOf_12 : decode cX0_reverseOf 12 = .ok (.iconst 0, 1) := by decide +kernel
theorem dX0_reverseOf_13 : decode cX0_reverseOf 13 = .ok (.ireturn, 1) := by decide +kernel
theorem dX0_reverseOf_14 : decode cX0_reverseOf 14 = .ok (.aload_n 0, 1) := by decide +kernel
theorem dX0_reverseOf_15 : decode cX0_reverseOf 15 = .ok (.iload_n 2, 1) := by decide +kernel
theorem dX0_reverseOf_16 : decode cX0_reverseOf 16 = .ok (.bipush 8, 2) := by decide +kernel
theorem dX0_reverseOf_18 : decode cX0_reverseOf 18 = .ok (.irem, 1) := by decide +kernel
theorem dX0_reverseOf_19 : decode cX0_reverseOf 19 = .ok (.iload_n 2, 1) := by decide +kernel
theorem dX0_reverseOf_20 : decode cX0_reverseOf 20 = .ok (.bipush 8, 2) := by decide +kernel
theorem dX0_reverseOf_22 : decode cX0_reverseOf 22 = .ok (.idiv, 1) := by decide +kernel
theorem dX0_reverseOf_23 : decode cX0_reverseOf 23 = .ok (.invokevirtual 41, 3) := by decide +kernel
theorem dX0_reverseOf_26 : decode cX0_reverseOf 26 = .ok (.ireturn, 1) := by decide +kernel
theorem dX0_numberOf_0 : decode cX0_numberOf 0 = .ok (.aload_n 0, 1) := by decide +kernel
theorem dX0_numberOf_1 : decode cX0_numberOf 1 = .ok (.getfield 18, 3) := by decide +kernel
theorem dX0_numberOf_4 : decode cX0_numberOf 4 = .ok (.iload_n 3, 1) := by decide +kernel
theorem dX0_numberOf_5 : decode cX0_numberOf 5 = .ok (.iconst 5, 1) := by decide +kernel
theorem dX0_numberOf_6 : decode cX0_numberOf 6 = .ok (.imul, 1) := by decide +kernel
theorem dX0_numberOf_7 : decode cX0_numberOf 7 = .ok (.iload_n 1, 1) := by decide +kernel
theorem dX0_numberOf_8 : decode cX0_numberOf 8 = .ok (.iadd, 1) := by decide +kernel
theorem dX0_numberOf_9 : decode cX0_numberOf 9 = .ok (.iconst 5, 1) := by decide +kernel
theorem dX0_numberOf_10 : decode cX0_numberOf 10 = .ok (.imul, 1) := by decide +kernel
theorem dX0_numberOf_11 : decode cX0_numberOf 11 = .ok (.iload_n 2, 1) := by decide +kernel
theorem dX0_numberOf_12 : decode cX0_numberOf 12 = .ok (.iadd, 1) := by decide +kernel
theorem dX0_numberOf_13 : decode cX0_numberOf 13 = .ok (.iaload, 1) := by decide +kernel
theorem dX0_numberOf_14 : decode cX0_numberOf 14 = .ok (.ireturn, 1) := by decide +kernel
theorem dX0_degreeOf_0 : decode cX0_degreeOf 0 = .ok (.iconst 0, 1) := by decide +kernel
theorem dX0_degreeOf_1 : decode cX0_degreeOf 1 = .ok (.istore_n 2, 1) := by decide +kernel
theorem dX0_degreeOf_2 : decode cX0_degreeOf 2 = .ok (.iconst 0, 1) := by decide +kernel
theorem dX0_degreeOf_3 : decode cX0_degreeOf 3 = .ok (.istore_n 3, 1) := by decide +kernel
theorem dX0_degreeOf_4 : decode cX0_degreeOf 4 = .ok (.iload_n 3, 1) := by decide +kernel
theorem dX0_degreeOf_5 : decode cX0_degreeOf 5 = .ok (.aload_n 0, 1) := by decide +kernel
theorem dX0_degreeOf_6 : decode cX0_degreeOf 6 = .ok (.getfield 24, 3) := by decide +kernel
theorem dX0_degreeOf_9 : decode cX0_degreeOf 9 = .ok (.if_icmp .ge 22, 3) := by decide +kernel
theorem dX0_degreeOf_12 : decode cX0_degreeOf 12 = .ok (.aload_n 0, 1) := by decide +kernel
theorem dX0_degreeOf_13 : decode cX0_degreeOf 13 = .ok (.iconst 0, 1) := by decide +kernel
theorem dX0_degreeOf_14 : decode cX0_degreeOf 14 = .ok (.iload_n 3, 1) := by decide +kernel
theorem dX0_degreeOf_15 : decode cX0_degreeOf 15 = .ok (.invokevirtual 41, 3) := by decide +kernel
theorem dX0_degreeOf_18 : decode cX0_degreeOf 18 = .ok (.iload_n 1, 1) := by decide +kernel
theorem dX0_degreeOf_19 : decode cX0_degreeOf 19 = .ok (.if_icmp .ne 6, 3) := by decide +kernel
theorem dX0_degreeOf_22 : decode cX0_degreeOf 22 = .ok (.iinc 2 1, 3) := by decide +kernel
theorem dX0_degreeOf_25 : decode cX0_degreeOf 25 = .ok (.iinc 3 1, 3) := by decide +kernel
theorem dX0_degreeOf_28 : decode cX0_degreeOf 28 = .ok (.goto (-24), 3) := by decide +kernel
theorem dX0_degreeOf_31 : decode cX0_degreeOf 31 = .ok (.iload_n 2, 1) := by decide +kernel
theorem dX0_degreeOf_32 : decode cX0_degreeOf 32 = .ok (.ireturn, 1) := by decide +kernel
theorem dX0_multipliesEitherWay_0 : decode cX0_multipliesEitherWay 0 = .ok (.iconst 0, 1) := by decide +kernel
theorem dX0_multipliesEitherWay_1 : decode cX0_multipliesEitherWay 1 = .ok (.istore_n 1, 1) := by decide +kernel
theorem dX0_multipliesEitherWay_2 : decode cX0_multipliesEitherWay 2 = .ok (.iload_n 1, 1) := by decide +kernel
theorem dX0_multipliesEitherWay_3 : decode cX0_multipliesEitherWay 3 = .ok (.aload_n 0, 1) := by decide +kernel
theorem dX0_multipliesEitherWay_4 : decode cX0_multipliesEitherWay 4 = .ok (.getfield 28, 3) := by decide +kernel
theorem dX0_multipliesEitherWay_7 : decode cX0_multipliesEitherWay 7 = .ok (.if_icmp .ge 57, 3) := by decide +kernel
theorem dX0_multipliesEitherWay_10 : decode cX0_multipliesEitherWay 10 = .ok (.iconst 0, 1) := by decide +kernel
theorem dX0_multipliesEitherWay_11 : decode cX0_multipliesEitherWay 11 = .ok (.istore_n 2, 1) := by decide +kernel
theorem dX0_multipliesEitherWay_12 : decode cX0_multipliesEitherWay 12 = .ok (.iload_n 2, 1) := by decide +kernel
theorem dX0_multipliesEitherWay_13 : decode cX0_multipliesEitherWay 13 = .ok (.iload_n 1, 1) := by decide +kernel
theorem dX0_multipliesEitherWay_14 : decode cX0_multipliesEitherWay 14 = .ok (.if_icmp .ge 44, 3) := by decide +kernel
theorem dX0_multipliesEitherWay_17 : decode cX0_multipliesEitherWay 17 = .ok (.iconst 0, 1) := by decide +kernel
theorem dX0_multipliesEitherWay_18 : decode cX0_multipliesEitherWay 18 = .ok (.istore_n 3, 1) := by decide +kernel
theorem dX0_multipliesEitherWay_19 : decode cX0_multipliesEitherWay 19 = .ok (.iload_n 3, 1) := by decide +kernel
theorem dX0_multipliesEitherWay_20 : decode cX0_multipliesEitherWay 20 = .ok (.aload_n 0, 1) := by decide +kernel
theorem dX0_multipliesEitherWay_21 : decode cX0_multipliesEitherWay 21 = .ok (.getfield 28, 3) := by decide +kernel
theorem dX0_multipliesEitherWay_24 : decode cX0_multipliesEitherWay 24 = .ok (.if_icmp .ge 28, 3) := by decide +kernel
theorem dX0_multipliesEitherWay_27 : decode cX0_multipliesEitherWay 27 = .ok (.aload_n 0, 1) := by decide +kernel
theorem dX0_multipliesEitherWay_28 : decode cX0_multipliesEitherWay 28 = .ok (.iload_n 1, 1) := by decide +kernel
theorem dX0_multipliesEitherWay_29 : decode cX0_multipliesEitherWay 29 = .ok (.iload_n 2, 1) := by decide +kernel
theorem dX0_multipliesEitherWay_30 : decode cX0_multipliesEitherWay 30 = .ok (.iload_n 3, 1) := by decide +kernel
theorem dX0_multipliesEitherWay_31 : decode cX0_multipliesEitherWay 31 = .ok (.invokevirtual 92, 3) := by decide +kernel
theorem dX0_multipliesEitherWay_34 : decode cX0_multipliesEitherWay 34 = .ok (.aload_n 0, 1) := by decide +kernel
theorem dX0_multipliesEitherWay_35 : decode cX0_multipliesEitherWay 35 = .ok (.iload_n 2, 1) := by decide +kernel
theorem dX0_multipliesEitherWay_36 : decode cX0_multipliesEitherWay 36 = .ok (.iload_n 1, 1) := by decide +kernel
theorem dX0_multipliesEitherWay_37 : decode cX0_multipliesEitherWay 37 = .ok (.iload_n 3, 1) := by decide +kernel
theorem dX0_multipliesEitherWay_38 : decode cX0_multipliesEitherWay 38 = .ok (.invokevirtual 92, 3) := by decide +kernel
theorem dX0_multipliesEitherWay_41 : decode cX0_multipliesEitherWay 41 = .ok (.if_icmp .eq 5, 3) := by decide +kernel
theorem dX0_multipliesEitherWay_44 : decode cX0_multipliesEitherWay 44 = .ok (.iconst 0, 1) := by decide +kernel
theorem dX0_multipliesEitherWay_45 : decode cX0_multipliesEitherWay 45 = .ok (.ireturn, 1) := by decide +kernel
theorem dX0_multipliesEitherWay_46 : decode cX0_multipliesEitherWay 46 = .ok (.iinc 3 1, 3) := by decide +kernel
theorem dX0_multipliesEitherWay_49 : decode cX0_multipliesEitherWay 49 = .ok (.goto (-30), 3) := by decide +kernel
theorem dX0_multipliesEitherWay_52 : decode cX0_multipliesEitherWay 52 = .ok (.iinc 2 1, 3) := by decide +kernel
theorem dX0_multipliesEitherWay_55 : decode cX0_multipliesEitherWay 55 = .ok (.goto (-43), 3) := by decide +kernel
theorem dX0_multipliesEitherWay_58 : decode cX0_multipliesEitherWay 58 = .ok (.iinc 1 1, 3) := by decide +kernel
theorem dX0_multipliesEitherWay_61 : decode cX0_multipliesEitherWay 61 = .ok (.goto (-59), 3) := by decide +kernel
theorem dX0_multipliesEitherWay_64 : decode cX0_multipliesEitherWay 64 = .ok (.iconst 1, 1) := by decide +kernel
theorem dX0_multipliesEitherWay_65 : decode cX0_multipliesEitherWay 65 = .ok (.ireturn, 1) := by decide +kernel
theorem dX0_has_0 : decode cX0_has 0 = .ok (.iload_n 0, 1) := by decide +kernel
theorem dX0_has_1 : decode cX0_has 1 = .ok (.iload_n 1, 1) := by decide +kernel
theorem dX0_has_2 : decode cX0_has 2 = .ok (.ishr, 1) := by decide +kernel
theorem dX0_has_3 : decode cX0_has 3 = .ok (.iconst 1, 1) := by decide +kernel
theorem dX0_has_4 : decode cX0_has 4 = .ok (.iand, 1) := by decide +kernel
theorem dX0_has_5 : decode cX0_has 5 = .ok (.iconst 1, 1) := by decide +kernel
theorem dX0_has_6 : decode cX0_has 6 = .ok (.if_icmp .ne 7, 3) := by decide +kernel
theorem dX0_has_9 : decode cX0_has 9 = .ok (.iconst 1, 1) := by decide +kernel
theorem dX0_has_10 : decode cX0_has 10 = .ok (.goto 4, 3) := by decide +kernel
theorem dX0_has_13 : decode cX0_has 13 = .ok (.iconst 0, 1) := by decide +kernel
theorem dX0_has_14 : decode cX0_has 14 = .ok (.ireturn, 1) := by decide +kernel
theorem dX0_isClosed_0 : decode cX0_isClosed 0 = .ok (.iload_n 1, 1) := by decide +kernel
theorem dX0_isClosed_1 : decode cX0_isClosed 1 = .ok (.iconst 0, 1) := by decide +kernel
theorem dX0_isClosed_2 : decode cX0_isClosed 2 = .ok (.invokestatic 95, 3) := by decide +kernel
theorem dX0_isClosed_5 : decode cX0_isClosed 5 = .ok (.ifCond .eq 19, 3) := by decide +kernel
theorem dX0_isClosed_8 : decode cX0_isClosed 8 = .ok (.aload_n 0, 1) := by decide +kernel
theorem dX0_isClosed_9 : decode cX0_isClosed 9 = .ok (.iload_n 1, 1) := by decide +kernel
theorem dX0_isClosed_10 : decode cX0_isClosed 10 = .ok (.invokevirtual 99, 3) := by decide +kernel
theorem dX0_isClosed_13 : decode cX0_isClosed 13 = .ok (.iload_n 1, 1) := by decide +kernel
theorem dX0_isClosed_14 : decode cX0_isClosed 14 = .ok (.iconst (-1), 1) := by decide +kernel
theorem dX0_isClosed_15 : decode cX0_isClosed 15 = .ok (.ixor, 1) := by decide +kernel
theorem dX0_isClosed_16 : decode cX0_isClosed 16 = .ok (.iand, 1) := by decide +kernel
theorem dX0_isClosed_17 : decode cX0_isClosed 17 = .ok (.ifCond .ne 7, 3) := by decide +kernel
theorem dX0_isClosed_20 : decode cX0_isClosed 20 = .ok (.iconst 1, 1) := by decide +kernel
theorem dX0_isClosed_21 : decode cX0_isClosed 21 = .ok (.goto 4, 3) := by decide +kernel
theorem dX0_isClosed_24 : decode cX0_isClosed 24 = .ok (.iconst 0, 1) := by decide +kernel
theorem dX0_isClosed_25 : decode cX0_isClosed 25 = .ok (.ireturn, 1) := by decide +kernel
theorem dX0_productsOf_0 : decode cX0_productsOf 0 = .ok (.iconst 0, 1) := by decide +kernel
theorem dX0_productsOf_1 : decode cX0_productsOf 1 = .ok (.istore_n 2, 1) := by decide +kernel
theorem dX0_productsOf_2 : decode cX0_productsOf 2 = .ok (.iconst 0, 1) := by decide +kernel
theorem dX0_productsOf_3 : decode cX0_productsOf 3 = .ok (.istore_n 3, 1) := by decide +kernel
theorem dX0_productsOf_4 : decode cX0_productsOf 4 = .ok (.iload_n 3, 1) := by decide +kernel
theorem dX0_productsOf_5 : decode cX0_productsOf 5 = .ok (.aload_n 0, 1) := by decide +kernel
theorem dX0_productsOf_6 : decode cX0_productsOf 6 = .ok (.getfield 28, 3) := by decide +kernel
theorem dX0_productsOf_9 : decode cX0_productsOf 9 = .ok (.if_icmp .ge 54, 3) := by decide +kernel
theorem dX0_productsOf_12 : decode cX0_productsOf 12 = .ok (.iconst 0, 1) := by decide +kernel
theorem dX0_productsOf_13 : decode cX0_productsOf 13 = .ok (.istore 4, 2) := by decide +kernel
theorem dX0_productsOf_15 : decode cX0_productsOf 15 = .ok (.iload 4, 2) := by decide +kernel
theorem dX0_productsOf_17 : decode cX0_productsOf 17 = .ok (.aload_n 0, 1) := by decide +kernel
theorem dX0_productsOf_18 : decode cX0_productsOf 18 = .ok (.getfield 28, 3) := by decide +kernel
theorem dX0_productsOf_21 : decode cX0_productsOf 21 = .ok (.if_icmp .ge 36, 3) := by decide +kernel
theorem dX0_productsOf_24 : decode cX0_productsOf 24 = .ok (.iload_n 1, 1) := by decide +kernel
theorem dX0_productsOf_25 : decode cX0_productsOf 25 = .ok (.iload_n 3, 1) := by decide +kernel
theorem dX0_productsOf_26 : decode cX0_productsOf 26 = .ok (.invokestatic 95, 3) := by decide +kernel
theorem dX0_productsOf_29 : decode cX0_productsOf 29 = .ok (.ifCond .eq 22, 3) := by decide +kernel
theorem dX0_productsOf_32 : decode cX0_productsOf 32 = .ok (.iload_n 1, 1) := by decide +kernel
theorem dX0_productsOf_33 : decode cX0_productsOf 33 = .ok (.iload 4, 2) := by decide +kernel
theorem dX0_productsOf_35 : decode cX0_productsOf 35 = .ok (.invokestatic 95, 3) := by decide +kernel
theorem dX0_productsOf_38 : decode cX0_productsOf 38 = .ok (.ifCond .eq 13, 3) := by decide +kernel
theorem dX0_productsOf_41 : decode cX0_productsOf 41 = .ok (.iload_n 2, 1) := by decide +kernel
theorem dX0_productsOf_42 : decode cX0_productsOf 42 = .ok (.aload_n 0, 1) := by decide +kernel
theorem dX0_productsOf_43 : decode cX0_productsOf 43 = .ok (.iload_n 3, 1) := by decide +kernel
theorem dX0_productsOf_44 : decode cX0_productsOf 44 = .ok (.iload 4, 2) := by decide +kernel
theorem dX0_productsOf_46 : decode cX0_productsOf 46 = .ok (.invokevirtual 102, 3) := by decide +kernel
theorem dX0_productsOf_49 : decode cX0_productsOf 49 = .ok (.ior, 1) := by decide +kernel
theorem dX0_productsOf_50 : decode cX0_productsOf 50 = .ok (.istore_n 2, 1) := by decide +kernel
theorem dX0_productsOf_51 : decode cX0_productsOf 51 = .ok (.iinc 4 1, 3) := by decide +kernel
theorem dX0_productsOf_54 : decode cX0_productsOf 54 = .ok (.goto (-39), 3) := by decide +kernel
theorem dX0_productsOf_57 : decode cX0_productsOf 57 = .ok (.iinc 3 1, 3) := by decide +kernel
theorem dX0_productsOf_60 : decode cX0_productsOf 60 = .ok (.goto (-56), 3) := by decide +kernel
theorem dX0_productsOf_63 : decode cX0_productsOf 63 = .ok (.iload_n 2, 1) := by decide +kernel
theorem dX0_productsOf_64 : decode cX0_productsOf 64 = .ok (.ireturn, 1) := by decide +kernel
theorem dX0_productsOfTwo_0 : decode cX0_productsOfTwo 0 = .ok (.iconst 0, 1) := by decide +kernel
theorem dX0_productsOfTwo_1 : decode cX0_productsOfTwo 1 = .ok (.istore_n 3, 1) := by decide +kernel
theorem dX0_productsOfTwo_2 : decode cX0_productsOfTwo 2 = .ok (.iconst 0, 1) := by decide +kernel
theorem dX0_productsOfTwo_3 : decode cX0_productsOfTwo 3 = .ok (.istore 4, 2) := by decide +kernel
theorem dX0_productsOfTwo_5 : decode cX0_productsOfTwo 5 = .ok (.iload 4, 2) := by decide +kernel
theorem dX0_productsOfTwo_7 : decode cX0_productsOfTwo 7 = .ok (.aload_n 0, 1) := by decide +kernel
theorem dX0_productsOfTwo_8 : decode cX0_productsOfTwo 8 = .ok (.getfield 28, 3) := by decide +kernel
theorem dX0_productsOfTwo_11 : decode cX0_productsOfTwo 11 = .ok (.if_icmp .ge 27, 3) := by decide +kernel
theorem dX0_productsOfTwo_14 : decode cX0_productsOfTwo 14 = .ok (.aload_n 0, 1) := by decide +kernel
theorem dX0_productsOfTwo_15 : decode cX0_productsOfTwo 15 = .ok (.iload_n 1, 1) := by decide +kernel
theorem dX0_productsOfTwo_16 : decode cX0_productsOfTwo 16 = .ok (.iload_n 2, 1) := by decide +kernel
theorem dX0_productsOfTwo_17 : decode cX0_productsOfTwo 17 = .ok (.iload 4, 2) := by decide +kernel
theorem dX0_productsOfTwo_19 : decode cX0_productsOfTwo 19 = .ok (.invokevirtual 92, 3) := by decide +kernel
theorem dX0_productsOfTwo_22 : decode cX0_productsOfTwo 22 = .ok (.ifCond .le 10, 3) := by decide +kernel
theorem dX0_productsOfTwo_25 : decode cX0_productsOfTwo 25 = .ok (.iload_n 3, 1) := by decide +kernel
theorem dX0_productsOfTwo_26 : decode cX0_productsOfTwo 26 = .ok (.iconst 1, 1) := by decide +kernel
theorem dX0_productsOfTwo_27 : decode cX0_productsOfTwo 27 = .ok (.iload 4, 2) := by decide +kernel
theorem dX0_productsOfTwo_29 : decode cX0_productsOfTwo 29 = .ok (.ishl, 1) := by decide +kernel
theorem dX0_productsOfTwo_30 : decode cX0_productsOfTwo 30 = .ok (.ior, 1) := by decide +kernel
theorem dX0_productsOfTwo_31 : decode cX0_productsOfTwo 31 = .ok (.istore_n 3, 1) := by decide +kernel
theorem dX0_productsOfTwo_32 : decode cX0_productsOfTwo 32 = .ok (.iinc 4 1, 3) := by decide +kernel
theorem dX0_productsOfTwo_35 : decode cX0_productsOfTwo 35 = .ok (.goto (-30), 3) := by decide +kernel
theorem dX0_productsOfTwo_38 : decode cX0_productsOfTwo 38 = .ok (.iload_n 3, 1) := by decide +kernel
theorem dX0_productsOfTwo_39 : decode cX0_productsOfTwo 39 = .ok (.ireturn, 1) := by decide +kernel
theorem dX0_hullOf_0 : decode cX0_hullOf 0 = .ok (.iload_n 1, 1) := by decide +kernel
theorem dX0_hullOf_1 : decode cX0_hullOf 1 = .ok (.iconst 1, 1) := by decide +kernel
theorem dX0_hullOf_2 : decode cX0_hullOf 2 = .ok (.ior, 1) := by decide +kernel
theorem dX0_hullOf_3 : decode cX0_hullOf 3 = .ok (.istore_n 2, 1) := by decide +kernel
theorem dX0_hullOf_4 : decode cX0_hullOf 4 = .ok (.iconst 0, 1) := by decide +kernel
theorem dX0_hullOf_5 : decode cX0_hullOf 5 = .ok (.istore_n 3, 1) := by decide +kernel
theorem dX0_hullOf_6 : decode cX0_hullOf 6 = .ok (.iload_n 3, 1) := by decide +kernel
