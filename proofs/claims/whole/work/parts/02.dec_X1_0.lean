-- decode rows (by program)
theorem dX1_init_0 : decode cX1_init 0 = .ok (.aload_n 0, 1) := by decide +kernel
theorem dX1_init_1 : decode cX1_init 1 = .ok (.invokespecial 3, 3) := by decide +kernel
theorem dX1_init_4 : decode cX1_init 4 = .ok (.aload_n 0, 1) := by decide +kernel
theorem dX1_init_5 : decode cX1_init 5 = .ok (.bipush 8, 2) := by decide +kernel
theorem dX1_init_7 : decode cX1_init 7 = .ok (.newarray .int, 2) := by decide +kernel
theorem dX1_init_9 : decode cX1_init 9 = .ok (.putfield 9, 3) := by decide +kernel
theorem dX1_init_12 : decode cX1_init 12 = .ok (.aload_n 0, 1) := by decide +kernel
theorem dX1_init_13 : decode cX1_init 13 = .ok (.iconst 5, 1) := by decide +kernel
theorem dX1_init_14 : decode cX1_init 14 = .ok (.newarray .int, 2) := by decide +kernel
theorem dX1_init_16 : decode cX1_init 16 = .ok (.putfield 15, 3) := by decide +kernel
theorem dX1_init_19 : decode cX1_init 19 = .ok (.aload_n 0, 1) := by decide +kernel
theorem dX1_init_20 : decode cX1_init 20 = .ok (.bipush 64, 2) := by decide +kernel
theorem dX1_init_22 : decode cX1_init 22 = .ok (.newarray .int, 2) := by decide +kernel
theorem dX1_init_24 : decode cX1_init 24 = .ok (.putfield 18, 3) := by decide +kernel
theorem dX1_init_27 : decode cX1_init 27 = .ok (.aload_n 0, 1) := by decide +kernel
theorem dX1_init_28 : decode cX1_init 28 = .ok (.iconst 0, 1) := by decide +kernel
theorem dX1_init_29 : decode cX1_init 29 = .ok (.putfield 21, 3) := by decide +kernel
theorem dX1_init_32 : decode cX1_init 32 = .ok (.return_, 1) := by decide +kernel
theorem dX1_divide_0 : decode cX1_divide 0 = .ok (.aload_n 0, 1) := by decide +kernel
theorem dX1_divide_1 : decode cX1_divide 1 = .ok (.aload_n 1, 1) := by decide +kernel
theorem dX1_divide_2 : decode cX1_divide 2 = .ok (.iload_n 2, 1) := by decide +kernel
theorem dX1_divide_3 : decode cX1_divide 3 = .ok (.invokevirtual 25, 3) := by decide +kernel
theorem dX1_divide_6 : decode cX1_divide 6 = .ok (.aload_n 0, 1) := by decide +kernel
theorem dX1_divide_7 : decode cX1_divide 7 = .ok (.aload_n 1, 1) := by decide +kernel
theorem dX1_divide_8 : decode cX1_divide 8 = .ok (.invokevirtual 29, 3) := by decide +kernel
theorem dX1_divide_11 : decode cX1_divide 11 = .ok (.aload_n 3, 1) := by decide +kernel
theorem dX1_divide_12 : decode cX1_divide 12 = .ok (.aload_n 0, 1) := by decide +kernel
theorem dX1_divide_13 : decode cX1_divide 13 = .ok (.getfield 21, 3) := by decide +kernel
theorem dX1_divide_16 : decode cX1_divide 16 = .ok (.putfield 33, 3) := by decide +kernel
theorem dX1_divide_19 : decode cX1_divide 19 = .ok (.iconst 0, 1) := by decide +kernel
theorem dX1_divide_20 : decode cX1_divide 20 = .ok (.istore 4, 2) := by decide +kernel
theorem dX1_divide_22 : decode cX1_divide 22 = .ok (.iload 4, 2) := by decide +kernel
theorem dX1_divide_24 : decode cX1_divide 24 = .ok (.aload_n 1, 1) := by decide +kernel
theorem dX1_divide_25 : decode cX1_divide 25 = .ok (.getfield 33, 3) := by decide +kernel
theorem dX1_divide_28 : decode cX1_divide 28 = .ok (.if_icmp .ge 57, 3) := by decide +kernel
theorem dX1_divide_31 : decode cX1_divide 31 = .ok (.iconst 0, 1) := by decide +kernel
theorem dX1_divide_32 : decode cX1_divide 32 = .ok (.istore 5, 2) := by decide +kernel
theorem dX1_divide_34 : decode cX1_divide 34 = .ok (.iload 5, 2) := by decide +kernel
theorem dX1_divide_36 : decode cX1_divide 36 = .ok (.aload_n 1, 1) := by decide +kernel
theorem dX1_divide_37 : decode cX1_divide 37 = .ok (.getfield 33, 3) := by decide +kernel
theorem dX1_divide_40 : decode cX1_divide 40 = .ok (.if_icmp .ge 39, 3) := by decide +kernel
theorem dX1_divide_43 : decode cX1_divide 43 = .ok (.aload_n 3, 1) := by decide +kernel
theorem dX1_divide_44 : decode cX1_divide 44 = .ok (.aload_n 0, 1) := by decide +kernel
theorem dX1_divide_45 : decode cX1_divide 45 = .ok (.getfield 9, 3) := by decide +kernel
theorem dX1_divide_48 : decode cX1_divide 48 = .ok (.iload 4, 2) := by decide +kernel
theorem dX1_divide_50 : decode cX1_divide 50 = .ok (.iaload, 1) := by decide +kernel
theorem dX1_divide_51 : decode cX1_divide 51 = .ok (.aload_n 0, 1) := by decide +kernel
theorem dX1_divide_52 : decode cX1_divide 52 = .ok (.getfield 9, 3) := by decide +kernel
theorem dX1_divide_55 : decode cX1_divide 55 = .ok (.iload 5, 2) := by decide +kernel
theorem dX1_divide_57 : decode cX1_divide 57 = .ok (.iaload, 1) := by decide +kernel
theorem dX1_divide_58 : decode cX1_divide 58 = .ok (.aload_n 0, 1) := by decide +kernel
theorem dX1_divide_59 : decode cX1_divide 59 = .ok (.aload_n 1, 1) := by decide +kernel
theorem dX1_divide_60 : decode cX1_divide 60 = .ok (.iload 4, 2) := by decide +kernel
theorem dX1_divide_62 : decode cX1_divide 62 = .ok (.iload 5, 2) := by decide +kernel
theorem dX1_divide_64 : decode cX1_divide 64 = .ok (.invokevirtual 36, 3) := by decide +kernel
theorem dX1_divide_67 : decode cX1_divide 67 = .ok (.invokevirtual 40, 3) := by decide +kernel
theorem dX1_divide_70 : decode cX1_divide 70 = .ok (.invokevirtual 44, 3) := by decide +kernel
theorem dX1_divide_73 : decode cX1_divide 73 = .ok (.iinc 5 1, 3) := by decide +kernel
theorem dX1_divide_76 : decode cX1_divide 76 = .ok (.goto (-42), 3) := by decide +kernel
theorem dX1_divide_79 : decode cX1_divide 79 = .ok (.iinc 4 1, 3) := by decide +kernel
theorem dX1_divide_82 : decode cX1_divide 82 = .ok (.goto (-60), 3) := by decide +kernel
theorem dX1_divide_85 : decode cX1_divide 85 = .ok (.aload_n 3, 1) := by decide +kernel
theorem dX1_divide_86 : decode cX1_divide 86 = .ok (.invokevirtual 48, 3) := by decide +kernel
theorem dX1_divide_89 : decode cX1_divide 89 = .ok (.return_, 1) := by decide +kernel
theorem dX1_findBlocks_0 : decode cX1_findBlocks 0 = .ok (.aload_n 0, 1) := by decide +kernel
theorem dX1_findBlocks_1 : decode cX1_findBlocks 1 = .ok (.iconst 0, 1) := by decide +kernel
theorem dX1_findBlocks_2 : decode cX1_findBlocks 2 = .ok (.putfield 21, 3) := by decide +kernel
theorem dX1_findBlocks_5 : decode cX1_findBlocks 5 = .ok (.iconst 0, 1) := by decide +kernel
theorem dX1_findBlocks_6 : decode cX1_findBlocks 6 = .ok (.istore_n 3, 1) := by decide +kernel
theorem dX1_findBlocks_7 : decode cX1_findBlocks 7 = .ok (.iload_n 3, 1) := by decide +kernel
theorem dX1_findBlocks_8 : decode cX1_findBlocks 8 = .ok (.aload_n 1, 1) := by decide +kernel
theorem dX1_findBlocks_9 : decode cX1_findBlocks 9 = .ok (.getfield 33, 3) := by decide +kernel
theorem dX1_findBlocks_12 : decode cX1_findBlocks 12 = .ok (.if_icmp .ge 84, 3) := by decide +kernel
theorem dX1_findBlocks_15 : decode cX1_findBlocks 15 = .ok (.aload_n 0, 1) := by decide +kernel
theorem dX1_findBlocks_16 : decode cX1_findBlocks 16 = .ok (.getfield 9, 3) := by decide +kernel
theorem dX1_findBlocks_19 : decode cX1_findBlocks 19 = .ok (.iload_n 3, 1) := by decide +kernel
theorem dX1_findBlocks_20 : decode cX1_findBlocks 20 = .ok (.aload_n 0, 1) := by decide +kernel
theorem dX1_findBlocks_21 : decode cX1_findBlocks 21 = .ok (.getfield 21, 3) := by decide +kernel
theorem dX1_findBlocks_24 : decode cX1_findBlocks 24 = .ok (.iastore, 1) := by decide +kernel
theorem dX1_findBlocks_25 : decode cX1_findBlocks 25 = .ok (.iconst 0, 1) := by decide +kernel
theorem dX1_findBlocks_26 : decode cX1_findBlocks 26 = .ok (.istore 4, 2) := by decide +kernel
theorem dX1_findBlocks_28 : decode cX1_findBlocks 28 = .ok (.iload 4, 2) := by decide +kernel
theorem dX1_findBlocks_30 : decode cX1_findBlocks 30 = .ok (.iload_n 3, 1) := by decide +kernel
theorem dX1_findBlocks_31 : decode cX1_findBlocks 31 = .ok (.if_icmp .ge 36, 3) := by decide +kernel
theorem dX1_findBlocks_34 : decode cX1_findBlocks 34 = .ok (.iload_n 2, 1) := by decide +kernel
theorem dX1_findBlocks_35 : decode cX1_findBlocks 35 = .ok (.aload_n 1, 1) := by decide +kernel
theorem dX1_findBlocks_36 : decode cX1_findBlocks 36 = .ok (.iload 4, 2) := by decide +kernel
theorem dX1_findBlocks_38 : decode cX1_findBlocks 38 = .ok (.iload_n 3, 1) := by decide +kernel
theorem dX1_findBlocks_39 : decode cX1_findBlocks 39 = .ok (.invokevirtual 36, 3) := by decide +kernel
theorem dX1_findBlocks_42 : decode cX1_findBlocks 42 = .ok (.invokestatic 51, 3) := by decide +kernel
theorem dX1_findBlocks_45 : decode cX1_findBlocks 45 = .ok (.ifCond .eq 16, 3) := by decide +kernel
theorem dX1_findBlocks_48 : decode cX1_findBlocks 48 = .ok (.aload_n 0, 1) := by decide +kernel
theorem dX1_findBlocks_49 : decode cX1_findBlocks 49 = .ok (.getfield 9, 3) := by decide +kernel
theorem dX1_findBlocks_52 : decode cX1_findBlocks 52 = .ok (.iload_n 3, 1) := by decide +kernel
theorem dX1_findBlocks_53 : decode cX1_findBlocks 53 = .ok (.aload_n 0, 1) := by decide +kernel
theorem dX1_findBlocks_54 : decode cX1_findBlocks 54 = .ok (.getfield 9, 3) := by decide +kernel
theorem dX1_findBlocks_57 : decode cX1_findBlocks 57 = .ok (.iload 4, 2) := by decide +kernel
theorem dX1_findBlocks_59 : decode cX1_findBlocks 59 = .ok (.iaload, 1) := by decide +kernel
theorem dX1_findBlocks_60 : decode cX1_findBlocks 60 = .ok (.iastore, 1) := by decide +kernel
theorem dX1_findBlocks_61 : decode cX1_findBlocks 61 = .ok (.iinc 4 1, 3) := by decide +kernel
theorem dX1_findBlocks_64 : decode cX1_findBlocks 64 = .ok (.goto (-36), 3) := by decide +kernel
theorem dX1_findBlocks_67 : decode cX1_findBlocks 67 = .ok (.aload_n 0, 1) := by decide +kernel
theorem dX1_findBlocks_68 : decode cX1_findBlocks 68 = .ok (.getfield 9, 3) := by decide +kernel
theorem dX1_findBlocks_71 : decode cX1_findBlocks 71 = .ok (.iload_n 3, 1) := by decide +kernel
theorem dX1_findBlocks_72 : decode cX1_findBlocks 72 = .ok (.iaload, 1) := by decide +kernel
theorem dX1_findBlocks_73 : decode cX1_findBlocks 73 = .ok (.aload_n 0, 1) := by decide +kernel
theorem dX1_findBlocks_74 : decode cX1_findBlocks 74 = .ok (.getfield 21, 3) := by decide +kernel
theorem dX1_findBlocks_77 : decode cX1_findBlocks 77 = .ok (.if_icmp .ne 13, 3) := by decide +kernel
theorem dX1_findBlocks_80 : decode cX1_findBlocks 80 = .ok (.aload_n 0, 1) := by decide +kernel
theorem dX1_findBlocks_81 : decode cX1_findBlocks 81 = .ok (.dup, 1) := by decide +kernel
theorem dX1_findBlocks_82 : decode cX1_findBlocks 82 = .ok (.getfield 21, 3) := by decide +kernel
theorem dX1_findBlocks_85 : decode cX1_findBlocks 85 = .ok (.iconst 1, 1) := by decide +kernel
theorem dX1_findBlocks_86 : decode cX1_findBlocks 86 = .ok (.iadd, 1) := by decide +kernel
theorem dX1_findBlocks_87 : decode cX1_findBlocks 87 = .ok (.putfield 21, 3) := by decide +kernel
theorem dX1_findBlocks_90 : decode cX1_findBlocks 90 = .ok (.iinc 3 1, 3) := by decide +kernel
theorem dX1_findBlocks_93 : decode cX1_findBlocks 93 = .ok (.goto (-86), 3) := by decide +kernel
theorem dX1_findBlocks_96 : decode cX1_findBlocks 96 = .ok (.return_, 1) := by decide +kernel
theorem dX1_joinColours_0 : decode cX1_joinColours 0 = .ok (.iconst 0, 1) := by decide +kernel
theorem dX1_joinColours_1 : decode cX1_joinColours 1 = .ok (.istore_n 2, 1) := by decide +kernel
theorem dX1_joinColours_2 : decode cX1_joinColours 2 = .ok (.iload_n 2, 1) := by decide +kernel
theorem dX1_joinColours_3 : decode cX1_joinColours 3 = .ok (.iconst 5, 1) := by decide +kernel
theorem dX1_joinColours_4 : decode cX1_joinColours 4 = .ok (.if_icmp .ge 16, 3) := by decide +kernel
theorem dX1_joinColours_7 : decode cX1_joinColours 7 = .ok (.aload_n 0, 1) := by decide +kernel
theorem dX1_joinColours_8 : decode cX1_joinColours 8 = .ok (.getfield 15, 3) := by decide +kernel
theorem dX1_joinColours_11 : decode cX1_joinColours 11 = .ok (.iload_n 2, 1) := by decide +kernel
theorem dX1_joinColours_12 : decode cX1_joinColours 12 = .ok (.iload_n 2, 1) := by decide +kernel
theorem dX1_joinColours_13 : decode cX1_joinColours 13 = .ok (.iastore, 1) := by decide +kernel
theorem dX1_joinColours_14 : decode cX1_joinColours 14 = .ok (.iinc 2 1, 3) := by decide +kernel
theorem dX1_joinColours_17 : decode cX1_joinColours 17 = .ok (.goto (-15), 3) := by decide +kernel
theorem dX1_joinColours_20 : decode cX1_joinColours 20 = .ok (.iconst 0, 1) := by decide +kernel
theorem dX1_joinColours_21 : decode cX1_joinColours 21 = .ok (.istore_n 2, 1) := by decide +kernel
theorem dX1_joinColours_22 : decode cX1_joinColours 22 = .ok (.iload_n 2, 1) := by decide +kernel
theorem dX1_joinColours_23 : decode cX1_joinColours 23 = .ok (.bipush 64, 2) := by decide +kernel
theorem dX1_joinColours_25 : decode cX1_joinColours 25 = .ok (.if_icmp .ge 16, 3) := by decide +kernel
theorem dX1_joinColours_28 : decode cX1_joinColours 28 = .ok (.aload_n 0, 1) := by decide +kernel
theorem dX1_joinColours_29 : decode cX1_joinColours 29 = .ok (.getfield 18, 3) := by decide +kernel
theorem dX1_joinColours_32 : decode cX1_joinColours 32 = .ok (.iload_n 2, 1) := by decide +kernel
theorem dX1_joinColours_33 : decode cX1_joinColours 33 = .ok (.iconst (-1), 1) := by decide +kernel
theorem dX1_joinColours_34 : decode cX1_joinColours 34 = .ok (.iastore, 1) := by decide +kernel
theorem dX1_joinColours_35 : decode cX1_joinColours 35 = .ok (.iinc 2 1, 3) := by decide +kernel
theorem dX1_joinColours_38 : decode cX1_joinColours 38 = .ok (.goto (-16), 3) := by decide +kernel
theorem dX1_joinColours_41 : decode cX1_joinColours 41 = .ok (.iconst 0, 1) := by decide +kernel
theorem dX1_joinColours_42 : decode cX1_joinColours 42 = .ok (.istore_n 2, 1) := by decide +kernel
theorem dX1_joinColours_43 : decode cX1_joinColours 43 = .ok (.iload_n 2, 1) := by decide +kernel
theorem dX1_joinColours_44 : decode cX1_joinColours 44 = .ok (.aload_n 1, 1) := by decide +kernel
theorem dX1_joinColours_45 : decode cX1_joinColours 45 = .ok (.getfield 33, 3) := by decide +kernel
theorem dX1_joinColours_48 : decode cX1_joinColours 48 = .ok (.if_icmp .ge 97, 3) := by decide +kernel
theorem dX1_joinColours_51 : decode cX1_joinColours 51 = .ok (.iconst 0, 1) := by decide +kernel
theorem dX1_joinColours_52 : decode cX1_joinColours 52 = .ok (.istore_n 3, 1) := by decide +kernel
theorem dX1_joinColours_53 : decode cX1_joinColours 53 = .ok (.iload_n 3, 1) := by decide +kernel
theorem dX1_joinColours_54 : decode cX1_joinColours 54 = .ok (.aload_n 1, 1) := by decide +kernel
theorem dX1_joinColours_55 : decode cX1_joinColours 55 = .ok (.getfield 33, 3) := by decide +kernel
theorem dX1_joinColours_58 : decode cX1_joinColours 58 = .ok (.if_icmp .ge 81, 3) := by decide +kernel
theorem dX1_joinColours_61 : decode cX1_joinColours 61 = .ok (.aload_n 0, 1) := by decide +kernel
theorem dX1_joinColours_62 : decode cX1_joinColours 62 = .ok (.getfield 9, 3) := by decide +kernel
theorem dX1_joinColours_65 : decode cX1_joinColours 65 = .ok (.iload_n 2, 1) := by decide +kernel
theorem dX1_joinColours_66 : decode cX1_joinColours 66 = .ok (.iaload, 1) := by decide +kernel
theorem dX1_joinColours_67 : decode cX1_joinColours 67 = .ok (.bipush 8, 2) := by decide +kernel
theorem dX1_joinColours_69 : decode cX1_joinColours 69 = .ok (.imul, 1) := by decide +kernel
theorem dX1_joinColours_70 : decode cX1_joinColours 70 = .ok (.aload_n 0, 1) := by decide +kernel
theorem dX1_joinColours_71 : decode cX1_joinColours 71 = .ok (.getfield 9, 3) := by decide +kernel
theorem dX1_joinColours_74 : decode cX1_joinColours 74 = .ok (.iload_n 3, 1) := by decide +kernel
theorem dX1_joinColours_75 : decode cX1_joinColours 75 = .ok (.iaload, 1) := by decide +kernel
theorem dX1_joinColours_76 : decode cX1_joinColours 76 = .ok (.iadd, 1) := by decide +kernel
theorem dX1_joinColours_77 : decode cX1_joinColours 77 = .ok (.istore 4, 2) := by decide +kernel
theorem dX1_joinColours_79 : decode cX1_joinColours 79 = .ok (.aload_n 0, 1) := by decide +kernel
theorem dX1_joinColours_80 : decode cX1_joinColours 80 = .ok (.getfield 18, 3) := by decide +kernel
theorem dX1_joinColours_83 : decode cX1_joinColours 83 = .ok (.iload 4, 2) := by decide +kernel
theorem dX1_joinColours_85 : decode cX1_joinColours 85 = .ok (.iaload, 1) := by decide +kernel
theorem dX1_joinColours_86 : decode cX1_joinColours 86 = .ok (.iconst (-1), 1) := by decide +kernel
theorem dX1_joinColours_87 : decode cX1_joinColours 87 = .ok (.if_icmp .ne 19, 3) := by decide +kernel
theorem dX1_joinColours_90 : decode cX1_joinColours 90 = .ok (.aload_n 0, 1) := by decide +kernel
theorem dX1_joinColours_91 : decode cX1_joinColours 91 = .ok (.getfield 18, 3) := by decide +kernel
theorem dX1_joinColours_94 : decode cX1_joinColours 94 = .ok (.iload 4, 2) := by decide +kernel
theorem dX1_joinColours_96 : decode cX1_joinColours 96 = .ok (.aload_n 1, 1) := by decide +kernel
theorem dX1_joinColours_97 : decode cX1_joinColours 97 = .ok (.iload_n 2, 1) := by decide +kernel
theorem dX1_joinColours_98 : decode cX1_joinColours 98 = .ok (.iload_n 3, 1) := by decide +kernel
theorem dX1_joinColours_99 : decode cX1_joinColours 99 = .ok (.invokevirtual 36, 3) := by decide +kernel
theorem dX1_joinColours_102 : decode cX1_joinColours 102 = .ok (.iastore, 1) := by decide +kernel
theorem dX1_joinColours_103 : decode cX1_joinColours 103 = .ok (.goto 30, 3) := by decide +kernel
theorem dX1_joinColours_106 : decode cX1_joinColours 106 = .ok (.aload_n 0, 1) := by decide +kernel
theorem dX1_joinColours_107 : decode cX1_joinColours 107 = .ok (.aload_n 0, 1) := by decide +kernel
theorem dX1_joinColours_108 : decode cX1_joinColours 108 = .ok (.getfield 15, 3) := by decide +kernel
theorem dX1_joinColours_111 : decode cX1_joinColours 111 = .ok (.aload_n 0, 1) := by decide +kernel
theorem dX1_joinColours_112 : decode cX1_joinColours 112 = .ok (.getfield 18, 3) := by decide +kernel
theorem dX1_joinColours_115 : decode cX1_joinColours 115 = .ok (.iload 4, 2) := by decide +kernel
theorem dX1_joinColours_117 : decode cX1_joinColours 117 = .ok (.iaload, 1) := by decide +kernel
theorem dX1_joinColours_118 : decode cX1_joinColours 118 = .ok (.iaload, 1) := by decide +kernel
theorem dX1_joinColours_119 : decode cX1_joinColours 119 = .ok (.aload_n 0, 1) := by decide +kernel
theorem dX1_joinColours_120 : decode cX1_joinColours 120 = .ok (.getfield 15, 3) := by decide +kernel
theorem dX1_joinColours_123 : decode cX1_joinColours 123 = .ok (.aload_n 1, 1) := by decide +kernel
theorem dX1_joinColours_124 : decode cX1_joinColours 124 = .ok (.iload_n 2, 1) := by decide +kernel
theorem dX1_joinColours_125 : decode cX1_joinColours 125 = .ok (.iload_n 3, 1) := by decide +kernel
theorem dX1_joinColours_126 : decode cX1_joinColours 126 = .ok (.invokevirtual 36, 3) := by decide +kernel
theorem dX1_joinColours_129 : decode cX1_joinColours 129 = .ok (.iaload, 1) := by decide +kernel
theorem dX1_joinColours_130 : decode cX1_joinColours 130 = .ok (.invokevirtual 55, 3) := by decide +kernel
theorem dX1_joinColours_133 : decode cX1_joinColours 133 = .ok (.iinc 3 1, 3) := by decide +kernel
theorem dX1_joinColours_136 : decode cX1_joinColours 136 = .ok (.goto (-83), 3) := by decide +kernel
theorem dX1_joinColours_139 : decode cX1_joinColours 139 = .ok (.iinc 2 1, 3) := by decide +kernel
theorem dX1_joinColours_142 : decode cX1_joinColours 142 = .ok (.goto (-99), 3) := by decide +kernel
theorem dX1_joinColours_145 : decode cX1_joinColours 145 = .ok (.return_, 1) := by decide +kernel
theorem dX1_join_0 : decode cX1_join 0 = .ok (.iload_n 1, 1) := by decide +kernel
theorem dX1_join_1 : decode cX1_join 1 = .ok (.iload_n 2, 1) := by decide +kernel
theorem dX1_join_2 : decode cX1_join 2 = .ok (.invokestatic 59, 3) := by decide +kernel
theorem dX1_join_5 : decode cX1_join 5 = .ok (.istore_n 3, 1) := by decide +kernel
theorem dX1_join_6 : decode cX1_join 6 = .ok (.iconst 0, 1) := by decide +kernel
theorem dX1_join_7 : decode cX1_join 7 = .ok (.istore 4, 2) := by decide +kernel
theorem dX1_join_9 : decode cX1_join 9 = .ok (.iload 4, 2) := by decide +kernel
theorem dX1_join_11 : decode cX1_join 11 = .ok (.iconst 5, 1) := by decide +kernel
theorem dX1_join_12 : decode cX1_join 12 = .ok (.if_icmp .ge 39, 3) := by decide +kernel
theorem dX1_join_15 : decode cX1_join 15 = .ok (.aload_n 0, 1) := by decide +kernel
theorem dX1_join_16 : decode cX1_join 16 = .ok (.getfield 15, 3) := by decide +kernel
theorem dX1_join_19 : decode cX1_join 19 = .ok (.iload 4, 2) := by decide +kernel
theorem dX1_join_21 : decode cX1_join 21 = .ok (.iaload, 1) := by decide +kernel
theorem dX1_join_22 : decode cX1_join 22 = .ok (.iload_n 1, 1) := by decide +kernel
theorem dX1_join_23 : decode cX1_join 23 = .ok (.if_icmp .eq 14, 3) := by decide +kernel
theorem dX1_join_26 : decode cX1_join 26 = .ok (.aload_n 0, 1) := by decide +kernel
theorem dX1_join_27 : decode cX1_join 27 = .ok (.getfield 15, 3) := by decide +kernel
theorem dX1_join_30 : decode cX1_join 30 = .ok (.iload 4, 2) := by decide +kernel
theorem dX1_join_32 : decode cX1_join 32 = .ok (.iaload, 1) := by decide +kernel
theorem dX1_join_33 : decode cX1_join 33 = .ok (.iload_n 2, 1) := by decide +kernel
theorem dX1_join_34 : decode cX1_join 34 = .ok (.if_icmp .ne 11, 3) := by decide +kernel
theorem dX1_join_37 : decode cX1_join 37 = .ok (.aload_n 0, 1) := by decide +kernel
theorem dX1_join_38 : decode cX1_join 38 = .ok (.getfield 15, 3) := by decide +kernel
theorem dX1_join_41 : decode cX1_join 41 = .ok (.iload 4, 2) := by decide +kernel
theorem dX1_join_43 : decode cX1_join 43 = .ok (.iload_n 3, 1) := by decide +kernel
theorem dX1_join_44 : decode cX1_join 44 = .ok (.iastore, 1) := by decide +kernel
theorem dX1_join_45 : decode cX1_join 45 = .ok (.iinc 4 1, 3) := by decide +kernel
theorem dX1_join_48 : decode cX1_join 48 = .ok (.goto (-39), 3) := by decide +kernel
theorem dX1_join_51 : decode cX1_join 51 = .ok (.return_, 1) := by decide +kernel
theorem dX1_kindOf_0 : decode cX1_kindOf 0 = .ok (.iconst 0, 1) := by decide +kernel
theorem dX1_kindOf_1 : decode cX1_kindOf 1 = .ok (.istore_n 2, 1) := by decide +kernel
theorem dX1_kindOf_2 : decode cX1_kindOf 2 = .ok (.iconst 0, 1) := by decide +kernel
theorem dX1_kindOf_3 : decode cX1_kindOf 3 = .ok (.istore_n 3, 1) := by decide +kernel
theorem dX1_kindOf_4 : decode cX1_kindOf 4 = .ok (.iload_n 3, 1) := by decide +kernel
theorem dX1_kindOf_5 : decode cX1_kindOf 5 = .ok (.aload_n 0, 1) := by decide +kernel
theorem dX1_kindOf_6 : decode cX1_kindOf 6 = .ok (.getfield 15, 3) := by decide +kernel
theorem dX1_kindOf_9 : decode cX1_kindOf 9 = .ok (.iload_n 1, 1) := by decide +kernel
theorem dX1_kindOf_10 : decode cX1_kindOf 10 = .ok (.iaload, 1) := by decide +kernel
theorem dX1_kindOf_11 : decode cX1_kindOf 11 = .ok (.if_icmp .ge 22, 3) := by decide +kernel
theorem dX1_kindOf_14 : decode cX1_kindOf 14 = .ok (.aload_n 0, 1) := by decide +kernel
theorem dX1_kindOf_15 : decode cX1_kindOf 15 = .ok (.getfield 15, 3) := by decide +kernel
theorem dX1_kindOf_18 : decode cX1_kindOf 18 = .ok (.iload_n 3, 1) := by decide +kernel
theorem dX1_kindOf_19 : decode cX1_kindOf 19 = .ok (.iaload, 1) := by decide +kernel
theorem dX1_kindOf_20 : decode cX1_kindOf 20 = .ok (.iload_n 3, 1) := by decide +kernel
theorem dX1_kindOf_21 : decode cX1_kindOf 21 = .ok (.if_icmp .ne 6, 3) := by decide +kernel
theorem dX1_kindOf_24 : decode cX1_kindOf 24 = .ok (.iinc 2 1, 3) := by decide +kernel
theorem dX1_kindOf_27 : decode cX1_kindOf 27 = .ok (.iinc 3 1, 3) := by decide +kernel
theorem dX1_kindOf_30 : decode cX1_kindOf 30 = .ok (.goto (-26), 3) := by decide +kernel
theorem dX1_kindOf_33 : decode cX1_kindOf 33 = .ok (.iload_n 2, 1) := by decide +kernel
theorem dX1_kindOf_34 : decode cX1_kindOf 34 = .ok (.ireturn, 1) := by decide +kernel
