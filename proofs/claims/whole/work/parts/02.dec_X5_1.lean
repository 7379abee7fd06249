-- decode rows (by program)
theorem dX5_turns_70 : decode cX5_turns 70 = .ok (.goto 4, 3) := by decide +kernel
theorem dX5_turns_73 : decode cX5_turns 73 = .ok (.iconst 0, 1) := by decide +kernel
theorem dX5_turns_74 : decode cX5_turns 74 = .ok (.iand, 1) := by decide +kernel
theorem dX5_turns_75 : decode cX5_turns 75 = .ok (.istore_n 2, 1) := by decide +kernel
theorem dX5_turns_76 : decode cX5_turns 76 = .ok (.iinc 5 1, 3) := by decide +kernel
theorem dX5_turns_79 : decode cX5_turns 79 = .ok (.goto (-38), 3) := by decide +kernel
theorem dX5_turns_82 : decode cX5_turns 82 = .ok (.iinc 4 1, 3) := by decide +kernel
theorem dX5_turns_85 : decode cX5_turns 85 = .ok (.goto (-53), 3) := by decide +kernel
theorem dX5_turns_88 : decode cX5_turns 88 = .ok (.iinc 3 1, 3) := by decide +kernel
theorem dX5_turns_91 : decode cX5_turns 91 = .ok (.goto (-67), 3) := by decide +kernel
theorem dX5_turns_94 : decode cX5_turns 94 = .ok (.iload_n 2, 1) := by decide +kernel
theorem dX5_turns_95 : decode cX5_turns 95 = .ok (.ifCond .eq 7, 3) := by decide +kernel
theorem dX5_turns_98 : decode cX5_turns 98 = .ok (.iconst 1, 1) := by decide +kernel
theorem dX5_turns_99 : decode cX5_turns 99 = .ok (.goto 4, 3) := by decide +kernel
theorem dX5_turns_102 : decode cX5_turns 102 = .ok (.iconst 0, 1) := by decide +kernel
theorem dX5_turns_103 : decode cX5_turns 103 = .ok (.ireturn, 1) := by decide +kernel
theorem dX5_grown_0 : decode cX5_grown 0 = .ok (.aload_n 0, 1) := by decide +kernel
theorem dX5_grown_1 : decode cX5_grown 1 = .ok (.invokevirtual 61, 3) := by decide +kernel
theorem dX5_grown_4 : decode cX5_grown 4 = .ok (.istore_n 2, 1) := by decide +kernel
theorem dX5_grown_5 : decode cX5_grown 5 = .ok (.iload_n 1, 1) := by decide +kernel
theorem dX5_grown_6 : decode cX5_grown 6 = .ok (.iconst 1, 1) := by decide +kernel
theorem dX5_grown_7 : decode cX5_grown 7 = .ok (.ior, 1) := by decide +kernel
theorem dX5_grown_8 : decode cX5_grown 8 = .ok (.istore_n 3, 1) := by decide +kernel
theorem dX5_grown_9 : decode cX5_grown 9 = .ok (.iconst 0, 1) := by decide +kernel
theorem dX5_grown_10 : decode cX5_grown 10 = .ok (.istore 4, 2) := by decide +kernel
theorem dX5_grown_12 : decode cX5_grown 12 = .ok (.iload 4, 2) := by decide +kernel
theorem dX5_grown_14 : decode cX5_grown 14 = .ok (.iload_n 2, 1) := by decide +kernel
theorem dX5_grown_15 : decode cX5_grown 15 = .ok (.if_icmp .ge 95, 3) := by decide +kernel
theorem dX5_grown_18 : decode cX5_grown 18 = .ok (.iconst 0, 1) := by decide +kernel
theorem dX5_grown_19 : decode cX5_grown 19 = .ok (.istore 5, 2) := by decide +kernel
theorem dX5_grown_21 : decode cX5_grown 21 = .ok (.iload 5, 2) := by decide +kernel
theorem dX5_grown_23 : decode cX5_grown 23 = .ok (.iload_n 2, 1) := by decide +kernel
theorem dX5_grown_24 : decode cX5_grown 24 = .ok (.if_icmp .ge 80, 3) := by decide +kernel
theorem dX5_grown_27 : decode cX5_grown 27 = .ok (.iconst 0, 1) := by decide +kernel
theorem dX5_grown_28 : decode cX5_grown 28 = .ok (.istore 6, 2) := by decide +kernel
theorem dX5_grown_30 : decode cX5_grown 30 = .ok (.iload 6, 2) := by decide +kernel
theorem dX5_grown_32 : decode cX5_grown 32 = .ok (.iload_n 2, 1) := by decide +kernel
theorem dX5_grown_33 : decode cX5_grown 33 = .ok (.if_icmp .ge 65, 3) := by decide +kernel
theorem dX5_grown_36 : decode cX5_grown 36 = .ok (.iload_n 1, 1) := by decide +kernel
theorem dX5_grown_37 : decode cX5_grown 37 = .ok (.iload 4, 2) := by decide +kernel
theorem dX5_grown_39 : decode cX5_grown 39 = .ok (.ishr, 1) := by decide +kernel
theorem dX5_grown_40 : decode cX5_grown 40 = .ok (.iconst 1, 1) := by decide +kernel
theorem dX5_grown_41 : decode cX5_grown 41 = .ok (.iand, 1) := by decide +kernel
theorem dX5_grown_42 : decode cX5_grown 42 = .ok (.iconst 1, 1) := by decide +kernel
theorem dX5_grown_43 : decode cX5_grown 43 = .ok (.if_icmp .ne 30, 3) := by decide +kernel
theorem dX5_grown_46 : decode cX5_grown 46 = .ok (.iload_n 1, 1) := by decide +kernel
theorem dX5_grown_47 : decode cX5_grown 47 = .ok (.iload 5, 2) := by decide +kernel
theorem dX5_grown_49 : decode cX5_grown 49 = .ok (.ishr, 1) := by decide +kernel
theorem dX5_grown_50 : decode cX5_grown 50 = .ok (.iconst 1, 1) := by decide +kernel
theorem dX5_grown_51 : decode cX5_grown 51 = .ok (.iand, 1) := by decide +kernel
theorem dX5_grown_52 : decode cX5_grown 52 = .ok (.iconst 1, 1) := by decide +kernel
theorem dX5_grown_53 : decode cX5_grown 53 = .ok (.if_icmp .ne 20, 3) := by decide +kernel
theorem dX5_grown_56 : decode cX5_grown 56 = .ok (.aload_n 0, 1) := by decide +kernel
theorem dX5_grown_57 : decode cX5_grown 57 = .ok (.iload 4, 2) := by decide +kernel
theorem dX5_grown_59 : decode cX5_grown 59 = .ok (.iload 5, 2) := by decide +kernel
theorem dX5_grown_61 : decode cX5_grown 61 = .ok (.iload 6, 2) := by decide +kernel
theorem dX5_grown_63 : decode cX5_grown 63 = .ok (.invokevirtual 78, 3) := by decide +kernel
theorem dX5_grown_66 : decode cX5_grown 66 = .ok (.ifCond .le 7, 3) := by decide +kernel
theorem dX5_grown_69 : decode cX5_grown 69 = .ok (.iconst 1, 1) := by decide +kernel
theorem dX5_grown_70 : decode cX5_grown 70 = .ok (.goto 4, 3) := by decide +kernel
theorem dX5_grown_73 : decode cX5_grown 73 = .ok (.iconst 0, 1) := by decide +kernel
theorem dX5_grown_74 : decode cX5_grown 74 = .ok (.istore 7, 2) := by decide +kernel
theorem dX5_grown_76 : decode cX5_grown 76 = .ok (.iload_n 3, 1) := by decide +kernel
theorem dX5_grown_77 : decode cX5_grown 77 = .ok (.iload 7, 2) := by decide +kernel
theorem dX5_grown_79 : decode cX5_grown 79 = .ok (.ifCond .eq 10, 3) := by decide +kernel
theorem dX5_grown_82 : decode cX5_grown 82 = .ok (.iconst 1, 1) := by decide +kernel
theorem dX5_grown_83 : decode cX5_grown 83 = .ok (.iload 6, 2) := by decide +kernel
theorem dX5_grown_85 : decode cX5_grown 85 = .ok (.ishl, 1) := by decide +kernel
theorem dX5_grown_86 : decode cX5_grown 86 = .ok (.goto 4, 3) := by decide +kernel
theorem dX5_grown_89 : decode cX5_grown 89 = .ok (.iconst 0, 1) := by decide +kernel
theorem dX5_grown_90 : decode cX5_grown 90 = .ok (.ior, 1) := by decide +kernel
theorem dX5_grown_91 : decode cX5_grown 91 = .ok (.istore_n 3, 1) := by decide +kernel
theorem dX5_grown_92 : decode cX5_grown 92 = .ok (.iinc 6 1, 3) := by decide +kernel
theorem dX5_grown_95 : decode cX5_grown 95 = .ok (.goto (-65), 3) := by decide +kernel
theorem dX5_grown_98 : decode cX5_grown 98 = .ok (.iinc 5 1, 3) := by decide +kernel
theorem dX5_grown_101 : decode cX5_grown 101 = .ok (.goto (-80), 3) := by decide +kernel
theorem dX5_grown_104 : decode cX5_grown 104 = .ok (.iinc 4 1, 3) := by decide +kernel
theorem dX5_grown_107 : decode cX5_grown 107 = .ok (.goto (-95), 3) := by decide +kernel
theorem dX5_grown_110 : decode cX5_grown 110 = .ok (.iload_n 3, 1) := by decide +kernel
theorem dX5_grown_111 : decode cX5_grown 111 = .ok (.ireturn, 1) := by decide +kernel
theorem dX5_hull_0 : decode cX5_hull 0 = .ok (.iload_n 1, 1) := by decide +kernel
theorem dX5_hull_1 : decode cX5_hull 1 = .ok (.iconst 1, 1) := by decide +kernel
theorem dX5_hull_2 : decode cX5_hull 2 = .ok (.ior, 1) := by decide +kernel
theorem dX5_hull_3 : decode cX5_hull 3 = .ok (.istore_n 2, 1) := by decide +kernel
theorem dX5_hull_4 : decode cX5_hull 4 = .ok (.aload_n 0, 1) := by decide +kernel
theorem dX5_hull_5 : decode cX5_hull 5 = .ok (.iload_n 2, 1) := by decide +kernel
theorem dX5_hull_6 : decode cX5_hull 6 = .ok (.invokevirtual 86, 3) := by decide +kernel
theorem dX5_hull_9 : decode cX5_hull 9 = .ok (.iload_n 2, 1) := by decide +kernel
theorem dX5_hull_10 : decode cX5_hull 10 = .ok (.if_icmp .eq 12, 3) := by decide +kernel
theorem dX5_hull_13 : decode cX5_hull 13 = .ok (.aload_n 0, 1) := by decide +kernel
theorem dX5_hull_14 : decode cX5_hull 14 = .ok (.iload_n 2, 1) := by decide +kernel
theorem dX5_hull_15 : decode cX5_hull 15 = .ok (.invokevirtual 86, 3) := by decide +kernel
theorem dX5_hull_18 : decode cX5_hull 18 = .ok (.istore_n 2, 1) := by decide +kernel
theorem dX5_hull_19 : decode cX5_hull 19 = .ok (.goto (-15), 3) := by decide +kernel
theorem dX5_hull_22 : decode cX5_hull 22 = .ok (.iload_n 2, 1) := by decide +kernel
theorem dX5_hull_23 : decode cX5_hull 23 = .ok (.ireturn, 1) := by decide +kernel
theorem dX5_isSet_0 : decode cX5_isSet 0 = .ok (.iload_n 1, 1) := by decide +kernel
theorem dX5_isSet_1 : decode cX5_isSet 1 = .ok (.iconst 0, 1) := by decide +kernel
theorem dX5_isSet_2 : decode cX5_isSet 2 = .ok (.iconst 1, 1) := by decide +kernel
theorem dX5_isSet_3 : decode cX5_isSet 3 = .ok (.aload_n 0, 1) := by decide +kernel
theorem dX5_isSet_4 : decode cX5_isSet 4 = .ok (.invokevirtual 61, 3) := by decide +kernel
theorem dX5_isSet_7 : decode cX5_isSet 7 = .ok (.ishl, 1) := by decide +kernel
theorem dX5_isSet_8 : decode cX5_isSet 8 = .ok (.iconst 1, 1) := by decide +kernel
theorem dX5_isSet_9 : decode cX5_isSet 9 = .ok (.isub, 1) := by decide +kernel
theorem dX5_isSet_10 : decode cX5_isSet 10 = .ok (.invokestatic 45, 3) := by decide +kernel
theorem dX5_isSet_13 : decode cX5_isSet 13 = .ok (.ireturn, 1) := by decide +kernel
theorem dX5_closed_0 : decode cX5_closed 0 = .ok (.aload_n 0, 1) := by decide +kernel
theorem dX5_closed_1 : decode cX5_closed 1 = .ok (.iconst 0, 1) := by decide +kernel
theorem dX5_closed_2 : decode cX5_closed 2 = .ok (.putfield 42, 3) := by decide +kernel
theorem dX5_closed_5 : decode cX5_closed 5 = .ok (.iload_n 2, 1) := by decide +kernel
theorem dX5_closed_6 : decode cX5_closed 6 = .ok (.iconst 0, 1) := by decide +kernel
theorem dX5_closed_7 : decode cX5_closed 7 = .ok (.iconst 2, 1) := by decide +kernel
theorem dX5_closed_8 : decode cX5_closed 8 = .ok (.invokestatic 45, 3) := by decide +kernel
theorem dX5_closed_11 : decode cX5_closed 11 = .ok (.ifCond .eq 16, 3) := by decide +kernel
theorem dX5_closed_14 : decode cX5_closed 14 = .ok (.iload_n 2, 1) := by decide +kernel
theorem dX5_closed_15 : decode cX5_closed 15 = .ok (.iconst 2, 1) := by decide +kernel
theorem dX5_closed_16 : decode cX5_closed 16 = .ok (.if_icmp .ge 13, 3) := by decide +kernel
theorem dX5_closed_19 : decode cX5_closed 19 = .ok (.aload_n 0, 1) := by decide +kernel
theorem dX5_closed_20 : decode cX5_closed 20 = .ok (.iload_n 1, 1) := by decide +kernel
theorem dX5_closed_21 : decode cX5_closed 21 = .ok (.invokevirtual 89, 3) := by decide +kernel
theorem dX5_closed_24 : decode cX5_closed 24 = .ok (.ifCond .ne 5, 3) := by decide +kernel
theorem dX5_closed_27 : decode cX5_closed 27 = .ok (.iconst (-1), 1) := by decide +kernel
theorem dX5_closed_28 : decode cX5_closed 28 = .ok (.ireturn, 1) := by decide +kernel
theorem dX5_closed_29 : decode cX5_closed 29 = .ok (.aload_n 0, 1) := by decide +kernel
theorem dX5_closed_30 : decode cX5_closed 30 = .ok (.invokevirtual 75, 3) := by decide +kernel
theorem dX5_closed_33 : decode cX5_closed 33 = .ok (.ifCond .ne 6, 3) := by decide +kernel
theorem dX5_closed_36 : decode cX5_closed 36 = .ok (.bipush (-2), 2) := by decide +kernel
theorem dX5_closed_38 : decode cX5_closed 38 = .ok (.ireturn, 1) := by decide +kernel
theorem dX5_closed_39 : decode cX5_closed 39 = .ok (.iload_n 2, 1) := by decide +kernel
theorem dX5_closed_40 : decode cX5_closed 40 = .ok (.ifCond .ne 18, 3) := by decide +kernel
theorem dX5_closed_43 : decode cX5_closed 43 = .ok (.aload_n 0, 1) := by decide +kernel
theorem dX5_closed_44 : decode cX5_closed 44 = .ok (.iload_n 1, 1) := by decide +kernel
theorem dX5_closed_45 : decode cX5_closed 45 = .ok (.invokevirtual 92, 3) := by decide +kernel
theorem dX5_closed_48 : decode cX5_closed 48 = .ok (.iload_n 1, 1) := by decide +kernel
theorem dX5_closed_49 : decode cX5_closed 49 = .ok (.if_icmp .ne 7, 3) := by decide +kernel
theorem dX5_closed_52 : decode cX5_closed 52 = .ok (.iconst 1, 1) := by decide +kernel
theorem dX5_closed_53 : decode cX5_closed 53 = .ok (.goto 4, 3) := by decide +kernel
theorem dX5_closed_56 : decode cX5_closed 56 = .ok (.iconst 0, 1) := by decide +kernel
theorem dX5_closed_57 : decode cX5_closed 57 = .ok (.ireturn, 1) := by decide +kernel
theorem dX5_closed_58 : decode cX5_closed 58 = .ok (.iload_n 2, 1) := by decide +kernel
theorem dX5_closed_59 : decode cX5_closed 59 = .ok (.iconst 1, 1) := by decide +kernel
theorem dX5_closed_60 : decode cX5_closed 60 = .ok (.if_icmp .ne 9, 3) := by decide +kernel
theorem dX5_closed_63 : decode cX5_closed 63 = .ok (.aload_n 0, 1) := by decide +kernel
theorem dX5_closed_64 : decode cX5_closed 64 = .ok (.iload_n 1, 1) := by decide +kernel
theorem dX5_closed_65 : decode cX5_closed 65 = .ok (.invokevirtual 92, 3) := by decide +kernel
theorem dX5_closed_68 : decode cX5_closed 68 = .ok (.ireturn, 1) := by decide +kernel
theorem dX5_closed_69 : decode cX5_closed 69 = .ok (.iconst 0, 1) := by decide +kernel
theorem dX5_closed_70 : decode cX5_closed 70 = .ok (.istore_n 3, 1) := by decide +kernel
theorem dX5_closed_71 : decode cX5_closed 71 = .ok (.iconst 0, 1) := by decide +kernel
theorem dX5_closed_72 : decode cX5_closed 72 = .ok (.istore 4, 2) := by decide +kernel
theorem dX5_closed_74 : decode cX5_closed 74 = .ok (.iload 4, 2) := by decide +kernel
theorem dX5_closed_76 : decode cX5_closed 76 = .ok (.iconst 1, 1) := by decide +kernel
theorem dX5_closed_77 : decode cX5_closed 77 = .ok (.aload_n 0, 1) := by decide +kernel
theorem dX5_closed_78 : decode cX5_closed 78 = .ok (.invokevirtual 61, 3) := by decide +kernel
theorem dX5_closed_81 : decode cX5_closed 81 = .ok (.ishl, 1) := by decide +kernel
theorem dX5_closed_82 : decode cX5_closed 82 = .ok (.if_icmp .ge 28, 3) := by decide +kernel
theorem dX5_closed_85 : decode cX5_closed 85 = .ok (.iload_n 3, 1) := by decide +kernel
theorem dX5_closed_86 : decode cX5_closed 86 = .ok (.aload_n 0, 1) := by decide +kernel
theorem dX5_closed_87 : decode cX5_closed 87 = .ok (.iload 4, 2) := by decide +kernel
theorem dX5_closed_89 : decode cX5_closed 89 = .ok (.invokevirtual 92, 3) := by decide +kernel
theorem dX5_closed_92 : decode cX5_closed 92 = .ok (.iload 4, 2) := by decide +kernel
theorem dX5_closed_94 : decode cX5_closed 94 = .ok (.if_icmp .ne 7, 3) := by decide +kernel
theorem dX5_closed_97 : decode cX5_closed 97 = .ok (.iconst 1, 1) := by decide +kernel
theorem dX5_closed_98 : decode cX5_closed 98 = .ok (.goto 4, 3) := by decide +kernel
theorem dX5_closed_101 : decode cX5_closed 101 = .ok (.iconst 0, 1) := by decide +kernel
theorem dX5_closed_102 : decode cX5_closed 102 = .ok (.iadd, 1) := by decide +kernel
theorem dX5_closed_103 : decode cX5_closed 103 = .ok (.istore_n 3, 1) := by decide +kernel
theorem dX5_closed_104 : decode cX5_closed 104 = .ok (.iinc 4 1, 3) := by decide +kernel
theorem dX5_closed_107 : decode cX5_closed 107 = .ok (.goto (-33), 3) := by decide +kernel
theorem dX5_closed_110 : decode cX5_closed 110 = .ok (.iload_n 3, 1) := by decide +kernel
theorem dX5_closed_111 : decode cX5_closed 111 = .ok (.ireturn, 1) := by decide +kernel
theorem dX5_orderOf_0 : decode cX5_orderOf 0 = .ok (.iconst 0, 1) := by decide +kernel
theorem dX5_orderOf_1 : decode cX5_orderOf 1 = .ok (.istore_n 2, 1) := by decide +kernel
theorem dX5_orderOf_2 : decode cX5_orderOf 2 = .ok (.iconst 0, 1) := by decide +kernel
theorem dX5_orderOf_3 : decode cX5_orderOf 3 = .ok (.istore_n 3, 1) := by decide +kernel
theorem dX5_orderOf_4 : decode cX5_orderOf 4 = .ok (.iload_n 3, 1) := by decide +kernel
theorem dX5_orderOf_5 : decode cX5_orderOf 5 = .ok (.iconst 5, 1) := by decide +kernel
theorem dX5_orderOf_6 : decode cX5_orderOf 6 = .ok (.if_icmp .ge 30, 3) := by decide +kernel
theorem dX5_orderOf_9 : decode cX5_orderOf 9 = .ok (.iload_n 2, 1) := by decide +kernel
theorem dX5_orderOf_10 : decode cX5_orderOf 10 = .ok (.iload_n 1, 1) := by decide +kernel
theorem dX5_orderOf_11 : decode cX5_orderOf 11 = .ok (.iload_n 3, 1) := by decide +kernel
theorem dX5_orderOf_12 : decode cX5_orderOf 12 = .ok (.ishr, 1) := by decide +kernel
theorem dX5_orderOf_13 : decode cX5_orderOf 13 = .ok (.iconst 1, 1) := by decide +kernel
theorem dX5_orderOf_14 : decode cX5_orderOf 14 = .ok (.iand, 1) := by decide +kernel
theorem dX5_orderOf_15 : decode cX5_orderOf 15 = .ok (.iconst 1, 1) := by decide +kernel
theorem dX5_orderOf_16 : decode cX5_orderOf 16 = .ok (.if_icmp .ne 11, 3) := by decide +kernel
theorem dX5_orderOf_19 : decode cX5_orderOf 19 = .ok (.aload_n 0, 1) := by decide +kernel
theorem dX5_orderOf_20 : decode cX5_orderOf 20 = .ok (.iload_n 3, 1) := by decide +kernel
theorem dX5_orderOf_21 : decode cX5_orderOf 21 = .ok (.invokevirtual 82, 3) := by decide +kernel
theorem dX5_orderOf_24 : decode cX5_orderOf 24 = .ok (.goto 4, 3) := by decide +kernel
theorem dX5_orderOf_27 : decode cX5_orderOf 27 = .ok (.iconst 0, 1) := by decide +kernel
theorem dX5_orderOf_28 : decode cX5_orderOf 28 = .ok (.iadd, 1) := by decide +kernel
theorem dX5_orderOf_29 : decode cX5_orderOf 29 = .ok (.istore_n 2, 1) := by decide +kernel
theorem dX5_orderOf_30 : decode cX5_orderOf 30 = .ok (.iinc 3 1, 3) := by decide +kernel
theorem dX5_orderOf_33 : decode cX5_orderOf 33 = .ok (.goto (-29), 3) := by decide +kernel
theorem dX5_orderOf_36 : decode cX5_orderOf 36 = .ok (.iload_n 2, 1) := by decide +kernel
theorem dX5_orderOf_37 : decode cX5_orderOf 37 = .ok (.ireturn, 1) := by decide +kernel
theorem dX5_order_0 : decode cX5_order 0 = .ok (.aload_n 0, 1) := by decide +kernel
theorem dX5_order_1 : decode cX5_order 1 = .ok (.iconst 0, 1) := by decide +kernel
theorem dX5_order_2 : decode cX5_order 2 = .ok (.putfield 42, 3) := by decide +kernel
theorem dX5_order_5 : decode cX5_order 5 = .ok (.aload_n 0, 1) := by decide +kernel
theorem dX5_order_6 : decode cX5_order 6 = .ok (.iload_n 1, 1) := by decide +kernel
theorem dX5_order_7 : decode cX5_order 7 = .ok (.invokevirtual 89, 3) := by decide +kernel
theorem dX5_order_10 : decode cX5_order 10 = .ok (.ifCond .ne 5, 3) := by decide +kernel
theorem dX5_order_13 : decode cX5_order 13 = .ok (.iconst (-1), 1) := by decide +kernel
theorem dX5_order_14 : decode cX5_order 14 = .ok (.ireturn, 1) := by decide +kernel
theorem dX5_order_15 : decode cX5_order 15 = .ok (.aload_n 0, 1) := by decide +kernel
theorem dX5_order_16 : decode cX5_order 16 = .ok (.invokevirtual 75, 3) := by decide +kernel
theorem dX5_order_19 : decode cX5_order 19 = .ok (.ifCond .eq 15, 3) := by decide +kernel
theorem dX5_order_22 : decode cX5_order 22 = .ok (.aload_n 0, 1) := by decide +kernel
theorem dX5_order_23 : decode cX5_order 23 = .ok (.aload_n 0, 1) := by decide +kernel
theorem dX5_order_24 : decode cX5_order 24 = .ok (.iload_n 1, 1) := by decide +kernel
theorem dX5_order_25 : decode cX5_order 25 = .ok (.invokevirtual 92, 3) := by decide +kernel
theorem dX5_order_28 : decode cX5_order 28 = .ok (.invokevirtual 95, 3) := by decide +kernel
theorem dX5_order_31 : decode cX5_order 31 = .ok (.goto 5, 3) := by decide +kernel
theorem dX5_order_34 : decode cX5_order 34 = .ok (.bipush (-2), 2) := by decide +kernel
theorem dX5_order_36 : decode cX5_order 36 = .ok (.ireturn, 1) := by decide +kernel
theorem dX5_worth_0 : decode cX5_worth 0 = .ok (.aload_n 0, 1) := by decide +kernel
theorem dX5_worth_1 : decode cX5_worth 1 = .ok (.iconst 0, 1) := by decide +kernel
theorem dX5_worth_2 : decode cX5_worth 2 = .ok (.putfield 42, 3) := by decide +kernel
theorem dX5_worth_5 : decode cX5_worth 5 = .ok (.iload_n 1, 1) := by decide +kernel
theorem dX5_worth_6 : decode cX5_worth 6 = .ok (.iconst 0, 1) := by decide +kernel
theorem dX5_worth_7 : decode cX5_worth 7 = .ok (.iconst 2, 1) := by decide +kernel
theorem dX5_worth_8 : decode cX5_worth 8 = .ok (.invokestatic 45, 3) := by decide +kernel
theorem dX5_worth_11 : decode cX5_worth 11 = .ok (.ifCond .eq 11, 3) := by decide +kernel
theorem dX5_worth_14 : decode cX5_worth 14 = .ok (.aload_n 0, 1) := by decide +kernel
theorem dX5_worth_15 : decode cX5_worth 15 = .ok (.iload_n 2, 1) := by decide +kernel
theorem dX5_worth_16 : decode cX5_worth 16 = .ok (.invokevirtual 72, 3) := by decide +kernel
theorem dX5_worth_19 : decode cX5_worth 19 = .ok (.ifCond .ne 5, 3) := by decide +kernel
theorem dX5_worth_22 : decode cX5_worth 22 = .ok (.iconst (-1), 1) := by decide +kernel
theorem dX5_worth_23 : decode cX5_worth 23 = .ok (.ireturn, 1) := by decide +kernel
theorem dX5_worth_24 : decode cX5_worth 24 = .ok (.aload_n 0, 1) := by decide +kernel
theorem dX5_worth_25 : decode cX5_worth 25 = .ok (.invokevirtual 75, 3) := by decide +kernel
theorem dX5_worth_28 : decode cX5_worth 28 = .ok (.ifCond .ne 6, 3) := by decide +kernel
theorem dX5_worth_31 : decode cX5_worth 31 = .ok (.bipush (-2), 2) := by decide +kernel
theorem dX5_worth_33 : decode cX5_worth 33 = .ok (.ireturn, 1) := by decide +kernel
theorem dX5_worth_34 : decode cX5_worth 34 = .ok (.aload_n 0, 1) := by decide +kernel
theorem dX5_worth_35 : decode cX5_worth 35 = .ok (.dup, 1) := by decide +kernel
theorem dX5_worth_36 : decode cX5_worth 36 = .ok (.getfield 98, 3) := by decide +kernel
theorem dX5_worth_39 : decode cX5_worth 39 = .ok (.iload_n 1, 1) := by decide +kernel
theorem dX5_worth_40 : decode cX5_worth 40 = .ok (.ifCond .ne 7, 3) := by decide +kernel
theorem dX5_worth_43 : decode cX5_worth 43 = .ok (.lconst 1, 1) := by decide +kernel
theorem dX5_worth_44 : decode cX5_worth 44 = .ok (.goto 17, 3) := by decide +kernel
theorem dX5_worth_47 : decode cX5_worth 47 = .ok (.iload_n 1, 1) := by decide +kernel
theorem dX5_worth_48 : decode cX5_worth 48 = .ok (.iconst 1, 1) := by decide +kernel
theorem dX5_worth_49 : decode cX5_worth 49 = .ok (.if_icmp .ne 9, 3) := by decide +kernel
theorem dX5_worth_52 : decode cX5_worth 52 = .ok (.ldc2_w 102, 3) := by decide +kernel
theorem dX5_worth_55 : decode cX5_worth 55 = .ok (.goto 6, 3) := by decide +kernel
theorem dX5_worth_58 : decode cX5_worth 58 = .ok (.ldc2_w 104, 3) := by decide +kernel
theorem dX5_worth_61 : decode cX5_worth 61 = .ok (.ladd, 1) := by decide +kernel
theorem dX5_worth_62 : decode cX5_worth 62 = .ok (.putfield 98, 3) := by decide +kernel
theorem dX5_worth_65 : decode cX5_worth 65 = .ok (.aload_n 0, 1) := by decide +kernel
theorem dX5_worth_66 : decode cX5_worth 66 = .ok (.iload_n 2, 1) := by decide +kernel
theorem dX5_worth_67 : decode cX5_worth 67 = .ok (.invokevirtual 82, 3) := by decide +kernel
theorem dX5_worth_70 : decode cX5_worth 70 = .ok (.istore_n 3, 1) := by decide +kernel
theorem dX5_worth_71 : decode cX5_worth 71 = .ok (.iload_n 3, 1) := by decide +kernel
theorem dX5_worth_72 : decode cX5_worth 72 = .ok (.iload_n 1, 1) := by decide +kernel
theorem dX5_worth_73 : decode cX5_worth 73 = .ok (.ifCond .le 17, 3) := by decide +kernel
theorem dX5_worth_76 : decode cX5_worth 76 = .ok (.aload_n 0, 1) := by decide +kernel
theorem dX5_worth_77 : decode cX5_worth 77 = .ok (.aload_n 0, 1) := by decide +kernel
theorem dX5_worth_78 : decode cX5_worth 78 = .ok (.iconst 1, 1) := by decide +kernel
theorem dX5_worth_79 : decode cX5_worth 79 = .ok (.iload_n 2, 1) := by decide +kernel
theorem dX5_worth_80 : decode cX5_worth 80 = .ok (.ishl, 1) := by decide +kernel
theorem dX5_worth_81 : decode cX5_worth 81 = .ok (.invokevirtual 92, 3) := by decide +kernel
theorem dX5_worth_84 : decode cX5_worth 84 = .ok (.invokevirtual 95, 3) := by decide +kernel
theorem dX5_worth_87 : decode cX5_worth 87 = .ok (.goto 4, 3) := by decide +kernel
theorem dX5_worth_90 : decode cX5_worth 90 = .ok (.iconst 1, 1) := by decide +kernel
theorem dX5_worth_91 : decode cX5_worth 91 = .ok (.imul, 1) := by decide +kernel
theorem dX5_worth_92 : decode cX5_worth 92 = .ok (.istore_n 3, 1) := by decide +kernel
theorem dX5_worth_93 : decode cX5_worth 93 = .ok (.iload_n 1, 1) := by decide +kernel
theorem dX5_worth_94 : decode cX5_worth 94 = .ok (.iconst 2, 1) := by decide +kernel
theorem dX5_worth_95 : decode cX5_worth 95 = .ok (.if_icmp .ne 15, 3) := by decide +kernel
theorem dX5_worth_98 : decode cX5_worth 98 = .ok (.iload_n 3, 1) := by decide +kernel
theorem dX5_worth_99 : decode cX5_worth 99 = .ok (.aload_n 0, 1) := by decide +kernel
theorem dX5_worth_100 : decode cX5_worth 100 = .ok (.iload_n 2, 1) := by decide +kernel
theorem dX5_worth_101 : decode cX5_worth 101 = .ok (.iload_n 2, 1) := by decide +kernel
theorem dX5_worth_102 : decode cX5_worth 102 = .ok (.iload_n 2, 1) := by decide +kernel
theorem dX5_worth_103 : decode cX5_worth 103 = .ok (.invokevirtual 78, 3) := by decide +kernel
theorem dX5_worth_106 : decode cX5_worth 106 = .ok (.iadd, 1) := by decide +kernel
theorem dX5_worth_107 : decode cX5_worth 107 = .ok (.goto 4, 3) := by decide +kernel
theorem dX5_worth_110 : decode cX5_worth 110 = .ok (.iload_n 3, 1) := by decide +kernel
theorem dX5_worth_111 : decode cX5_worth 111 = .ok (.ireturn, 1) := by decide +kernel
theorem dX5_fuse_0 : decode cX5_fuse 0 = .ok (.aload_n 0, 1) := by decide +kernel
theorem dX5_fuse_1 : decode cX5_fuse 1 = .ok (.iconst 0, 1) := by decide +kernel
theorem dX5_fuse_2 : decode cX5_fuse 2 = .ok (.putfield 42, 3) := by decide +kernel
theorem dX5_fuse_5 : decode cX5_fuse 5 = .ok (.aload_n 0, 1) := by decide +kernel
theorem dX5_fuse_6 : decode cX5_fuse 6 = .ok (.invokevirtual 61, 3) := by decide +kernel
theorem dX5_fuse_9 : decode cX5_fuse 9 = .ok (.istore_n 2, 1) := by decide +kernel
theorem dX5_fuse_10 : decode cX5_fuse 10 = .ok (.iload_n 1, 1) := by decide +kernel
theorem dX5_fuse_11 : decode cX5_fuse 11 = .ok (.iconst 0, 1) := by decide +kernel
theorem dX5_fuse_12 : decode cX5_fuse 12 = .ok (.sipush 624, 3) := by decide +kernel
theorem dX5_fuse_15 : decode cX5_fuse 15 = .ok (.invokestatic 45, 3) := by decide +kernel
theorem dX5_fuse_18 : decode cX5_fuse 18 = .ok (.istore_n 3, 1) := by decide +kernel
theorem dX5_fuse_19 : decode cX5_fuse 19 = .ok (.iload_n 1, 1) := by decide +kernel
theorem dX5_fuse_20 : decode cX5_fuse 20 = .ok (.istore 4, 2) := by decide +kernel
theorem dX5_fuse_22 : decode cX5_fuse 22 = .ok (.iconst 1, 1) := by decide +kernel
theorem dX5_fuse_23 : decode cX5_fuse 23 = .ok (.istore 5, 2) := by decide +kernel
theorem dX5_fuse_25 : decode cX5_fuse 25 = .ok (.iload 5, 2) := by decide +kernel
theorem dX5_fuse_27 : decode cX5_fuse 27 = .ok (.iconst 5, 1) := by decide +kernel
theorem dX5_fuse_28 : decode cX5_fuse 28 = .ok (.if_icmp .ge 52, 3) := by decide +kernel
theorem dX5_fuse_31 : decode cX5_fuse 31 = .ok (.iload_n 3, 1) := by decide +kernel
theorem dX5_fuse_32 : decode cX5_fuse 32 = .ok (.ifCond .eq 48, 3) := by decide +kernel
theorem dX5_fuse_35 : decode cX5_fuse 35 = .ok (.aload_n 0, 1) := by decide +kernel
theorem dX5_fuse_36 : decode cX5_fuse 36 = .ok (.getfield 32, 3) := by decide +kernel
theorem dX5_fuse_39 : decode cX5_fuse 39 = .ok (.iload 5, 2) := by decide +kernel
theorem dX5_fuse_41 : decode cX5_fuse 41 = .ok (.iload 4, 2) := by decide +kernel
theorem dX5_fuse_43 : decode cX5_fuse 43 = .ok (.iconst 5, 1) := by decide +kernel
theorem dX5_fuse_44 : decode cX5_fuse 44 = .ok (.irem, 1) := by decide +kernel
theorem dX5_fuse_45 : decode cX5_fuse 45 = .ok (.iastore, 1) := by decide +kernel
theorem dX5_fuse_46 : decode cX5_fuse 46 = .ok (.iload 4, 2) := by decide +kernel
theorem dX5_fuse_48 : decode cX5_fuse 48 = .ok (.iconst 5, 1) := by decide +kernel
theorem dX5_fuse_49 : decode cX5_fuse 49 = .ok (.idiv, 1) := by decide +kernel
theorem dX5_fuse_50 : decode cX5_fuse 50 = .ok (.istore 4, 2) := by decide +kernel
theorem dX5_fuse_52 : decode cX5_fuse 52 = .ok (.iload 5, 2) := by decide +kernel
theorem dX5_fuse_54 : decode cX5_fuse 54 = .ok (.iload_n 2, 1) := by decide +kernel
theorem dX5_fuse_55 : decode cX5_fuse 55 = .ok (.if_icmp .ge 13, 3) := by decide +kernel
theorem dX5_fuse_58 : decode cX5_fuse 58 = .ok (.aload_n 0, 1) := by decide +kernel
theorem dX5_fuse_59 : decode cX5_fuse 59 = .ok (.getfield 32, 3) := by decide +kernel
theorem dX5_fuse_62 : decode cX5_fuse 62 = .ok (.iload 5, 2) := by decide +kernel
theorem dX5_fuse_64 : decode cX5_fuse 64 = .ok (.iaload, 1) := by decide +kernel
theorem dX5_fuse_65 : decode cX5_fuse 65 = .ok (.ifCond .le 7, 3) := by decide +kernel
theorem dX5_fuse_68 : decode cX5_fuse 68 = .ok (.iconst 1, 1) := by decide +kernel
theorem dX5_fuse_69 : decode cX5_fuse 69 = .ok (.goto 4, 3) := by decide +kernel
theorem dX5_fuse_72 : decode cX5_fuse 72 = .ok (.iconst 0, 1) := by decide +kernel
theorem dX5_fuse_73 : decode cX5_fuse 73 = .ok (.istore_n 3, 1) := by decide +kernel
theorem dX5_fuse_74 : decode cX5_fuse 74 = .ok (.iinc 5 1, 3) := by decide +kernel
theorem dX5_fuse_77 : decode cX5_fuse 77 = .ok (.goto (-52), 3) := by decide +kernel
theorem dX5_fuse_80 : decode cX5_fuse 80 = .ok (.iload_n 3, 1) := by decide +kernel
theorem dX5_fuse_81 : decode cX5_fuse 81 = .ok (.ifCond .ne 5, 3) := by decide +kernel
theorem dX5_fuse_84 : decode cX5_fuse 84 = .ok (.iconst (-1), 1) := by decide +kernel
theorem dX5_fuse_85 : decode cX5_fuse 85 = .ok (.ireturn, 1) := by decide +kernel
theorem dX5_fuse_86 : decode cX5_fuse 86 = .ok (.aload_n 0, 1) := by decide +kernel
theorem dX5_fuse_87 : decode cX5_fuse 87 = .ok (.invokevirtual 75, 3) := by decide +kernel
theorem dX5_fuse_90 : decode cX5_fuse 90 = .ok (.ifCond .ne 6, 3) := by decide +kernel
theorem dX5_fuse_93 : decode cX5_fuse 93 = .ok (.bipush (-2), 2) := by decide +kernel
theorem dX5_fuse_95 : decode cX5_fuse 95 = .ok (.ireturn, 1) := by decide +kernel
theorem dX5_fuse_96 : decode cX5_fuse 96 = .ok (.aload_n 0, 1) := by decide +kernel
theorem dX5_fuse_97 : decode cX5_fuse 97 = .ok (.getfield 32, 3) := by decide +kernel
theorem dX5_fuse_100 : decode cX5_fuse 100 = .ok (.iconst 0, 1) := by decide +kernel
theorem dX5_fuse_101 : decode cX5_fuse 101 = .ok (.iconst 0, 1) := by decide +kernel
theorem dX5_fuse_102 : decode cX5_fuse 102 = .ok (.iastore, 1) := by decide +kernel
theorem dX5_fuse_103 : decode cX5_fuse 103 = .ok (.iconst 0, 1) := by decide +kernel
theorem dX5_fuse_104 : decode cX5_fuse 104 = .ok (.istore 5, 2) := by decide +kernel
theorem dX5_fuse_106 : decode cX5_fuse 106 = .ok (.iload 5, 2) := by decide +kernel
theorem dX5_fuse_108 : decode cX5_fuse 108 = .ok (.bipush 64, 2) := by decide +kernel
theorem dX5_fuse_110 : decode cX5_fuse 110 = .ok (.if_icmp .ge 23, 3) := by decide +kernel
theorem dX5_fuse_113 : decode cX5_fuse 113 = .ok (.aload_n 0, 1) := by decide +kernel
theorem dX5_fuse_114 : decode cX5_fuse 114 = .ok (.getfield 17, 3) := by decide +kernel
theorem dX5_fuse_117 : decode cX5_fuse 117 = .ok (.iload 5, 2) := by decide +kernel
theorem dX5_fuse_119 : decode cX5_fuse 119 = .ok (.aload_n 0, 1) := by decide +kernel
theorem dX5_fuse_120 : decode cX5_fuse 120 = .ok (.getfield 13, 3) := by decide +kernel
theorem dX5_fuse_123 : decode cX5_fuse 123 = .ok (.iload 5, 2) := by decide +kernel
theorem dX5_fuse_125 : decode cX5_fuse 125 = .ok (.iaload, 1) := by decide +kernel
theorem dX5_fuse_126 : decode cX5_fuse 126 = .ok (.iastore, 1) := by decide +kernel
theorem dX5_fuse_127 : decode cX5_fuse 127 = .ok (.iinc 5 1, 3) := by decide +kernel
theorem dX5_fuse_130 : decode cX5_fuse 130 = .ok (.goto (-24), 3) := by decide +kernel
theorem dX5_fuse_133 : decode cX5_fuse 133 = .ok (.iconst 0, 1) := by decide +kernel
theorem dX5_fuse_134 : decode cX5_fuse 134 = .ok (.istore 5, 2) := by decide +kernel
theorem dX5_fuse_136 : decode cX5_fuse 136 = .ok (.iload 5, 2) := by decide +kernel
theorem dX5_fuse_138 : decode cX5_fuse 138 = .ok (.aload_n 0, 1) := by decide +kernel
theorem dX5_fuse_139 : decode cX5_fuse 139 = .ok (.getfield 7, 3) := by decide +kernel
theorem dX5_fuse_142 : decode cX5_fuse 142 = .ok (.if_icmp .ge 53, 3) := by decide +kernel
theorem dX5_fuse_145 : decode cX5_fuse 145 = .ok (.iconst 0, 1) := by decide +kernel
theorem dX5_fuse_146 : decode cX5_fuse 146 = .ok (.istore 6, 2) := by decide +kernel
theorem dX5_fuse_148 : decode cX5_fuse 148 = .ok (.iload 6, 2) := by decide +kernel
theorem dX5_fuse_150 : decode cX5_fuse 150 = .ok (.aload_n 0, 1) := by decide +kernel
theorem dX5_fuse_151 : decode cX5_fuse 151 = .ok (.getfield 7, 3) := by decide +kernel
theorem dX5_fuse_154 : decode cX5_fuse 154 = .ok (.if_icmp .ge 35, 3) := by decide +kernel
theorem dX5_fuse_157 : decode cX5_fuse 157 = .ok (.aload_n 0, 1) := by decide +kernel
theorem dX5_fuse_158 : decode cX5_fuse 158 = .ok (.getfield 13, 3) := by decide +kernel
theorem dX5_fuse_161 : decode cX5_fuse 161 = .ok (.bipush 8, 2) := by decide +kernel
theorem dX5_fuse_163 : decode cX5_fuse 163 = .ok (.iload 5, 2) := by decide +kernel
theorem dX5_fuse_165 : decode cX5_fuse 165 = .ok (.imul, 1) := by decide +kernel
theorem dX5_fuse_166 : decode cX5_fuse 166 = .ok (.iload 6, 2) := by decide +kernel
theorem dX5_fuse_168 : decode cX5_fuse 168 = .ok (.iadd, 1) := by decide +kernel
theorem dX5_fuse_169 : decode cX5_fuse 169 = .ok (.aload_n 0, 1) := by decide +kernel
theorem dX5_fuse_170 : decode cX5_fuse 170 = .ok (.getfield 32, 3) := by decide +kernel
theorem dX5_fuse_173 : decode cX5_fuse 173 = .ok (.aload_n 0, 1) := by decide +kernel
theorem dX5_fuse_174 : decode cX5_fuse 174 = .ok (.iload 5, 2) := by decide +kernel
theorem dX5_fuse_176 : decode cX5_fuse 176 = .ok (.iload 6, 2) := by decide +kernel
theorem dX5_fuse_178 : decode cX5_fuse 178 = .ok (.invokevirtual 53, 3) := by decide +kernel
theorem dX5_fuse_181 : decode cX5_fuse 181 = .ok (.iaload, 1) := by decide +kernel
theorem dX5_fuse_182 : decode cX5_fuse 182 = .ok (.iastore, 1) := by decide +kernel
theorem dX5_fuse_183 : decode cX5_fuse 183 = .ok (.iinc 6 1, 3) := by decide +kernel
theorem dX5_fuse_186 : decode cX5_fuse 186 = .ok (.goto (-38), 3) := by decide +kernel
theorem dX5_fuse_189 : decode cX5_fuse 189 = .ok (.iinc 5 1, 3) := by decide +kernel
theorem dX5_fuse_192 : decode cX5_fuse 192 = .ok (.goto (-56), 3) := by decide +kernel
theorem dX5_fuse_195 : decode cX5_fuse 195 = .ok (.aload_n 0, 1) := by decide +kernel
theorem dX5_fuse_196 : decode cX5_fuse 196 = .ok (.invokevirtual 75, 3) := by decide +kernel
theorem dX5_fuse_199 : decode cX5_fuse 199 = .ok (.ifCond .eq 5, 3) := by decide +kernel
theorem dX5_fuse_202 : decode cX5_fuse 202 = .ok (.iconst 1, 1) := by decide +kernel
theorem dX5_fuse_203 : decode cX5_fuse 203 = .ok (.ireturn, 1) := by decide +kernel
theorem dX5_fuse_204 : decode cX5_fuse 204 = .ok (.iconst 0, 1) := by decide +kernel
theorem dX5_fuse_205 : decode cX5_fuse 205 = .ok (.istore 5, 2) := by decide +kernel
theorem dX5_fuse_207 : decode cX5_fuse 207 = .ok (.iload 5, 2) := by decide +kernel
theorem dX5_fuse_209 : decode cX5_fuse 209 = .ok (.bipush 64, 2) := by decide +kernel
theorem dX5_fuse_211 : decode cX5_fuse 211 = .ok (.if_icmp .ge 23, 3) := by decide +kernel
theorem dX5_fuse_214 : decode cX5_fuse 214 = .ok (.aload_n 0, 1) := by decide +kernel
theorem dX5_fuse_215 : decode cX5_fuse 215 = .ok (.getfield 13, 3) := by decide +kernel
theorem dX5_fuse_218 : decode cX5_fuse 218 = .ok (.iload 5, 2) := by decide +kernel
theorem dX5_fuse_220 : decode cX5_fuse 220 = .ok (.aload_n 0, 1) := by decide +kernel
theorem dX5_fuse_221 : decode cX5_fuse 221 = .ok (.getfield 17, 3) := by decide +kernel
theorem dX5_fuse_224 : decode cX5_fuse 224 = .ok (.iload 5, 2) := by decide +kernel
theorem dX5_fuse_226 : decode cX5_fuse 226 = .ok (.iaload, 1) := by decide +kernel
theorem dX5_fuse_227 : decode cX5_fuse 227 = .ok (.iastore, 1) := by decide +kernel
theorem dX5_fuse_228 : decode cX5_fuse 228 = .ok (.iinc 5 1, 3) := by decide +kernel
theorem dX5_fuse_231 : decode cX5_fuse 231 = .ok (.goto (-24), 3) := by decide +kernel
theorem dX5_fuse_234 : decode cX5_fuse 234 = .ok (.iconst 0, 1) := by decide +kernel
theorem dX5_fuse_235 : decode cX5_fuse 235 = .ok (.ireturn, 1) := by decide +kernel
theorem dX5_quotient_0 : decode cX5_quotient 0 = .ok (.aload_n 0, 1) := by decide +kernel
theorem dX5_quotient_1 : decode cX5_quotient 1 = .ok (.iconst 0, 1) := by decide +kernel
theorem dX5_quotient_2 : decode cX5_quotient 2 = .ok (.putfield 42, 3) := by decide +kernel
theorem dX5_quotient_5 : decode cX5_quotient 5 = .ok (.aload_n 0, 1) := by decide +kernel
theorem dX5_quotient_6 : decode cX5_quotient 6 = .ok (.iload_n 1, 1) := by decide +kernel
theorem dX5_quotient_7 : decode cX5_quotient 7 = .ok (.invokevirtual 89, 3) := by decide +kernel
theorem dX5_quotient_10 : decode cX5_quotient 10 = .ok (.ifCond .ne 5, 3) := by decide +kernel
theorem dX5_quotient_13 : decode cX5_quotient 13 = .ok (.iconst (-1), 1) := by decide +kernel
theorem dX5_quotient_14 : decode cX5_quotient 14 = .ok (.ireturn, 1) := by decide +kernel
theorem dX5_quotient_15 : decode cX5_quotient 15 = .ok (.aload_n 0, 1) := by decide +kernel
theorem dX5_quotient_16 : decode cX5_quotient 16 = .ok (.invokevirtual 75, 3) := by decide +kernel
theorem dX5_quotient_19 : decode cX5_quotient 19 = .ok (.ifCond .ne 6, 3) := by decide +kernel
theorem dX5_quotient_22 : decode cX5_quotient 22 = .ok (.bipush (-2), 2) := by decide +kernel
theorem dX5_quotient_24 : decode cX5_quotient 24 = .ok (.ireturn, 1) := by decide +kernel
theorem dX5_quotient_25 : decode cX5_quotient 25 = .ok (.aload_n 0, 1) := by decide +kernel
theorem dX5_quotient_26 : decode cX5_quotient 26 = .ok (.iload_n 1, 1) := by decide +kernel
theorem dX5_quotient_27 : decode cX5_quotient 27 = .ok (.invokevirtual 92, 3) := by decide +kernel
theorem dX5_quotient_30 : decode cX5_quotient 30 = .ok (.istore_n 2, 1) := by decide +kernel
theorem dX5_quotient_31 : decode cX5_quotient 31 = .ok (.iconst 0, 1) := by decide +kernel
theorem dX5_quotient_32 : decode cX5_quotient 32 = .ok (.istore_n 3, 1) := by decide +kernel
theorem dX5_quotient_33 : decode cX5_quotient 33 = .ok (.iconst 0, 1) := by decide +kernel
theorem dX5_quotient_34 : decode cX5_quotient 34 = .ok (.istore 4, 2) := by decide +kernel
theorem dX5_quotient_36 : decode cX5_quotient 36 = .ok (.iload 4, 2) := by decide +kernel
theorem dX5_quotient_38 : decode cX5_quotient 38 = .ok (.aload_n 0, 1) := by decide +kernel
theorem dX5_quotient_39 : decode cX5_quotient 39 = .ok (.getfield 7, 3) := by decide +kernel
theorem dX5_quotient_42 : decode cX5_quotient 42 = .ok (.if_icmp .ge 93, 3) := by decide +kernel
theorem dX5_quotient_45 : decode cX5_quotient 45 = .ok (.aload_n 0, 1) := by decide +kernel
theorem dX5_quotient_46 : decode cX5_quotient 46 = .ok (.getfield 29, 3) := by decide +kernel
theorem dX5_quotient_49 : decode cX5_quotient 49 = .ok (.iload 4, 2) := by decide +kernel
theorem dX5_quotient_51 : decode cX5_quotient 51 = .ok (.iload_n 3, 1) := by decide +kernel
theorem dX5_quotient_52 : decode cX5_quotient 52 = .ok (.iastore, 1) := by decide +kernel
theorem dX5_quotient_53 : decode cX5_quotient 53 = .ok (.iload 4, 2) := by decide +kernel
theorem dX5_quotient_55 : decode cX5_quotient 55 = .ok (.iconst 1, 1) := by decide +kernel
theorem dX5_quotient_56 : decode cX5_quotient 56 = .ok (.isub, 1) := by decide +kernel
theorem dX5_quotient_57 : decode cX5_quotient 57 = .ok (.istore 5, 2) := by decide +kernel
theorem dX5_quotient_59 : decode cX5_quotient 59 = .ok (.iload 5, 2) := by decide +kernel
theorem dX5_quotient_61 : decode cX5_quotient 61 = .ok (.ifCond .lt 49, 3) := by decide +kernel
theorem dX5_quotient_64 : decode cX5_quotient 64 = .ok (.aload_n 0, 1) := by decide +kernel
theorem dX5_quotient_65 : decode cX5_quotient 65 = .ok (.getfield 29, 3) := by decide +kernel
theorem dX5_quotient_68 : decode cX5_quotient 68 = .ok (.iload 4, 2) := by decide +kernel
theorem dX5_quotient_70 : decode cX5_quotient 70 = .ok (.iload_n 2, 1) := by decide +kernel
theorem dX5_quotient_71 : decode cX5_quotient 71 = .ok (.aload_n 0, 1) := by decide +kernel
theorem dX5_quotient_72 : decode cX5_quotient 72 = .ok (.iload 5, 2) := by decide +kernel
theorem dX5_quotient_74 : decode cX5_quotient 74 = .ok (.iload 4, 2) := by decide +kernel
theorem dX5_quotient_76 : decode cX5_quotient 76 = .ok (.invokevirtual 53, 3) := by decide +kernel
theorem dX5_quotient_79 : decode cX5_quotient 79 = .ok (.ishr, 1) := by decide +kernel
theorem dX5_quotient_80 : decode cX5_quotient 80 = .ok (.iconst 1, 1) := by decide +kernel
theorem dX5_quotient_81 : decode cX5_quotient 81 = .ok (.iand, 1) := by decide +kernel
theorem dX5_quotient_82 : decode cX5_quotient 82 = .ok (.iconst 1, 1) := by decide +kernel
theorem dX5_quotient_83 : decode cX5_quotient 83 = .ok (.if_icmp .ne 13, 3) := by decide +kernel
theorem dX5_quotient_86 : decode cX5_quotient 86 = .ok (.aload_n 0, 1) := by decide +kernel
theorem dX5_quotient_87 : decode cX5_quotient 87 = .ok (.getfield 29, 3) := by decide +kernel
theorem dX5_quotient_90 : decode cX5_quotient 90 = .ok (.iload 5, 2) := by decide +kernel
theorem dX5_quotient_92 : decode cX5_quotient 92 = .ok (.iaload, 1) := by decide +kernel
theorem dX5_quotient_93 : decode cX5_quotient 93 = .ok (.goto 10, 3) := by decide +kernel
theorem dX5_quotient_96 : decode cX5_quotient 96 = .ok (.aload_n 0, 1) := by decide +kernel
theorem dX5_quotient_97 : decode cX5_quotient 97 = .ok (.getfield 29, 3) := by decide +kernel
theorem dX5_quotient_100 : decode cX5_quotient 100 = .ok (.iload 4, 2) := by decide +kernel
theorem dX5_quotient_102 : decode cX5_quotient 102 = .ok (.iaload, 1) := by decide +kernel
theorem dX5_quotient_103 : decode cX5_quotient 103 = .ok (.iastore, 1) := by decide +kernel
theorem dX5_quotient_104 : decode cX5_quotient 104 = .ok (.iinc 5 (-1), 3) := by decide +kernel
theorem dX5_quotient_107 : decode cX5_quotient 107 = .ok (.goto (-48), 3) := by decide +kernel
theorem dX5_quotient_110 : decode cX5_quotient 110 = .ok (.iload_n 3, 1) := by decide +kernel
theorem dX5_quotient_111 : decode cX5_quotient 111 = .ok (.aload_n 0, 1) := by decide +kernel
theorem dX5_quotient_112 : decode cX5_quotient 112 = .ok (.getfield 29, 3) := by decide +kernel
theorem dX5_quotient_115 : decode cX5_quotient 115 = .ok (.iload 4, 2) := by decide +kernel
theorem dX5_quotient_117 : decode cX5_quotient 117 = .ok (.iaload, 1) := by decide +kernel
theorem dX5_quotient_118 : decode cX5_quotient 118 = .ok (.iload_n 3, 1) := by decide +kernel
theorem dX5_quotient_119 : decode cX5_quotient 119 = .ok (.if_icmp .ne 7, 3) := by decide +kernel
theorem dX5_quotient_122 : decode cX5_quotient 122 = .ok (.iconst 1, 1) := by decide +kernel
theorem dX5_quotient_123 : decode cX5_quotient 123 = .ok (.goto 4, 3) := by decide +kernel
theorem dX5_quotient_126 : decode cX5_quotient 126 = .ok (.iconst 0, 1) := by decide +kernel
theorem dX5_quotient_127 : decode cX5_quotient 127 = .ok (.iadd, 1) := by decide +kernel
theorem dX5_quotient_128 : decode cX5_quotient 128 = .ok (.istore_n 3, 1) := by decide +kernel
theorem dX5_quotient_129 : decode cX5_quotient 129 = .ok (.iinc 4 1, 3) := by decide +kernel
theorem dX5_quotient_132 : decode cX5_quotient 132 = .ok (.goto (-96), 3) := by decide +kernel
theorem dX5_quotient_135 : decode cX5_quotient 135 = .ok (.aload_n 0, 1) := by decide +kernel
theorem dX5_quotient_136 : decode cX5_quotient 136 = .ok (.invokevirtual 61, 3) := by decide +kernel
theorem dX5_quotient_139 : decode cX5_quotient 139 = .ok (.istore 4, 2) := by decide +kernel
theorem dX5_quotient_141 : decode cX5_quotient 141 = .ok (.iconst 0, 1) := by decide +kernel
theorem dX5_quotient_142 : decode cX5_quotient 142 = .ok (.istore 5, 2) := by decide +kernel
theorem dX5_quotient_144 : decode cX5_quotient 144 = .ok (.iload 5, 2) := by decide +kernel
theorem dX5_quotient_146 : decode cX5_quotient 146 = .ok (.iconst 5, 1) := by decide +kernel
theorem dX5_quotient_147 : decode cX5_quotient 147 = .ok (.if_icmp .ge 18, 3) := by decide +kernel
theorem dX5_quotient_150 : decode cX5_quotient 150 = .ok (.aload_n 0, 1) := by decide +kernel
theorem dX5_quotient_151 : decode cX5_quotient 151 = .ok (.getfield 32, 3) := by decide +kernel
theorem dX5_quotient_154 : decode cX5_quotient 154 = .ok (.iload 5, 2) := by decide +kernel
theorem dX5_quotient_156 : decode cX5_quotient 156 = .ok (.iload 5, 2) := by decide +kernel
theorem dX5_quotient_158 : decode cX5_quotient 158 = .ok (.iastore, 1) := by decide +kernel
theorem dX5_quotient_159 : decode cX5_quotient 159 = .ok (.iinc 5 1, 3) := by decide +kernel
theorem dX5_quotient_162 : decode cX5_quotient 162 = .ok (.goto (-18), 3) := by decide +kernel
theorem dX5_quotient_165 : decode cX5_quotient 165 = .ok (.iconst 0, 1) := by decide +kernel
theorem dX5_quotient_166 : decode cX5_quotient 166 = .ok (.istore 5, 2) := by decide +kernel
theorem dX5_quotient_168 : decode cX5_quotient 168 = .ok (.iload 5, 2) := by decide +kernel
theorem dX5_quotient_170 : decode cX5_quotient 170 = .ok (.iconst 5, 1) := by decide +kernel
theorem dX5_quotient_171 : decode cX5_quotient 171 = .ok (.if_icmp .ge 192, 3) := by decide +kernel
theorem dX5_quotient_174 : decode cX5_quotient 174 = .ok (.iconst 0, 1) := by decide +kernel
theorem dX5_quotient_175 : decode cX5_quotient 175 = .ok (.istore 6, 2) := by decide +kernel
theorem dX5_quotient_177 : decode cX5_quotient 177 = .ok (.iload 6, 2) := by decide +kernel
theorem dX5_quotient_179 : decode cX5_quotient 179 = .ok (.aload_n 0, 1) := by decide +kernel
theorem dX5_quotient_180 : decode cX5_quotient 180 = .ok (.getfield 7, 3) := by decide +kernel
theorem dX5_quotient_183 : decode cX5_quotient 183 = .ok (.aload_n 0, 1) := by decide +kernel
theorem dX5_quotient_184 : decode cX5_quotient 184 = .ok (.getfield 7, 3) := by decide +kernel
theorem dX5_quotient_187 : decode cX5_quotient 187 = .ok (.imul, 1) := by decide +kernel
theorem dX5_quotient_188 : decode cX5_quotient 188 = .ok (.if_icmp .ge 169, 3) := by decide +kernel
theorem dX5_quotient_191 : decode cX5_quotient 191 = .ok (.iconst 0, 1) := by decide +kernel
theorem dX5_quotient_192 : decode cX5_quotient 192 = .ok (.istore 7, 2) := by decide +kernel
theorem dX5_quotient_194 : decode cX5_quotient 194 = .ok (.iload 7, 2) := by decide +kernel
theorem dX5_quotient_196 : decode cX5_quotient 196 = .ok (.aload_n 0, 1) := by decide +kernel
theorem dX5_quotient_197 : decode cX5_quotient 197 = .ok (.getfield 7, 3) := by decide +kernel
theorem dX5_quotient_200 : decode cX5_quotient 200 = .ok (.aload_n 0, 1) := by decide +kernel
theorem dX5_quotient_201 : decode cX5_quotient 201 = .ok (.getfield 7, 3) := by decide +kernel
theorem dX5_quotient_204 : decode cX5_quotient 204 = .ok (.imul, 1) := by decide +kernel
theorem dX5_quotient_205 : decode cX5_quotient 205 = .ok (.if_icmp .ge 146, 3) := by decide +kernel
theorem dX5_quotient_208 : decode cX5_quotient 208 = .ok (.aload_n 0, 1) := by decide +kernel
theorem dX5_quotient_209 : decode cX5_quotient 209 = .ok (.getfield 29, 3) := by decide +kernel
theorem dX5_quotient_212 : decode cX5_quotient 212 = .ok (.iload 6, 2) := by decide +kernel
theorem dX5_quotient_214 : decode cX5_quotient 214 = .ok (.aload_n 0, 1) := by decide +kernel
theorem dX5_quotient_215 : decode cX5_quotient 215 = .ok (.getfield 7, 3) := by decide +kernel
theorem dX5_quotient_218 : decode cX5_quotient 218 = .ok (.idiv, 1) := by decide +kernel
theorem dX5_quotient_219 : decode cX5_quotient 219 = .ok (.iaload, 1) := by decide +kernel
theorem dX5_quotient_220 : decode cX5_quotient 220 = .ok (.aload_n 0, 1) := by decide +kernel
theorem dX5_quotient_221 : decode cX5_quotient 221 = .ok (.getfield 29, 3) := by decide +kernel
theorem dX5_quotient_224 : decode cX5_quotient 224 = .ok (.iload 7, 2) := by decide +kernel
theorem dX5_quotient_226 : decode cX5_quotient 226 = .ok (.aload_n 0, 1) := by decide +kernel
theorem dX5_quotient_227 : decode cX5_quotient 227 = .ok (.getfield 7, 3) := by decide +kernel
theorem dX5_quotient_230 : decode cX5_quotient 230 = .ok (.idiv, 1) := by decide +kernel
theorem dX5_quotient_231 : decode cX5_quotient 231 = .ok (.iaload, 1) := by decide +kernel
theorem dX5_quotient_232 : decode cX5_quotient 232 = .ok (.if_icmp .ne 34, 3) := by decide +kernel
theorem dX5_quotient_235 : decode cX5_quotient 235 = .ok (.aload_n 0, 1) := by decide +kernel
theorem dX5_quotient_236 : decode cX5_quotient 236 = .ok (.getfield 29, 3) := by decide +kernel
theorem dX5_quotient_239 : decode cX5_quotient 239 = .ok (.iload 6, 2) := by decide +kernel
theorem dX5_quotient_241 : decode cX5_quotient 241 = .ok (.aload_n 0, 1) := by decide +kernel
theorem dX5_quotient_242 : decode cX5_quotient 242 = .ok (.getfield 7, 3) := by decide +kernel
theorem dX5_quotient_245 : decode cX5_quotient 245 = .ok (.irem, 1) := by decide +kernel
theorem dX5_quotient_246 : decode cX5_quotient 246 = .ok (.iaload, 1) := by decide +kernel
theorem dX5_quotient_247 : decode cX5_quotient 247 = .ok (.aload_n 0, 1) := by decide +kernel
theorem dX5_quotient_248 : decode cX5_quotient 248 = .ok (.getfield 29, 3) := by decide +kernel
theorem dX5_quotient_251 : decode cX5_quotient 251 = .ok (.iload 7, 2) := by decide +kernel
theorem dX5_quotient_253 : decode cX5_quotient 253 = .ok (.aload_n 0, 1) := by decide +kernel
theorem dX5_quotient_254 : decode cX5_quotient 254 = .ok (.getfield 7, 3) := by decide +kernel
theorem dX5_quotient_257 : decode cX5_quotient 257 = .ok (.irem, 1) := by decide +kernel
theorem dX5_quotient_258 : decode cX5_quotient 258 = .ok (.iaload, 1) := by decide +kernel
theorem dX5_quotient_259 : decode cX5_quotient 259 = .ok (.if_icmp .ne 7, 3) := by decide +kernel
theorem dX5_quotient_262 : decode cX5_quotient 262 = .ok (.iconst 1, 1) := by decide +kernel
theorem dX5_quotient_263 : decode cX5_quotient 263 = .ok (.goto 4, 3) := by decide +kernel
theorem dX5_quotient_266 : decode cX5_quotient 266 = .ok (.iconst 0, 1) := by decide +kernel
theorem dX5_quotient_267 : decode cX5_quotient 267 = .ok (.istore 8, 2) := by decide +kernel
theorem dX5_quotient_269 : decode cX5_quotient 269 = .ok (.aload_n 0, 1) := by decide +kernel
theorem dX5_quotient_270 : decode cX5_quotient 270 = .ok (.iload 6, 2) := by decide +kernel
theorem dX5_quotient_272 : decode cX5_quotient 272 = .ok (.aload_n 0, 1) := by decide +kernel
theorem dX5_quotient_273 : decode cX5_quotient 273 = .ok (.getfield 7, 3) := by decide +kernel
theorem dX5_quotient_276 : decode cX5_quotient 276 = .ok (.idiv, 1) := by decide +kernel
theorem dX5_quotient_277 : decode cX5_quotient 277 = .ok (.iload 6, 2) := by decide +kernel
theorem dX5_quotient_279 : decode cX5_quotient 279 = .ok (.aload_n 0, 1) := by decide +kernel
theorem dX5_quotient_280 : decode cX5_quotient 280 = .ok (.getfield 7, 3) := by decide +kernel
theorem dX5_quotient_283 : decode cX5_quotient 283 = .ok (.irem, 1) := by decide +kernel
theorem dX5_quotient_284 : decode cX5_quotient 284 = .ok (.invokevirtual 53, 3) := by decide +kernel
theorem dX5_quotient_287 : decode cX5_quotient 287 = .ok (.istore 9, 2) := by decide +kernel
theorem dX5_quotient_289 : decode cX5_quotient 289 = .ok (.aload_n 0, 1) := by decide +kernel
theorem dX5_quotient_290 : decode cX5_quotient 290 = .ok (.iload 7, 2) := by decide +kernel
theorem dX5_quotient_292 : decode cX5_quotient 292 = .ok (.aload_n 0, 1) := by decide +kernel
theorem dX5_quotient_293 : decode cX5_quotient 293 = .ok (.getfield 7, 3) := by decide +kernel
theorem dX5_quotient_296 : decode cX5_quotient 296 = .ok (.idiv, 1) := by decide +kernel
theorem dX5_quotient_297 : decode cX5_quotient 297 = .ok (.iload 7, 2) := by decide +kernel
theorem dX5_quotient_299 : decode cX5_quotient 299 = .ok (.aload_n 0, 1) := by decide +kernel
theorem dX5_quotient_300 : decode cX5_quotient 300 = .ok (.getfield 7, 3) := by decide +kernel
theorem dX5_quotient_303 : decode cX5_quotient 303 = .ok (.irem, 1) := by decide +kernel
theorem dX5_quotient_304 : decode cX5_quotient 304 = .ok (.invokevirtual 53, 3) := by decide +kernel
theorem dX5_quotient_307 : decode cX5_quotient 307 = .ok (.istore 10, 2) := by decide +kernel
theorem dX5_quotient_309 : decode cX5_quotient 309 = .ok (.iload 8, 2) := by decide +kernel
theorem dX5_quotient_311 : decode cX5_quotient 311 = .ok (.ifCond .eq 34, 3) := by decide +kernel
theorem dX5_quotient_314 : decode cX5_quotient 314 = .ok (.aload_n 0, 1) := by decide +kernel
theorem dX5_quotient_315 : decode cX5_quotient 315 = .ok (.getfield 32, 3) := by decide +kernel
theorem dX5_quotient_318 : decode cX5_quotient 318 = .ok (.iload 9, 2) := by decide +kernel
theorem dX5_quotient_320 : decode cX5_quotient 320 = .ok (.iaload, 1) := by decide +kernel
theorem dX5_quotient_321 : decode cX5_quotient 321 = .ok (.aload_n 0, 1) := by decide +kernel
theorem dX5_quotient_322 : decode cX5_quotient 322 = .ok (.getfield 32, 3) := by decide +kernel
theorem dX5_quotient_325 : decode cX5_quotient 325 = .ok (.iload 10, 2) := by decide +kernel
theorem dX5_quotient_327 : decode cX5_quotient 327 = .ok (.iaload, 1) := by decide +kernel
theorem dX5_quotient_328 : decode cX5_quotient 328 = .ok (.if_icmp .le 17, 3) := by decide +kernel
theorem dX5_quotient_331 : decode cX5_quotient 331 = .ok (.aload_n 0, 1) := by decide +kernel
theorem dX5_quotient_332 : decode cX5_quotient 332 = .ok (.getfield 32, 3) := by decide +kernel
theorem dX5_quotient_335 : decode cX5_quotient 335 = .ok (.iload 9, 2) := by decide +kernel
theorem dX5_quotient_337 : decode cX5_quotient 337 = .ok (.aload_n 0, 1) := by decide +kernel
theorem dX5_quotient_338 : decode cX5_quotient 338 = .ok (.getfield 32, 3) := by decide +kernel
theorem dX5_quotient_341 : decode cX5_quotient 341 = .ok (.iload 10, 2) := by decide +kernel
theorem dX5_quotient_343 : decode cX5_quotient 343 = .ok (.iaload, 1) := by decide +kernel
theorem dX5_quotient_344 : decode cX5_quotient 344 = .ok (.iastore, 1) := by decide +kernel
theorem dX5_quotient_345 : decode cX5_quotient 345 = .ok (.iinc 7 1, 3) := by decide +kernel
theorem dX5_quotient_348 : decode cX5_quotient 348 = .ok (.goto (-154), 3) := by decide +kernel
theorem dX5_quotient_351 : decode cX5_quotient 351 = .ok (.iinc 6 1, 3) := by decide +kernel
theorem dX5_quotient_354 : decode cX5_quotient 354 = .ok (.goto (-177), 3) := by decide +kernel
theorem dX5_quotient_357 : decode cX5_quotient 357 = .ok (.iinc 5 1, 3) := by decide +kernel
theorem dX5_quotient_360 : decode cX5_quotient 360 = .ok (.goto (-192), 3) := by decide +kernel
theorem dX5_quotient_363 : decode cX5_quotient 363 = .ok (.iconst 0, 1) := by decide +kernel
theorem dX5_quotient_364 : decode cX5_quotient 364 = .ok (.istore 5, 2) := by decide +kernel
theorem dX5_quotient_366 : decode cX5_quotient 366 = .ok (.iload 5, 2) := by decide +kernel
theorem dX5_quotient_368 : decode cX5_quotient 368 = .ok (.bipush 64, 2) := by decide +kernel
theorem dX5_quotient_370 : decode cX5_quotient 370 = .ok (.if_icmp .ge 23, 3) := by decide +kernel
theorem dX5_quotient_373 : decode cX5_quotient 373 = .ok (.aload_n 0, 1) := by decide +kernel
theorem dX5_quotient_374 : decode cX5_quotient 374 = .ok (.getfield 17, 3) := by decide +kernel
theorem dX5_quotient_377 : decode cX5_quotient 377 = .ok (.iload 5, 2) := by decide +kernel
theorem dX5_quotient_379 : decode cX5_quotient 379 = .ok (.aload_n 0, 1) := by decide +kernel
theorem dX5_quotient_380 : decode cX5_quotient 380 = .ok (.getfield 13, 3) := by decide +kernel
theorem dX5_quotient_383 : decode cX5_quotient 383 = .ok (.iload 5, 2) := by decide +kernel
theorem dX5_quotient_385 : decode cX5_quotient 385 = .ok (.iaload, 1) := by decide +kernel
theorem dX5_quotient_386 : decode cX5_quotient 386 = .ok (.iastore, 1) := by decide +kernel
theorem dX5_quotient_387 : decode cX5_quotient 387 = .ok (.iinc 5 1, 3) := by decide +kernel
theorem dX5_quotient_390 : decode cX5_quotient 390 = .ok (.goto (-24), 3) := by decide +kernel
theorem dX5_quotient_393 : decode cX5_quotient 393 = .ok (.iconst 0, 1) := by decide +kernel
theorem dX5_quotient_394 : decode cX5_quotient 394 = .ok (.istore 5, 2) := by decide +kernel
theorem dX5_quotient_396 : decode cX5_quotient 396 = .ok (.iload 5, 2) := by decide +kernel
theorem dX5_quotient_398 : decode cX5_quotient 398 = .ok (.aload_n 0, 1) := by decide +kernel
theorem dX5_quotient_399 : decode cX5_quotient 399 = .ok (.getfield 7, 3) := by decide +kernel
theorem dX5_quotient_402 : decode cX5_quotient 402 = .ok (.if_icmp .ge 120, 3) := by decide +kernel
theorem dX5_quotient_405 : decode cX5_quotient 405 = .ok (.iconst 0, 1) := by decide +kernel
theorem dX5_quotient_406 : decode cX5_quotient 406 = .ok (.istore 6, 2) := by decide +kernel
theorem dX5_quotient_408 : decode cX5_quotient 408 = .ok (.iload 6, 2) := by decide +kernel
theorem dX5_quotient_410 : decode cX5_quotient 410 = .ok (.aload_n 0, 1) := by decide +kernel
theorem dX5_quotient_411 : decode cX5_quotient 411 = .ok (.getfield 7, 3) := by decide +kernel
theorem dX5_quotient_414 : decode cX5_quotient 414 = .ok (.if_icmp .ge 102, 3) := by decide +kernel
theorem dX5_quotient_417 : decode cX5_quotient 417 = .ok (.aload_n 0, 1) := by decide +kernel
theorem dX5_quotient_418 : decode cX5_quotient 418 = .ok (.getfield 32, 3) := by decide +kernel
theorem dX5_quotient_421 : decode cX5_quotient 421 = .ok (.aload_n 0, 1) := by decide +kernel
theorem dX5_quotient_422 : decode cX5_quotient 422 = .ok (.getfield 17, 3) := by decide +kernel
theorem dX5_quotient_425 : decode cX5_quotient 425 = .ok (.bipush 8, 2) := by decide +kernel
theorem dX5_quotient_427 : decode cX5_quotient 427 = .ok (.iload 5, 2) := by decide +kernel
theorem dX5_quotient_429 : decode cX5_quotient 429 = .ok (.imul, 1) := by decide +kernel
theorem dX5_quotient_430 : decode cX5_quotient 430 = .ok (.iload 6, 2) := by decide +kernel
theorem dX5_quotient_432 : decode cX5_quotient 432 = .ok (.iadd, 1) := by decide +kernel
theorem dX5_quotient_433 : decode cX5_quotient 433 = .ok (.iaload, 1) := by decide +kernel
theorem dX5_quotient_434 : decode cX5_quotient 434 = .ok (.iaload, 1) := by decide +kernel
theorem dX5_quotient_435 : decode cX5_quotient 435 = .ok (.istore 7, 2) := by decide +kernel
theorem dX5_quotient_437 : decode cX5_quotient 437 = .ok (.iconst 0, 1) := by decide +kernel
theorem dX5_quotient_438 : decode cX5_quotient 438 = .ok (.istore 8, 2) := by decide +kernel
theorem dX5_quotient_440 : decode cX5_quotient 440 = .ok (.iconst 0, 1) := by decide +kernel
theorem dX5_quotient_441 : decode cX5_quotient 441 = .ok (.istore 9, 2) := by decide +kernel
theorem dX5_quotient_443 : decode cX5_quotient 443 = .ok (.iload 9, 2) := by decide +kernel
theorem dX5_quotient_445 : decode cX5_quotient 445 = .ok (.iload 7, 2) := by decide +kernel
theorem dX5_quotient_447 : decode cX5_quotient 447 = .ok (.if_icmp .ge 38, 3) := by decide +kernel
theorem dX5_quotient_450 : decode cX5_quotient 450 = .ok (.iload 8, 2) := by decide +kernel
theorem dX5_quotient_452 : decode cX5_quotient 452 = .ok (.iload 9, 2) := by decide +kernel
theorem dX5_quotient_454 : decode cX5_quotient 454 = .ok (.iload 4, 2) := by decide +kernel
theorem dX5_quotient_456 : decode cX5_quotient 456 = .ok (.if_icmp .ge 19, 3) := by decide +kernel
theorem dX5_quotient_459 : decode cX5_quotient 459 = .ok (.aload_n 0, 1) := by decide +kernel
theorem dX5_quotient_460 : decode cX5_quotient 460 = .ok (.getfield 32, 3) := by decide +kernel
theorem dX5_quotient_463 : decode cX5_quotient 463 = .ok (.iload 9, 2) := by decide +kernel
theorem dX5_quotient_465 : decode cX5_quotient 465 = .ok (.iaload, 1) := by decide +kernel
theorem dX5_quotient_466 : decode cX5_quotient 466 = .ok (.iload 9, 2) := by decide +kernel
theorem dX5_quotient_468 : decode cX5_quotient 468 = .ok (.if_icmp .ne 7, 3) := by decide +kernel
theorem dX5_quotient_471 : decode cX5_quotient 471 = .ok (.iconst 1, 1) := by decide +kernel
theorem dX5_quotient_472 : decode cX5_quotient 472 = .ok (.goto 4, 3) := by decide +kernel
theorem dX5_quotient_475 : decode cX5_quotient 475 = .ok (.iconst 0, 1) := by decide +kernel
theorem dX5_quotient_476 : decode cX5_quotient 476 = .ok (.iadd, 1) := by decide +kernel
theorem dX5_quotient_477 : decode cX5_quotient 477 = .ok (.istore 8, 2) := by decide +kernel
theorem dX5_quotient_479 : decode cX5_quotient 479 = .ok (.iinc 9 1, 3) := by decide +kernel
theorem dX5_quotient_482 : decode cX5_quotient 482 = .ok (.goto (-39), 3) := by decide +kernel
theorem dX5_quotient_485 : decode cX5_quotient 485 = .ok (.aload_n 0, 1) := by decide +kernel
theorem dX5_quotient_486 : decode cX5_quotient 486 = .ok (.getfield 13, 3) := by decide +kernel
theorem dX5_quotient_489 : decode cX5_quotient 489 = .ok (.bipush 8, 2) := by decide +kernel
theorem dX5_quotient_491 : decode cX5_quotient 491 = .ok (.aload_n 0, 1) := by decide +kernel
theorem dX5_quotient_492 : decode cX5_quotient 492 = .ok (.getfield 29, 3) := by decide +kernel
theorem dX5_quotient_495 : decode cX5_quotient 495 = .ok (.iload 5, 2) := by decide +kernel
theorem dX5_quotient_497 : decode cX5_quotient 497 = .ok (.iaload, 1) := by decide +kernel
theorem dX5_quotient_498 : decode cX5_quotient 498 = .ok (.imul, 1) := by decide +kernel
theorem dX5_quotient_499 : decode cX5_quotient 499 = .ok (.aload_n 0, 1) := by decide +kernel
theorem dX5_quotient_500 : decode cX5_quotient 500 = .ok (.getfield 29, 3) := by decide +kernel
theorem dX5_quotient_503 : decode cX5_quotient 503 = .ok (.iload 6, 2) := by decide +kernel
theorem dX5_quotient_505 : decode cX5_quotient 505 = .ok (.iaload, 1) := by decide +kernel
theorem dX5_quotient_506 : decode cX5_quotient 506 = .ok (.iadd, 1) := by decide +kernel
theorem dX5_quotient_507 : decode cX5_quotient 507 = .ok (.iload 8, 2) := by decide +kernel
theorem dX5_quotient_509 : decode cX5_quotient 509 = .ok (.iastore, 1) := by decide +kernel
theorem dX5_quotient_510 : decode cX5_quotient 510 = .ok (.iinc 6 1, 3) := by decide +kernel
theorem dX5_quotient_513 : decode cX5_quotient 513 = .ok (.goto (-105), 3) := by decide +kernel
theorem dX5_quotient_516 : decode cX5_quotient 516 = .ok (.iinc 5 1, 3) := by decide +kernel
theorem dX5_quotient_519 : decode cX5_quotient 519 = .ok (.goto (-123), 3) := by decide +kernel
theorem dX5_quotient_522 : decode cX5_quotient 522 = .ok (.aload_n 0, 1) := by decide +kernel
theorem dX5_quotient_523 : decode cX5_quotient 523 = .ok (.iload_n 3, 1) := by decide +kernel
theorem dX5_quotient_524 : decode cX5_quotient 524 = .ok (.putfield 7, 3) := by decide +kernel
theorem dX5_quotient_527 : decode cX5_quotient 527 = .ok (.aload_n 0, 1) := by decide +kernel
theorem dX5_quotient_528 : decode cX5_quotient 528 = .ok (.getfield 7, 3) := by decide +kernel
theorem dX5_quotient_531 : decode cX5_quotient 531 = .ok (.ireturn, 1) := by decide +kernel
theorem dX5_weight_0 : decode cX5_weight 0 = .ok (.aload_n 0, 1) := by decide +kernel
theorem dX5_weight_1 : decode cX5_weight 1 = .ok (.iconst 0, 1) := by decide +kernel
theorem dX5_weight_2 : decode cX5_weight 2 = .ok (.putfield 42, 3) := by decide +kernel
theorem dX5_weight_5 : decode cX5_weight 5 = .ok (.iload_n 1, 1) := by decide +kernel
theorem dX5_weight_6 : decode cX5_weight 6 = .ok (.iconst 0, 1) := by decide +kernel
theorem dX5_weight_7 : decode cX5_weight 7 = .ok (.iconst 4, 1) := by decide +kernel
theorem dX5_weight_8 : decode cX5_weight 8 = .ok (.invokestatic 45, 3) := by decide +kernel
theorem dX5_weight_11 : decode cX5_weight 11 = .ok (.ifCond .eq 13, 3) := by decide +kernel
