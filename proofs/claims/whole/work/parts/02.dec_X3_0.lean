-- decode rows (by program)
theorem dX3_init_0 : decode cX3_init 0 = .ok (.aload_n 0, 1) := by decide +kernel
theorem dX3_init_1 : decode cX3_init 1 = .ok (.invokespecial 3, 3) := by decide +kernel
theorem dX3_init_4 : decode cX3_init 4 = .ok (.aload_n 0, 1) := by decide +kernel
theorem dX3_init_5 : decode cX3_init 5 = .ok (.iconst 5, 1) := by decide +kernel
theorem dX3_init_6 : decode cX3_init 6 = .ok (.newarray .long, 2) := by decide +kernel
theorem dX3_init_8 : decode cX3_init 8 = .ok (.putfield 9, 3) := by decide +kernel
theorem dX3_init_11 : decode cX3_init 11 = .ok (.aload_n 0, 1) := by decide +kernel
theorem dX3_init_12 : decode cX3_init 12 = .ok (.bipush 8, 2) := by decide +kernel
theorem dX3_init_14 : decode cX3_init 14 = .ok (.newarray .long, 2) := by decide +kernel
theorem dX3_init_16 : decode cX3_init 16 = .ok (.putfield 15, 3) := by decide +kernel
theorem dX3_init_19 : decode cX3_init 19 = .ok (.aload_n 0, 1) := by decide +kernel
theorem dX3_init_20 : decode cX3_init 20 = .ok (.bipush 8, 2) := by decide +kernel
theorem dX3_init_22 : decode cX3_init 22 = .ok (.newarray .long, 2) := by decide +kernel
theorem dX3_init_24 : decode cX3_init 24 = .ok (.putfield 18, 3) := by decide +kernel
theorem dX3_init_27 : decode cX3_init 27 = .ok (.aload_n 0, 1) := by decide +kernel
theorem dX3_init_28 : decode cX3_init 28 = .ok (.lconst 1, 1) := by decide +kernel
theorem dX3_init_29 : decode cX3_init 29 = .ok (.putfield 21, 3) := by decide +kernel
theorem dX3_init_32 : decode cX3_init 32 = .ok (.return_, 1) := by decide +kernel
theorem dX3_go_0 : decode cX3_go 0 = .ok (.aload_n 0, 1) := by decide +kernel
theorem dX3_go_1 : decode cX3_go 1 = .ok (.aload_n 1, 1) := by decide +kernel
theorem dX3_go_2 : decode cX3_go 2 = .ok (.aload_n 2, 1) := by decide +kernel
theorem dX3_go_3 : decode cX3_go 3 = .ok (.invokevirtual 25, 3) := by decide +kernel
theorem dX3_go_6 : decode cX3_go 6 = .ok (.lstore 4, 2) := by decide +kernel
theorem dX3_go_8 : decode cX3_go 8 = .ok (.iconst 0, 1) := by decide +kernel
theorem dX3_go_9 : decode cX3_go 9 = .ok (.istore 6, 2) := by decide +kernel
theorem dX3_go_11 : decode cX3_go 11 = .ok (.iload 6, 2) := by decide +kernel
theorem dX3_go_13 : decode cX3_go 13 = .ok (.bipush 8, 2) := by decide +kernel
theorem dX3_go_15 : decode cX3_go 15 = .ok (.if_icmp .ge 26, 3) := by decide +kernel
theorem dX3_go_18 : decode cX3_go 18 = .ok (.aload_n 0, 1) := by decide +kernel
theorem dX3_go_19 : decode cX3_go 19 = .ok (.getfield 15, 3) := by decide +kernel
theorem dX3_go_22 : decode cX3_go 22 = .ok (.iload 6, 2) := by decide +kernel
theorem dX3_go_24 : decode cX3_go 24 = .ok (.iload 6, 2) := by decide +kernel
theorem dX3_go_26 : decode cX3_go 26 = .ok (.ifCond .ne 7, 3) := by decide +kernel
theorem dX3_go_29 : decode cX3_go 29 = .ok (.lconst 1, 1) := by decide +kernel
theorem dX3_go_30 : decode cX3_go 30 = .ok (.goto 4, 3) := by decide +kernel
theorem dX3_go_33 : decode cX3_go 33 = .ok (.lconst 0, 1) := by decide +kernel
theorem dX3_go_34 : decode cX3_go 34 = .ok (.lastore, 1) := by decide +kernel
theorem dX3_go_35 : decode cX3_go 35 = .ok (.iinc 6 1, 3) := by decide +kernel
theorem dX3_go_38 : decode cX3_go 38 = .ok (.goto (-27), 3) := by decide +kernel
theorem dX3_go_41 : decode cX3_go 41 = .ok (.aload_n 0, 1) := by decide +kernel
theorem dX3_go_42 : decode cX3_go 42 = .ok (.lconst 1, 1) := by decide +kernel
theorem dX3_go_43 : decode cX3_go 43 = .ok (.putfield 21, 3) := by decide +kernel
theorem dX3_go_46 : decode cX3_go 46 = .ok (.iconst 0, 1) := by decide +kernel
theorem dX3_go_47 : decode cX3_go 47 = .ok (.istore 6, 2) := by decide +kernel
theorem dX3_go_49 : decode cX3_go 49 = .ok (.iload 6, 2) := by decide +kernel
theorem dX3_go_51 : decode cX3_go 51 = .ok (.iload_n 3, 1) := by decide +kernel
theorem dX3_go_52 : decode cX3_go 52 = .ok (.if_icmp .ge 25, 3) := by decide +kernel
theorem dX3_go_55 : decode cX3_go 55 = .ok (.aload_n 0, 1) := by decide +kernel
theorem dX3_go_56 : decode cX3_go 56 = .ok (.aload_n 1, 1) := by decide +kernel
theorem dX3_go_57 : decode cX3_go 57 = .ok (.invokevirtual 29, 3) := by decide +kernel
theorem dX3_go_60 : decode cX3_go 60 = .ok (.aload_n 0, 1) := by decide +kernel
theorem dX3_go_61 : decode cX3_go 61 = .ok (.dup, 1) := by decide +kernel
theorem dX3_go_62 : decode cX3_go 62 = .ok (.getfield 21, 3) := by decide +kernel
theorem dX3_go_65 : decode cX3_go 65 = .ok (.lload 4, 2) := by decide +kernel
theorem dX3_go_67 : decode cX3_go 67 = .ok (.lmul, 1) := by decide +kernel
theorem dX3_go_68 : decode cX3_go 68 = .ok (.putfield 21, 3) := by decide +kernel
theorem dX3_go_71 : decode cX3_go 71 = .ok (.iinc 6 1, 3) := by decide +kernel
theorem dX3_go_74 : decode cX3_go 74 = .ok (.goto (-25), 3) := by decide +kernel
theorem dX3_go_77 : decode cX3_go 77 = .ok (.return_, 1) := by decide +kernel
theorem dX3_share_0 : decode cX3_share 0 = .ok (.lconst 1, 1) := by decide +kernel
theorem dX3_share_1 : decode cX3_share 1 = .ok (.lstore_n 3, 1) := by decide +kernel
theorem dX3_share_2 : decode cX3_share 2 = .ok (.iconst 0, 1) := by decide +kernel
theorem dX3_share_3 : decode cX3_share 3 = .ok (.istore 5, 2) := by decide +kernel
theorem dX3_share_5 : decode cX3_share 5 = .ok (.iload 5, 2) := by decide +kernel
theorem dX3_share_7 : decode cX3_share 7 = .ok (.aload_n 1, 1) := by decide +kernel
theorem dX3_share_8 : decode cX3_share 8 = .ok (.getfield 33, 3) := by decide +kernel
theorem dX3_share_11 : decode cX3_share 11 = .ok (.if_icmp .ge 21, 3) := by decide +kernel
theorem dX3_share_14 : decode cX3_share 14 = .ok (.lload_n 3, 1) := by decide +kernel
theorem dX3_share_15 : decode cX3_share 15 = .ok (.aload_n 1, 1) := by decide +kernel
theorem dX3_share_16 : decode cX3_share 16 = .ok (.iload 5, 2) := by decide +kernel
theorem dX3_share_18 : decode cX3_share 18 = .ok (.invokevirtual 39, 3) := by decide +kernel
theorem dX3_share_21 : decode cX3_share 21 = .ok (.i2l, 1) := by decide +kernel
theorem dX3_share_22 : decode cX3_share 22 = .ok (.invokestatic 43, 3) := by decide +kernel
theorem dX3_share_25 : decode cX3_share 25 = .ok (.lstore_n 3, 1) := by decide +kernel
theorem dX3_share_26 : decode cX3_share 26 = .ok (.iinc 5 1, 3) := by decide +kernel
theorem dX3_share_29 : decode cX3_share 29 = .ok (.goto (-24), 3) := by decide +kernel
theorem dX3_share_32 : decode cX3_share 32 = .ok (.lconst 0, 1) := by decide +kernel
theorem dX3_share_33 : decode cX3_share 33 = .ok (.lstore 5, 2) := by decide +kernel
theorem dX3_share_35 : decode cX3_share 35 = .ok (.iconst 0, 1) := by decide +kernel
theorem dX3_share_36 : decode cX3_share 36 = .ok (.istore 7, 2) := by decide +kernel
theorem dX3_share_38 : decode cX3_share 38 = .ok (.iload 7, 2) := by decide +kernel
theorem dX3_share_40 : decode cX3_share 40 = .ok (.aload_n 1, 1) := by decide +kernel
theorem dX3_share_41 : decode cX3_share 41 = .ok (.getfield 33, 3) := by decide +kernel
theorem dX3_share_44 : decode cX3_share 44 = .ok (.if_icmp .ge 54, 3) := by decide +kernel
theorem dX3_share_47 : decode cX3_share 47 = .ok (.aload_n 1, 1) := by decide +kernel
theorem dX3_share_48 : decode cX3_share 48 = .ok (.iload 7, 2) := by decide +kernel
theorem dX3_share_50 : decode cX3_share 50 = .ok (.invokevirtual 39, 3) := by decide +kernel
theorem dX3_share_53 : decode cX3_share 53 = .ok (.istore 8, 2) := by decide +kernel
theorem dX3_share_55 : decode cX3_share 55 = .ok (.aload_n 0, 1) := by decide +kernel
theorem dX3_share_56 : decode cX3_share 56 = .ok (.getfield 9, 3) := by decide +kernel
theorem dX3_share_59 : decode cX3_share 59 = .ok (.iload 7, 2) := by decide +kernel
theorem dX3_share_61 : decode cX3_share 61 = .ok (.iload 8, 2) := by decide +kernel
theorem dX3_share_63 : decode cX3_share 63 = .ok (.ifCond .ne 7, 3) := by decide +kernel
theorem dX3_share_66 : decode cX3_share 66 = .ok (.lconst 0, 1) := by decide +kernel
theorem dX3_share_67 : decode cX3_share 67 = .ok (.goto 14, 3) := by decide +kernel
theorem dX3_share_70 : decode cX3_share 70 = .ok (.aload_n 2, 1) := by decide +kernel
theorem dX3_share_71 : decode cX3_share 71 = .ok (.iload 7, 2) := by decide +kernel
theorem dX3_share_73 : decode cX3_share 73 = .ok (.iaload, 1) := by decide +kernel
theorem dX3_share_74 : decode cX3_share 74 = .ok (.i2l, 1) := by decide +kernel
theorem dX3_share_75 : decode cX3_share 75 = .ok (.lload_n 3, 1) := by decide +kernel
theorem dX3_share_76 : decode cX3_share 76 = .ok (.iload 8, 2) := by decide +kernel
theorem dX3_share_78 : decode cX3_share 78 = .ok (.i2l, 1) := by decide +kernel
theorem dX3_share_79 : decode cX3_share 79 = .ok (.ldiv, 1) := by decide +kernel
theorem dX3_share_80 : decode cX3_share 80 = .ok (.lmul, 1) := by decide +kernel
theorem dX3_share_81 : decode cX3_share 81 = .ok (.lastore, 1) := by decide +kernel
theorem dX3_share_82 : decode cX3_share 82 = .ok (.lload 5, 2) := by decide +kernel
theorem dX3_share_84 : decode cX3_share 84 = .ok (.aload_n 2, 1) := by decide +kernel
theorem dX3_share_85 : decode cX3_share 85 = .ok (.iload 7, 2) := by decide +kernel
theorem dX3_share_87 : decode cX3_share 87 = .ok (.iaload, 1) := by decide +kernel
theorem dX3_share_88 : decode cX3_share 88 = .ok (.i2l, 1) := by decide +kernel
theorem dX3_share_89 : decode cX3_share 89 = .ok (.ladd, 1) := by decide +kernel
theorem dX3_share_90 : decode cX3_share 90 = .ok (.lstore 5, 2) := by decide +kernel
theorem dX3_share_92 : decode cX3_share 92 = .ok (.iinc 7 1, 3) := by decide +kernel
theorem dX3_share_95 : decode cX3_share 95 = .ok (.goto (-57), 3) := by decide +kernel
theorem dX3_share_98 : decode cX3_share 98 = .ok (.lload 5, 2) := by decide +kernel
theorem dX3_share_100 : decode cX3_share 100 = .ok (.lload_n 3, 1) := by decide +kernel
theorem dX3_share_101 : decode cX3_share 101 = .ok (.lmul, 1) := by decide +kernel
theorem dX3_share_102 : decode cX3_share 102 = .ok (.lreturn, 1) := by decide +kernel
theorem dX3_step_0 : decode cX3_step 0 = .ok (.iconst 0, 1) := by decide +kernel
theorem dX3_step_1 : decode cX3_step 1 = .ok (.istore_n 2, 1) := by decide +kernel
theorem dX3_step_2 : decode cX3_step 2 = .ok (.iload_n 2, 1) := by decide +kernel
theorem dX3_step_3 : decode cX3_step 3 = .ok (.aload_n 1, 1) := by decide +kernel
theorem dX3_step_4 : decode cX3_step 4 = .ok (.getfield 47, 3) := by decide +kernel
theorem dX3_step_7 : decode cX3_step 7 = .ok (.if_icmp .ge 59, 3) := by decide +kernel
theorem dX3_step_10 : decode cX3_step 10 = .ok (.aload_n 0, 1) := by decide +kernel
theorem dX3_step_11 : decode cX3_step 11 = .ok (.getfield 18, 3) := by decide +kernel
theorem dX3_step_14 : decode cX3_step 14 = .ok (.iload_n 2, 1) := by decide +kernel
theorem dX3_step_15 : decode cX3_step 15 = .ok (.lconst 0, 1) := by decide +kernel
theorem dX3_step_16 : decode cX3_step 16 = .ok (.lastore, 1) := by decide +kernel
theorem dX3_step_17 : decode cX3_step 17 = .ok (.iconst 0, 1) := by decide +kernel
theorem dX3_step_18 : decode cX3_step 18 = .ok (.istore_n 3, 1) := by decide +kernel
theorem dX3_step_19 : decode cX3_step 19 = .ok (.iload_n 3, 1) := by decide +kernel
theorem dX3_step_20 : decode cX3_step 20 = .ok (.aload_n 1, 1) := by decide +kernel
theorem dX3_step_21 : decode cX3_step 21 = .ok (.getfield 47, 3) := by decide +kernel
theorem dX3_step_24 : decode cX3_step 24 = .ok (.if_icmp .ge 36, 3) := by decide +kernel
theorem dX3_step_27 : decode cX3_step 27 = .ok (.aload_n 0, 1) := by decide +kernel
theorem dX3_step_28 : decode cX3_step 28 = .ok (.getfield 18, 3) := by decide +kernel
theorem dX3_step_31 : decode cX3_step 31 = .ok (.iload_n 2, 1) := by decide +kernel
theorem dX3_step_32 : decode cX3_step 32 = .ok (.dup2, 1) := by decide +kernel
theorem dX3_step_33 : decode cX3_step 33 = .ok (.laload, 1) := by decide +kernel
theorem dX3_step_34 : decode cX3_step 34 = .ok (.aload_n 0, 1) := by decide +kernel
theorem dX3_step_35 : decode cX3_step 35 = .ok (.getfield 15, 3) := by decide +kernel
theorem dX3_step_38 : decode cX3_step 38 = .ok (.iload_n 3, 1) := by decide +kernel
theorem dX3_step_39 : decode cX3_step 39 = .ok (.laload, 1) := by decide +kernel
theorem dX3_step_40 : decode cX3_step 40 = .ok (.aload_n 0, 1) := by decide +kernel
theorem dX3_step_41 : decode cX3_step 41 = .ok (.getfield 9, 3) := by decide +kernel
theorem dX3_step_44 : decode cX3_step 44 = .ok (.aload_n 1, 1) := by decide +kernel
theorem dX3_step_45 : decode cX3_step 45 = .ok (.iload_n 3, 1) := by decide +kernel
theorem dX3_step_46 : decode cX3_step 46 = .ok (.iload_n 2, 1) := by decide +kernel
theorem dX3_step_47 : decode cX3_step 47 = .ok (.invokevirtual 50, 3) := by decide +kernel
theorem dX3_step_50 : decode cX3_step 50 = .ok (.laload, 1) := by decide +kernel
theorem dX3_step_51 : decode cX3_step 51 = .ok (.lmul, 1) := by decide +kernel
theorem dX3_step_52 : decode cX3_step 52 = .ok (.ladd, 1) := by decide +kernel
theorem dX3_step_53 : decode cX3_step 53 = .ok (.lastore, 1) := by decide +kernel
theorem dX3_step_54 : decode cX3_step 54 = .ok (.iinc 3 1, 3) := by decide +kernel
theorem dX3_step_57 : decode cX3_step 57 = .ok (.goto (-38), 3) := by decide +kernel
theorem dX3_step_60 : decode cX3_step 60 = .ok (.iinc 2 1, 3) := by decide +kernel
theorem dX3_step_63 : decode cX3_step 63 = .ok (.goto (-61), 3) := by decide +kernel
theorem dX3_step_66 : decode cX3_step 66 = .ok (.iconst 0, 1) := by decide +kernel
theorem dX3_step_67 : decode cX3_step 67 = .ok (.istore_n 2, 1) := by decide +kernel
theorem dX3_step_68 : decode cX3_step 68 = .ok (.iload_n 2, 1) := by decide +kernel
theorem dX3_step_69 : decode cX3_step 69 = .ok (.aload_n 1, 1) := by decide +kernel
theorem dX3_step_70 : decode cX3_step 70 = .ok (.getfield 47, 3) := by decide +kernel
theorem dX3_step_73 : decode cX3_step 73 = .ok (.if_icmp .ge 21, 3) := by decide +kernel
theorem dX3_step_76 : decode cX3_step 76 = .ok (.aload_n 0, 1) := by decide +kernel
theorem dX3_step_77 : decode cX3_step 77 = .ok (.getfield 15, 3) := by decide +kernel
theorem dX3_step_80 : decode cX3_step 80 = .ok (.iload_n 2, 1) := by decide +kernel
theorem dX3_step_81 : decode cX3_step 81 = .ok (.aload_n 0, 1) := by decide +kernel
theorem dX3_step_82 : decode cX3_step 82 = .ok (.getfield 18, 3) := by decide +kernel
theorem dX3_step_85 : decode cX3_step 85 = .ok (.iload_n 2, 1) := by decide +kernel
theorem dX3_step_86 : decode cX3_step 86 = .ok (.laload, 1) := by decide +kernel
theorem dX3_step_87 : decode cX3_step 87 = .ok (.lastore, 1) := by decide +kernel
theorem dX3_step_88 : decode cX3_step 88 = .ok (.iinc 2 1, 3) := by decide +kernel
theorem dX3_step_91 : decode cX3_step 91 = .ok (.goto (-23), 3) := by decide +kernel
theorem dX3_step_94 : decode cX3_step 94 = .ok (.return_, 1) := by decide +kernel
theorem dX3_waysTo_0 : decode cX3_waysTo 0 = .ok (.lconst 0, 1) := by decide +kernel
theorem dX3_waysTo_1 : decode cX3_waysTo 1 = .ok (.lstore_n 3, 1) := by decide +kernel
theorem dX3_waysTo_2 : decode cX3_waysTo 2 = .ok (.iconst 0, 1) := by decide +kernel
theorem dX3_waysTo_3 : decode cX3_waysTo 3 = .ok (.istore 5, 2) := by decide +kernel
theorem dX3_waysTo_5 : decode cX3_waysTo 5 = .ok (.iload 5, 2) := by decide +kernel
theorem dX3_waysTo_7 : decode cX3_waysTo 7 = .ok (.aload_n 1, 1) := by decide +kernel
theorem dX3_waysTo_8 : decode cX3_waysTo 8 = .ok (.getfield 47, 3) := by decide +kernel
theorem dX3_waysTo_11 : decode cX3_waysTo 11 = .ok (.if_icmp .ge 30, 3) := by decide +kernel
theorem dX3_waysTo_14 : decode cX3_waysTo 14 = .ok (.aload_n 1, 1) := by decide +kernel
theorem dX3_waysTo_15 : decode cX3_waysTo 15 = .ok (.iconst 0, 1) := by decide +kernel
theorem dX3_waysTo_16 : decode cX3_waysTo 16 = .ok (.iload 5, 2) := by decide +kernel
theorem dX3_waysTo_18 : decode cX3_waysTo 18 = .ok (.invokevirtual 50, 3) := by decide +kernel
theorem dX3_waysTo_21 : decode cX3_waysTo 21 = .ok (.iload_n 2, 1) := by decide +kernel
theorem dX3_waysTo_22 : decode cX3_waysTo 22 = .ok (.if_icmp .ne 13, 3) := by decide +kernel
theorem dX3_waysTo_25 : decode cX3_waysTo 25 = .ok (.lload_n 3, 1) := by decide +kernel
theorem dX3_waysTo_26 : decode cX3_waysTo 26 = .ok (.aload_n 0, 1) := by decide +kernel
theorem dX3_waysTo_27 : decode cX3_waysTo 27 = .ok (.getfield 15, 3) := by decide +kernel
theorem dX3_waysTo_30 : decode cX3_waysTo 30 = .ok (.iload 5, 2) := by decide +kernel
theorem dX3_waysTo_32 : decode cX3_waysTo 32 = .ok (.laload, 1) := by decide +kernel
theorem dX3_waysTo_33 : decode cX3_waysTo 33 = .ok (.ladd, 1) := by decide +kernel
theorem dX3_waysTo_34 : decode cX3_waysTo 34 = .ok (.lstore_n 3, 1) := by decide +kernel
theorem dX3_waysTo_35 : decode cX3_waysTo 35 = .ok (.iinc 5 1, 3) := by decide +kernel
theorem dX3_waysTo_38 : decode cX3_waysTo 38 = .ok (.goto (-33), 3) := by decide +kernel
theorem dX3_waysTo_41 : decode cX3_waysTo 41 = .ok (.lload_n 3, 1) := by decide +kernel
theorem dX3_waysTo_42 : decode cX3_waysTo 42 = .ok (.lreturn, 1) := by decide +kernel
theorem dX3_commonMultiple_0 : decode cX3_commonMultiple 0 = .ok (.lload_n 0, 1) := by decide +kernel
theorem dX3_commonMultiple_1 : decode cX3_commonMultiple 1 = .ok (.lload_n 2, 1) := by decide +kernel
theorem dX3_commonMultiple_2 : decode cX3_commonMultiple 2 = .ok (.invokestatic 54, 3) := by decide +kernel
theorem dX3_commonMultiple_5 : decode cX3_commonMultiple 5 = .ok (.lstore 4, 2) := by decide +kernel
theorem dX3_commonMultiple_7 : decode cX3_commonMultiple 7 = .ok (.lload 4, 2) := by decide +kernel
theorem dX3_commonMultiple_9 : decode cX3_commonMultiple 9 = .ok (.lconst 0, 1) := by decide +kernel
theorem dX3_commonMultiple_10 : decode cX3_commonMultiple 10 = .ok (.lcmp, 1) := by decide +kernel
theorem dX3_commonMultiple_11 : decode cX3_commonMultiple 11 = .ok (.ifCond .ne 7, 3) := by decide +kernel
theorem dX3_commonMultiple_14 : decode cX3_commonMultiple 14 = .ok (.lconst 0, 1) := by decide +kernel
theorem dX3_commonMultiple_15 : decode cX3_commonMultiple 15 = .ok (.goto 9, 3) := by decide +kernel
theorem dX3_commonMultiple_18 : decode cX3_commonMultiple 18 = .ok (.lload_n 0, 1) := by decide +kernel
theorem dX3_commonMultiple_19 : decode cX3_commonMultiple 19 = .ok (.lload 4, 2) := by decide +kernel
theorem dX3_commonMultiple_21 : decode cX3_commonMultiple 21 = .ok (.ldiv, 1) := by decide +kernel
theorem dX3_commonMultiple_22 : decode cX3_commonMultiple 22 = .ok (.lload_n 2, 1) := by decide +kernel
theorem dX3_commonMultiple_23 : decode cX3_commonMultiple 23 = .ok (.lmul, 1) := by decide +kernel
theorem dX3_commonMultiple_24 : decode cX3_commonMultiple 24 = .ok (.lreturn, 1) := by decide +kernel
theorem dX3_commonDivisor_0 : decode cX3_commonDivisor 0 = .ok (.lload_n 0, 1) := by decide +kernel
theorem dX3_commonDivisor_1 : decode cX3_commonDivisor 1 = .ok (.lstore 4, 2) := by decide +kernel
theorem dX3_commonDivisor_3 : decode cX3_commonDivisor 3 = .ok (.lload_n 2, 1) := by decide +kernel
theorem dX3_commonDivisor_4 : decode cX3_commonDivisor 4 = .ok (.lstore 6, 2) := by decide +kernel
theorem dX3_commonDivisor_6 : decode cX3_commonDivisor 6 = .ok (.iconst 0, 1) := by decide +kernel
theorem dX3_commonDivisor_7 : decode cX3_commonDivisor 7 = .ok (.istore 8, 2) := by decide +kernel
theorem dX3_commonDivisor_9 : decode cX3_commonDivisor 9 = .ok (.iload 8, 2) := by decide +kernel
theorem dX3_commonDivisor_11 : decode cX3_commonDivisor 11 = .ok (.sipush 200, 3) := by decide +kernel
theorem dX3_commonDivisor_14 : decode cX3_commonDivisor 14 = .ok (.if_icmp .ge 31, 3) := by decide +kernel
theorem dX3_commonDivisor_17 : decode cX3_commonDivisor 17 = .ok (.lload 6, 2) := by decide +kernel
theorem dX3_commonDivisor_19 : decode cX3_commonDivisor 19 = .ok (.lconst 0, 1) := by decide +kernel
theorem dX3_commonDivisor_20 : decode cX3_commonDivisor 20 = .ok (.lcmp, 1) := by decide +kernel
theorem dX3_commonDivisor_21 : decode cX3_commonDivisor 21 = .ok (.ifCond .eq 24, 3) := by decide +kernel
theorem dX3_commonDivisor_24 : decode cX3_commonDivisor 24 = .ok (.lload 4, 2) := by decide +kernel
theorem dX3_commonDivisor_26 : decode cX3_commonDivisor 26 = .ok (.lload 6, 2) := by decide +kernel
theorem dX3_commonDivisor_28 : decode cX3_commonDivisor 28 = .ok (.lrem, 1) := by decide +kernel
theorem dX3_commonDivisor_29 : decode cX3_commonDivisor 29 = .ok (.lstore 9, 2) := by decide +kernel
theorem dX3_commonDivisor_31 : decode cX3_commonDivisor 31 = .ok (.lload 6, 2) := by decide +kernel
theorem dX3_commonDivisor_33 : decode cX3_commonDivisor 33 = .ok (.lstore 4, 2) := by decide +kernel
theorem dX3_commonDivisor_35 : decode cX3_commonDivisor 35 = .ok (.lload 9, 2) := by decide +kernel
theorem dX3_commonDivisor_37 : decode cX3_commonDivisor 37 = .ok (.lstore 6, 2) := by decide +kernel
theorem dX3_commonDivisor_39 : decode cX3_commonDivisor 39 = .ok (.iinc 8 1, 3) := by decide +kernel
theorem dX3_commonDivisor_42 : decode cX3_commonDivisor 42 = .ok (.goto (-33), 3) := by decide +kernel
theorem dX3_commonDivisor_45 : decode cX3_commonDivisor 45 = .ok (.lload 4, 2) := by decide +kernel
theorem dX3_commonDivisor_47 : decode cX3_commonDivisor 47 = .ok (.lreturn, 1) := by decide +kernel
