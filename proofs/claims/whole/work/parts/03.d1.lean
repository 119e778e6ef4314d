theorem dX0_init_0 : decode cX0_init 0 = .ok (.aload_n 0, 1) := by decide +kernel
theorem dX0_init_1 : decode cX0_init 1 = .ok (.invokespecial 3, 3) := by decide +kernel
theorem dX0_init_4 : decode cX0_init 4 = .ok (.aload_n 0, 1) := by decide +kernel
theorem dX0_init_5 : decode cX0_init 5 = .ok (.sipush 192, 3) := by decide +kernel
theorem dX0_init_8 : decode cX0_init 8 = .ok (.newarray .int, 2) := by decide +kernel
theorem dX0_init_10 : decode cX0_init 10 = .ok (.putfield 9, 3) := by decide +kernel
theorem dX0_init_13 : decode cX0_init 13 = .ok (.aload_n 0, 1) := by decide +kernel
theorem dX0_init_14 : decode cX0_init 14 = .ok (.iconst 0, 1) := by decide +kernel
theorem dX0_init_15 : decode cX0_init 15 = .ok (.putfield 15, 3) := by decide +kernel
theorem dX0_init_18 : decode cX0_init 18 = .ok (.aload_n 0, 1) := by decide +kernel
theorem dX0_init_19 : decode cX0_init 19 = .ok (.iconst 0, 1) := by decide +kernel
theorem dX0_init_20 : decode cX0_init 20 = .ok (.putfield 19, 3) := by decide +kernel
theorem dX0_init_23 : decode cX0_init 23 = .ok (.return_, 1) := by decide +kernel
theorem dX0_findBest_0 : decode cX0_findBest 0 = .ok (.aload_n 1, 1) := by decide +kernel
theorem dX0_findBest_1 : decode cX0_findBest 1 = .ok (.iload_n 2, 1) := by decide +kernel
theorem dX0_findBest_2 : decode cX0_findBest 2 = .ok (.invokevirtual 22, 3) := by decide +kernel
theorem dX0_findBest_5 : decode cX0_findBest 5 = .ok (.istore 4, 2) := by decide +kernel
theorem dX0_findBest_7 : decode cX0_findBest 7 = .ok (.aload_n 0, 1) := by decide +kernel
theorem dX0_findBest_8 : decode cX0_findBest 8 = .ok (.aload_n 1, 1) := by decide +kernel
theorem dX0_findBest_9 : decode cX0_findBest 9 = .ok (.iload_n 2, 1) := by decide +kernel
theorem dX0_findBest_10 : decode cX0_findBest 10 = .ok (.iload_n 3, 1) := by decide +kernel
theorem dX0_findBest_11 : decode cX0_findBest 11 = .ok (.iload 4, 2) := by decide +kernel
theorem dX0_findBest_13 : decode cX0_findBest 13 = .ok (.invokevirtual 28, 3) := by decide +kernel
theorem dX0_findBest_16 : decode cX0_findBest 16 = .ok (.iconst 1, 1) := by decide +kernel
theorem dX0_findBest_17 : decode cX0_findBest 17 = .ok (.istore 5, 2) := by decide +kernel
theorem dX0_findBest_19 : decode cX0_findBest 19 = .ok (.iconst 0, 1) := by decide +kernel
theorem dX0_findBest_20 : decode cX0_findBest 20 = .ok (.istore 6, 2) := by decide +kernel
theorem dX0_findBest_22 : decode cX0_findBest 22 = .ok (.iload 6, 2) := by decide +kernel
theorem dX0_findBest_24 : decode cX0_findBest 24 = .ok (.bipush 6, 2) := by decide +kernel
theorem dX0_findBest_26 : decode cX0_findBest 26 = .ok (.if_icmp .ge 25, 3) := by decide +kernel
theorem dX0_findBest_29 : decode cX0_findBest 29 = .ok (.iload 4, 2) := by decide +kernel
theorem dX0_findBest_31 : decode cX0_findBest 31 = .ok (.iload 6, 2) := by decide +kernel
theorem dX0_findBest_33 : decode cX0_findBest 33 = .ok (.invokestatic 32, 3) := by decide +kernel
theorem dX0_findBest_36 : decode cX0_findBest 36 = .ok (.ifCond .eq 9, 3) := by decide +kernel
theorem dX0_findBest_39 : decode cX0_findBest 39 = .ok (.iload 5, 2) := by decide +kernel
theorem dX0_findBest_41 : decode cX0_findBest 41 = .ok (.iload_n 3, 1) := by decide +kernel
theorem dX0_findBest_42 : decode cX0_findBest 42 = .ok (.imul, 1) := by decide +kernel
theorem dX0_findBest_43 : decode cX0_findBest 43 = .ok (.istore 5, 2) := by decide +kernel
theorem dX0_findBest_45 : decode cX0_findBest 45 = .ok (.iinc 6 1, 3) := by decide +kernel
theorem dX0_findBest_48 : decode cX0_findBest 48 = .ok (.goto (-26), 3) := by decide +kernel
theorem dX0_findBest_51 : decode cX0_findBest 51 = .ok (.aload_n 0, 1) := by decide +kernel
theorem dX0_findBest_52 : decode cX0_findBest 52 = .ok (.bipush (-9), 2) := by decide +kernel
theorem dX0_findBest_54 : decode cX0_findBest 54 = .ok (.putfield 15, 3) := by decide +kernel
theorem dX0_findBest_57 : decode cX0_findBest 57 = .ok (.iconst 0, 1) := by decide +kernel
theorem dX0_findBest_58 : decode cX0_findBest 58 = .ok (.istore 6, 2) := by decide +kernel
theorem dX0_findBest_60 : decode cX0_findBest 60 = .ok (.iload 6, 2) := by decide +kernel
theorem dX0_findBest_62 : decode cX0_findBest 62 = .ok (.iload 5, 2) := by decide +kernel
theorem dX0_findBest_64 : decode cX0_findBest 64 = .ok (.if_icmp .ge 50, 3) := by decide +kernel
theorem dX0_findBest_67 : decode cX0_findBest 67 = .ok (.aload_n 0, 1) := by decide +kernel
theorem dX0_findBest_68 : decode cX0_findBest 68 = .ok (.iload 6, 2) := by decide +kernel
theorem dX0_findBest_70 : decode cX0_findBest 70 = .ok (.iload_n 3, 1) := by decide +kernel
theorem dX0_findBest_71 : decode cX0_findBest 71 = .ok (.iload 4, 2) := by decide +kernel
theorem dX0_findBest_73 : decode cX0_findBest 73 = .ok (.invokevirtual 36, 3) := by decide +kernel
theorem dX0_findBest_76 : decode cX0_findBest 76 = .ok (.istore 7, 2) := by decide +kernel
theorem dX0_findBest_78 : decode cX0_findBest 78 = .ok (.aload_n 0, 1) := by decide +kernel
theorem dX0_findBest_79 : decode cX0_findBest 79 = .ok (.iload 7, 2) := by decide +kernel
theorem dX0_findBest_81 : decode cX0_findBest 81 = .ok (.iload_n 3, 1) := by decide +kernel
theorem dX0_findBest_82 : decode cX0_findBest 82 = .ok (.invokevirtual 40, 3) := by decide +kernel
theorem dX0_findBest_85 : decode cX0_findBest 85 = .ok (.istore 8, 2) := by decide +kernel
theorem dX0_findBest_87 : decode cX0_findBest 87 = .ok (.iload 8, 2) := by decide +kernel
theorem dX0_findBest_89 : decode cX0_findBest 89 = .ok (.aload_n 0, 1) := by decide +kernel
theorem dX0_findBest_90 : decode cX0_findBest 90 = .ok (.getfield 15, 3) := by decide +kernel
theorem dX0_findBest_93 : decode cX0_findBest 93 = .ok (.if_icmp .le 15, 3) := by decide +kernel
theorem dX0_findBest_96 : decode cX0_findBest 96 = .ok (.aload_n 0, 1) := by decide +kernel
theorem dX0_findBest_97 : decode cX0_findBest 97 = .ok (.iload 8, 2) := by decide +kernel
theorem dX0_findBest_99 : decode cX0_findBest 99 = .ok (.putfield 15, 3) := by decide +kernel
theorem dX0_findBest_102 : decode cX0_findBest 102 = .ok (.aload_n 0, 1) := by decide +kernel
theorem dX0_findBest_103 : decode cX0_findBest 103 = .ok (.iload 7, 2) := by decide +kernel
theorem dX0_findBest_105 : decode cX0_findBest 105 = .ok (.putfield 19, 3) := by decide +kernel
theorem dX0_findBest_108 : decode cX0_findBest 108 = .ok (.iinc 6 1, 3) := by decide +kernel
theorem dX0_findBest_111 : decode cX0_findBest 111 = .ok (.goto (-51), 3) := by decide +kernel
theorem dX0_findBest_114 : decode cX0_findBest 114 = .ok (.return_, 1) := by decide +kernel
theorem dX0_dayOf_0 : decode cX0_dayOf 0 = .ok (.iconst 0, 1) := by decide +kernel
theorem dX0_dayOf_1 : decode cX0_dayOf 1 = .ok (.istore_n 2, 1) := by decide +kernel
theorem dX0_dayOf_2 : decode cX0_dayOf 2 = .ok (.iload_n 2, 1) := by decide +kernel
theorem dX0_dayOf_3 : decode cX0_dayOf 3 = .ok (.iconst 3, 1) := by decide +kernel
theorem dX0_dayOf_4 : decode cX0_dayOf 4 = .ok (.if_icmp .ge 27, 3) := by decide +kernel
theorem dX0_dayOf_7 : decode cX0_dayOf 7 = .ok (.aload_n 0, 1) := by decide +kernel
theorem dX0_dayOf_8 : decode cX0_dayOf 8 = .ok (.getfield 19, 3) := by decide +kernel
theorem dX0_dayOf_11 : decode cX0_dayOf 11 = .ok (.iload_n 2, 1) := by decide +kernel
theorem dX0_dayOf_12 : decode cX0_dayOf 12 = .ok (.bipush 6, 2) := by decide +kernel
theorem dX0_dayOf_14 : decode cX0_dayOf 14 = .ok (.imul, 1) := by decide +kernel
theorem dX0_dayOf_15 : decode cX0_dayOf 15 = .ok (.iload_n 1, 1) := by decide +kernel
theorem dX0_dayOf_16 : decode cX0_dayOf 16 = .ok (.iadd, 1) := by decide +kernel
theorem dX0_dayOf_17 : decode cX0_dayOf 17 = .ok (.invokestatic 32, 3) := by decide +kernel
theorem dX0_dayOf_20 : decode cX0_dayOf 20 = .ok (.ifCond .eq 5, 3) := by decide +kernel
theorem dX0_dayOf_23 : decode cX0_dayOf 23 = .ok (.iload_n 2, 1) := by decide +kernel
theorem dX0_dayOf_24 : decode cX0_dayOf 24 = .ok (.ireturn, 1) := by decide +kernel
theorem dX0_dayOf_25 : decode cX0_dayOf 25 = .ok (.iinc 2 1, 3) := by decide +kernel
theorem dX0_dayOf_28 : decode cX0_dayOf 28 = .ok (.goto (-26), 3) := by decide +kernel
theorem dX0_dayOf_31 : decode cX0_dayOf 31 = .ok (.bipush (-9), 2) := by decide +kernel
theorem dX0_dayOf_33 : decode cX0_dayOf 33 = .ok (.ireturn, 1) := by decide +kernel
theorem dX0_weighDays_0 : decode cX0_weighDays 0 = .ok (.iconst 0, 1) := by decide +kernel
theorem dX0_weighDays_1 : decode cX0_weighDays 1 = .ok (.istore 5, 2) := by decide +kernel
theorem dX0_weighDays_3 : decode cX0_weighDays 3 = .ok (.iload 5, 2) := by decide +kernel
theorem dX0_weighDays_5 : decode cX0_weighDays 5 = .ok (.iload_n 3, 1) := by decide +kernel
theorem dX0_weighDays_6 : decode cX0_weighDays 6 = .ok (.if_icmp .ge 83, 3) := by decide +kernel
theorem dX0_weighDays_9 : decode cX0_weighDays 9 = .ok (.iload 5, 2) := by decide +kernel
theorem dX0_weighDays_11 : decode cX0_weighDays 11 = .ok (.ifCond .ne 15, 3) := by decide +kernel
theorem dX0_weighDays_14 : decode cX0_weighDays 14 = .ok (.aload_n 1, 1) := by decide +kernel
theorem dX0_weighDays_15 : decode cX0_weighDays 15 = .ok (.iload_n 2, 1) := by decide +kernel
theorem dX0_weighDays_16 : decode cX0_weighDays 16 = .ok (.invokevirtual 44, 3) := by decide +kernel
theorem dX0_weighDays_19 : decode cX0_weighDays 19 = .ok (.ifCond .eq 7, 3) := by decide +kernel
theorem dX0_weighDays_22 : decode cX0_weighDays 22 = .ok (.iconst 1, 1) := by decide +kernel
theorem dX0_weighDays_23 : decode cX0_weighDays 23 = .ok (.goto 4, 3) := by decide +kernel
theorem dX0_weighDays_26 : decode cX0_weighDays 26 = .ok (.iconst 0, 1) := by decide +kernel
theorem dX0_weighDays_27 : decode cX0_weighDays 27 = .ok (.istore 6, 2) := by decide +kernel
theorem dX0_weighDays_29 : decode cX0_weighDays 29 = .ok (.iconst 0, 1) := by decide +kernel
theorem dX0_weighDays_30 : decode cX0_weighDays 30 = .ok (.istore 7, 2) := by decide +kernel
theorem dX0_weighDays_32 : decode cX0_weighDays 32 = .ok (.iload 7, 2) := by decide +kernel
theorem dX0_weighDays_34 : decode cX0_weighDays 34 = .ok (.bipush 64, 2) := by decide +kernel
theorem dX0_weighDays_36 : decode cX0_weighDays 36 = .ok (.if_icmp .ge 47, 3) := by decide +kernel
theorem dX0_weighDays_39 : decode cX0_weighDays 39 = .ok (.iload 7, 2) := by decide +kernel
theorem dX0_weighDays_41 : decode cX0_weighDays 41 = .ok (.iload 4, 2) := by decide +kernel
theorem dX0_weighDays_43 : decode cX0_weighDays 43 = .ok (.invokestatic 48, 3) := by decide +kernel
theorem dX0_weighDays_46 : decode cX0_weighDays 46 = .ok (.ifCond .eq 31, 3) := by decide +kernel
theorem dX0_weighDays_49 : decode cX0_weighDays 49 = .ok (.aload_n 0, 1) := by decide +kernel
theorem dX0_weighDays_50 : decode cX0_weighDays 50 = .ok (.getfield 9, 3) := by decide +kernel
theorem dX0_weighDays_53 : decode cX0_weighDays 53 = .ok (.iload 5, 2) := by decide +kernel
theorem dX0_weighDays_55 : decode cX0_weighDays 55 = .ok (.bipush 64, 2) := by decide +kernel
theorem dX0_weighDays_57 : decode cX0_weighDays 57 = .ok (.imul, 1) := by decide +kernel
theorem dX0_weighDays_58 : decode cX0_weighDays 58 = .ok (.iload 7, 2) := by decide +kernel
theorem dX0_weighDays_60 : decode cX0_weighDays 60 = .ok (.iadd, 1) := by decide +kernel
theorem dX0_weighDays_61 : decode cX0_weighDays 61 = .ok (.aload_n 1, 1) := by decide +kernel
theorem dX0_weighDays_62 : decode cX0_weighDays 62 = .ok (.iload 7, 2) := by decide +kernel
theorem dX0_weighDays_64 : decode cX0_weighDays 64 = .ok (.aload_n 1, 1) := by decide +kernel
theorem dX0_weighDays_65 : decode cX0_weighDays 65 = .ok (.getfield 51, 3) := by decide +kernel
theorem dX0_weighDays_68 : decode cX0_weighDays 68 = .ok (.iload 5, 2) := by decide +kernel
theorem dX0_weighDays_70 : decode cX0_weighDays 70 = .ok (.iadd, 1) := by decide +kernel
theorem dX0_weighDays_71 : decode cX0_weighDays 71 = .ok (.iload 6, 2) := by decide +kernel
theorem dX0_weighDays_73 : decode cX0_weighDays 73 = .ok (.invokevirtual 54, 3) := by decide +kernel
theorem dX0_weighDays_76 : decode cX0_weighDays 76 = .ok (.iastore, 1) := by decide +kernel
theorem dX0_weighDays_77 : decode cX0_weighDays 77 = .ok (.iinc 7 1, 3) := by decide +kernel
theorem dX0_weighDays_80 : decode cX0_weighDays 80 = .ok (.goto (-48), 3) := by decide +kernel
theorem dX0_weighDays_83 : decode cX0_weighDays 83 = .ok (.iinc 5 1, 3) := by decide +kernel
theorem dX0_weighDays_86 : decode cX0_weighDays 86 = .ok (.goto (-83), 3) := by decide +kernel
theorem dX0_weighDays_89 : decode cX0_weighDays 89 = .ok (.return_, 1) := by decide +kernel
theorem dX0_setsOfDays_0 : decode cX0_setsOfDays 0 = .ok (.iconst 0, 1) := by decide +kernel
theorem dX0_setsOfDays_1 : decode cX0_setsOfDays 1 = .ok (.istore 4, 2) := by decide +kernel
theorem dX0_setsOfDays_3 : decode cX0_setsOfDays 3 = .ok (.iload_n 1, 1) := by decide +kernel
theorem dX0_setsOfDays_4 : decode cX0_setsOfDays 4 = .ok (.istore 5, 2) := by decide +kernel
theorem dX0_setsOfDays_6 : decode cX0_setsOfDays 6 = .ok (.iconst 5, 1) := by decide +kernel
theorem dX0_setsOfDays_7 : decode cX0_setsOfDays 7 = .ok (.istore 6, 2) := by decide +kernel
theorem dX0_setsOfDays_9 : decode cX0_setsOfDays 9 = .ok (.iload 6, 2) := by decide +kernel
theorem dX0_setsOfDays_11 : decode cX0_setsOfDays 11 = .ok (.ifCond .lt 41, 3) := by decide +kernel
theorem dX0_setsOfDays_14 : decode cX0_setsOfDays 14 = .ok (.iload_n 3, 1) := by decide +kernel
theorem dX0_setsOfDays_15 : decode cX0_setsOfDays 15 = .ok (.iload 6, 2) := by decide +kernel
theorem dX0_setsOfDays_17 : decode cX0_setsOfDays 17 = .ok (.invokestatic 32, 3) := by decide +kernel
theorem dX0_setsOfDays_20 : decode cX0_setsOfDays 20 = .ok (.ifCond .eq 26, 3) := by decide +kernel
theorem dX0_setsOfDays_23 : decode cX0_setsOfDays 23 = .ok (.iload 4, 2) := by decide +kernel
theorem dX0_setsOfDays_25 : decode cX0_setsOfDays 25 = .ok (.iconst 1, 1) := by decide +kernel
theorem dX0_setsOfDays_26 : decode cX0_setsOfDays 26 = .ok (.iload 5, 2) := by decide +kernel
theorem dX0_setsOfDays_28 : decode cX0_setsOfDays 28 = .ok (.iload_n 2, 1) := by decide +kernel
theorem dX0_setsOfDays_29 : decode cX0_setsOfDays 29 = .ok (.irem, 1) := by decide +kernel
theorem dX0_setsOfDays_30 : decode cX0_setsOfDays 30 = .ok (.bipush 6, 2) := by decide +kernel
theorem dX0_setsOfDays_32 : decode cX0_setsOfDays 32 = .ok (.imul, 1) := by decide +kernel
theorem dX0_setsOfDays_33 : decode cX0_setsOfDays 33 = .ok (.iload 6, 2) := by decide +kernel
theorem dX0_setsOfDays_35 : decode cX0_setsOfDays 35 = .ok (.iadd, 1) := by decide +kernel
theorem dX0_setsOfDays_36 : decode cX0_setsOfDays 36 = .ok (.ishl, 1) := by decide +kernel
theorem dX0_setsOfDays_37 : decode cX0_setsOfDays 37 = .ok (.ior, 1) := by decide +kernel
theorem dX0_setsOfDays_38 : decode cX0_setsOfDays 38 = .ok (.istore 4, 2) := by decide +kernel
theorem dX0_setsOfDays_40 : decode cX0_setsOfDays 40 = .ok (.iload 5, 2) := by decide +kernel
theorem dX0_setsOfDays_42 : decode cX0_setsOfDays 42 = .ok (.iload_n 2, 1) := by decide +kernel
theorem dX0_setsOfDays_43 : decode cX0_setsOfDays 43 = .ok (.idiv, 1) := by decide +kernel
theorem dX0_setsOfDays_44 : decode cX0_setsOfDays 44 = .ok (.istore 5, 2) := by decide +kernel
theorem dX0_setsOfDays_46 : decode cX0_setsOfDays 46 = .ok (.iinc 6 (-1), 3) := by decide +kernel
theorem dX0_setsOfDays_49 : decode cX0_setsOfDays 49 = .ok (.goto (-40), 3) := by decide +kernel
theorem dX0_setsOfDays_52 : decode cX0_setsOfDays 52 = .ok (.iload 4, 2) := by decide +kernel
theorem dX0_setsOfDays_54 : decode cX0_setsOfDays 54 = .ok (.ireturn, 1) := by decide +kernel
theorem dX0_joyOfDays_0 : decode cX0_joyOfDays 0 = .ok (.iconst 0, 1) := by decide +kernel
theorem dX0_joyOfDays_1 : decode cX0_joyOfDays 1 = .ok (.istore_n 3, 1) := by decide +kernel
theorem dX0_joyOfDays_2 : decode cX0_joyOfDays 2 = .ok (.iconst 0, 1) := by decide +kernel
theorem dX0_joyOfDays_3 : decode cX0_joyOfDays 3 = .ok (.istore 4, 2) := by decide +kernel
theorem dX0_joyOfDays_5 : decode cX0_joyOfDays 5 = .ok (.iload 4, 2) := by decide +kernel
theorem dX0_joyOfDays_7 : decode cX0_joyOfDays 7 = .ok (.iload_n 2, 1) := by decide +kernel
theorem dX0_joyOfDays_8 : decode cX0_joyOfDays 8 = .ok (.if_icmp .ge 37, 3) := by decide +kernel
theorem dX0_joyOfDays_11 : decode cX0_joyOfDays 11 = .ok (.iload_n 1, 1) := by decide +kernel
theorem dX0_joyOfDays_12 : decode cX0_joyOfDays 12 = .ok (.iload 4, 2) := by decide +kernel
theorem dX0_joyOfDays_14 : decode cX0_joyOfDays 14 = .ok (.bipush 6, 2) := by decide +kernel
theorem dX0_joyOfDays_16 : decode cX0_joyOfDays 16 = .ok (.imul, 1) := by decide +kernel
theorem dX0_joyOfDays_17 : decode cX0_joyOfDays 17 = .ok (.ishr, 1) := by decide +kernel
theorem dX0_joyOfDays_18 : decode cX0_joyOfDays 18 = .ok (.bipush 63, 2) := by decide +kernel
theorem dX0_joyOfDays_20 : decode cX0_joyOfDays 20 = .ok (.iand, 1) := by decide +kernel
theorem dX0_joyOfDays_21 : decode cX0_joyOfDays 21 = .ok (.istore 5, 2) := by decide +kernel
theorem dX0_joyOfDays_23 : decode cX0_joyOfDays 23 = .ok (.iload_n 3, 1) := by decide +kernel
theorem dX0_joyOfDays_24 : decode cX0_joyOfDays 24 = .ok (.aload_n 0, 1) := by decide +kernel
theorem dX0_joyOfDays_25 : decode cX0_joyOfDays 25 = .ok (.getfield 9, 3) := by decide +kernel
theorem dX0_joyOfDays_28 : decode cX0_joyOfDays 28 = .ok (.iload 4, 2) := by decide +kernel
theorem dX0_joyOfDays_30 : decode cX0_joyOfDays 30 = .ok (.bipush 64, 2) := by decide +kernel
theorem dX0_joyOfDays_32 : decode cX0_joyOfDays 32 = .ok (.imul, 1) := by decide +kernel
theorem dX0_joyOfDays_33 : decode cX0_joyOfDays 33 = .ok (.iload 5, 2) := by decide +kernel
theorem dX0_joyOfDays_35 : decode cX0_joyOfDays 35 = .ok (.iadd, 1) := by decide +kernel
theorem dX0_joyOfDays_36 : decode cX0_joyOfDays 36 = .ok (.iaload, 1) := by decide +kernel
theorem dX0_joyOfDays_37 : decode cX0_joyOfDays 37 = .ok (.iadd, 1) := by decide +kernel
theorem dX0_joyOfDays_38 : decode cX0_joyOfDays 38 = .ok (.istore_n 3, 1) := by decide +kernel
theorem dX0_joyOfDays_39 : decode cX0_joyOfDays 39 = .ok (.iinc 4 1, 3) := by decide +kernel
theorem dX0_joyOfDays_42 : decode cX0_joyOfDays 42 = .ok (.goto (-37), 3) := by decide +kernel
theorem dX0_joyOfDays_45 : decode cX0_joyOfDays 45 = .ok (.iload_n 3, 1) := by decide +kernel
theorem dX0_joyOfDays_46 : decode cX0_joyOfDays 46 = .ok (.ireturn, 1) := by decide +kernel
theorem dX1_init_0 : decode cX1_init 0 = .ok (.aload_n 0, 1) := by decide +kernel
theorem dX1_init_1 : decode cX1_init 1 = .ok (.invokespecial 3, 3) := by decide +kernel
theorem dX1_init_4 : decode cX1_init 4 = .ok (.aload_n 0, 1) := by decide +kernel
theorem dX1_init_5 : decode cX1_init 5 = .ok (.iconst 4, 1) := by decide +kernel
theorem dX1_init_6 : decode cX1_init 6 = .ok (.newarray .int, 2) := by decide +kernel
theorem dX1_init_8 : decode cX1_init 8 = .ok (.putfield 9, 3) := by decide +kernel
theorem dX1_init_11 : decode cX1_init 11 = .ok (.aload_n 0, 1) := by decide +kernel
theorem dX1_init_12 : decode cX1_init 12 = .ok (.iconst 4, 1) := by decide +kernel
theorem dX1_init_13 : decode cX1_init 13 = .ok (.newarray .int, 2) := by decide +kernel
theorem dX1_init_15 : decode cX1_init 15 = .ok (.putfield 15, 3) := by decide +kernel
theorem dX1_init_18 : decode cX1_init 18 = .ok (.aload_n 0, 1) := by decide +kernel
theorem dX1_init_19 : decode cX1_init 19 = .ok (.iconst 4, 1) := by decide +kernel
theorem dX1_init_20 : decode cX1_init 20 = .ok (.newarray .int, 2) := by decide +kernel
theorem dX1_init_22 : decode cX1_init 22 = .ok (.putfield 18, 3) := by decide +kernel
theorem dX1_init_25 : decode cX1_init 25 = .ok (.aload_n 0, 1) := by decide +kernel
theorem dX1_init_26 : decode cX1_init 26 = .ok (.bipush 6, 2) := by decide +kernel
theorem dX1_init_28 : decode cX1_init 28 = .ok (.newarray .int, 2) := by decide +kernel
theorem dX1_init_30 : decode cX1_init 30 = .ok (.putfield 21, 3) := by decide +kernel
theorem dX1_init_33 : decode cX1_init 33 = .ok (.aload_n 0, 1) := by decide +kernel
theorem dX1_init_34 : decode cX1_init 34 = .ok (.bipush 6, 2) := by decide +kernel
theorem dX1_init_36 : decode cX1_init 36 = .ok (.newarray .int, 2) := by decide +kernel
theorem dX1_init_38 : decode cX1_init 38 = .ok (.putfield 24, 3) := by decide +kernel
theorem dX1_init_41 : decode cX1_init 41 = .ok (.aload_n 0, 1) := by decide +kernel
theorem dX1_init_42 : decode cX1_init 42 = .ok (.bipush 6, 2) := by decide +kernel
theorem dX1_init_44 : decode cX1_init 44 = .ok (.newarray .int, 2) := by decide +kernel
theorem dX1_init_46 : decode cX1_init 46 = .ok (.putfield 27, 3) := by decide +kernel
theorem dX1_init_49 : decode cX1_init 49 = .ok (.aload_n 0, 1) := by decide +kernel
theorem dX1_init_50 : decode cX1_init 50 = .ok (.bipush 6, 2) := by decide +kernel
theorem dX1_init_52 : decode cX1_init 52 = .ok (.newarray .int, 2) := by decide +kernel
theorem dX1_init_54 : decode cX1_init 54 = .ok (.putfield 30, 3) := by decide +kernel
theorem dX1_init_57 : decode cX1_init 57 = .ok (.aload_n 0, 1) := by decide +kernel
theorem dX1_init_58 : decode cX1_init 58 = .ok (.iconst 0, 1) := by decide +kernel
theorem dX1_init_59 : decode cX1_init 59 = .ok (.putfield 33, 3) := by decide +kernel
theorem dX1_init_62 : decode cX1_init 62 = .ok (.aload_n 0, 1) := by decide +kernel
theorem dX1_init_63 : decode cX1_init 63 = .ok (.iconst 0, 1) := by decide +kernel
theorem dX1_init_64 : decode cX1_init 64 = .ok (.putfield 37, 3) := by decide +kernel
theorem dX1_init_67 : decode cX1_init 67 = .ok (.aload_n 0, 1) := by decide +kernel
theorem dX1_init_68 : decode cX1_init 68 = .ok (.iconst 0, 1) := by decide +kernel
theorem dX1_init_69 : decode cX1_init 69 = .ok (.putfield 40, 3) := by decide +kernel
theorem dX1_init_72 : decode cX1_init 72 = .ok (.aload_n 0, 1) := by decide +kernel
theorem dX1_init_73 : decode cX1_init 73 = .ok (.iconst 0, 1) := by decide +kernel
theorem dX1_init_74 : decode cX1_init 74 = .ok (.putfield 43, 3) := by decide +kernel
theorem dX1_init_77 : decode cX1_init 77 = .ok (.aload_n 0, 1) := by decide +kernel
theorem dX1_init_78 : decode cX1_init 78 = .ok (.iconst 0, 1) := by decide +kernel
theorem dX1_init_79 : decode cX1_init 79 = .ok (.putfield 46, 3) := by decide +kernel
theorem dX1_init_82 : decode cX1_init 82 = .ok (.return_, 1) := by decide +kernel
theorem dX1_beginAnew_0 : decode cX1_beginAnew 0 = .ok (.aload_n 0, 1) := by decide +kernel
theorem dX1_beginAnew_1 : decode cX1_beginAnew 1 = .ok (.invokevirtual 49, 3) := by decide +kernel
theorem dX1_beginAnew_4 : decode cX1_beginAnew 4 = .ok (.aload_n 0, 1) := by decide +kernel
theorem dX1_beginAnew_5 : decode cX1_beginAnew 5 = .ok (.getfield 18, 3) := by decide +kernel
theorem dX1_beginAnew_8 : decode cX1_beginAnew 8 = .ok (.iconst (-1), 1) := by decide +kernel
theorem dX1_beginAnew_9 : decode cX1_beginAnew 9 = .ok (.invokestatic 52, 3) := by decide +kernel
theorem dX1_beginAnew_12 : decode cX1_beginAnew 12 = .ok (.aload_n 0, 1) := by decide +kernel
theorem dX1_beginAnew_13 : decode cX1_beginAnew 13 = .ok (.iconst 0, 1) := by decide +kernel
theorem dX1_beginAnew_14 : decode cX1_beginAnew 14 = .ok (.putfield 33, 3) := by decide +kernel
theorem dX1_beginAnew_17 : decode cX1_beginAnew 17 = .ok (.aload_n 0, 1) := by decide +kernel
theorem dX1_beginAnew_18 : decode cX1_beginAnew 18 = .ok (.iconst 0, 1) := by decide +kernel
theorem dX1_beginAnew_19 : decode cX1_beginAnew 19 = .ok (.putfield 37, 3) := by decide +kernel
theorem dX1_beginAnew_22 : decode cX1_beginAnew 22 = .ok (.aload_n 0, 1) := by decide +kernel
theorem dX1_beginAnew_23 : decode cX1_beginAnew 23 = .ok (.iconst 0, 1) := by decide +kernel
theorem dX1_beginAnew_24 : decode cX1_beginAnew 24 = .ok (.putfield 40, 3) := by decide +kernel
theorem dX1_beginAnew_27 : decode cX1_beginAnew 27 = .ok (.aload_n 0, 1) := by decide +kernel
theorem dX1_beginAnew_28 : decode cX1_beginAnew 28 = .ok (.iconst 0, 1) := by decide +kernel
theorem dX1_beginAnew_29 : decode cX1_beginAnew 29 = .ok (.putfield 43, 3) := by decide +kernel
theorem dX1_beginAnew_32 : decode cX1_beginAnew 32 = .ok (.aload_n 0, 1) := by decide +kernel
theorem dX1_beginAnew_33 : decode cX1_beginAnew 33 = .ok (.iconst 0, 1) := by decide +kernel
theorem dX1_beginAnew_34 : decode cX1_beginAnew 34 = .ok (.putfield 46, 3) := by decide +kernel
theorem dX1_beginAnew_37 : decode cX1_beginAnew 37 = .ok (.return_, 1) := by decide +kernel
theorem dX1_becomeLike_0 : decode cX1_becomeLike 0 = .ok (.aload_n 1, 1) := by decide +kernel
theorem dX1_becomeLike_1 : decode cX1_becomeLike 1 = .ok (.getfield 9, 3) := by decide +kernel
theorem dX1_becomeLike_4 : decode cX1_becomeLike 4 = .ok (.iconst 0, 1) := by decide +kernel
theorem dX1_becomeLike_5 : decode cX1_becomeLike 5 = .ok (.aload_n 0, 1) := by decide +kernel
theorem dX1_becomeLike_6 : decode cX1_becomeLike 6 = .ok (.getfield 9, 3) := by decide +kernel
theorem dX1_becomeLike_9 : decode cX1_becomeLike 9 = .ok (.iconst 0, 1) := by decide +kernel
theorem dX1_becomeLike_10 : decode cX1_becomeLike 10 = .ok (.iconst 4, 1) := by decide +kernel
theorem dX1_becomeLike_11 : decode cX1_becomeLike 11 = .ok (.invokestatic 58, 3) := by decide +kernel
theorem dX1_becomeLike_14 : decode cX1_becomeLike 14 = .ok (.aload_n 1, 1) := by decide +kernel
theorem dX1_becomeLike_15 : decode cX1_becomeLike 15 = .ok (.getfield 15, 3) := by decide +kernel
theorem dX1_becomeLike_18 : decode cX1_becomeLike 18 = .ok (.iconst 0, 1) := by decide +kernel
theorem dX1_becomeLike_19 : decode cX1_becomeLike 19 = .ok (.aload_n 0, 1) := by decide +kernel
theorem dX1_becomeLike_20 : decode cX1_becomeLike 20 = .ok (.getfield 15, 3) := by decide +kernel
theorem dX1_becomeLike_23 : decode cX1_becomeLike 23 = .ok (.iconst 0, 1) := by decide +kernel
theorem dX1_becomeLike_24 : decode cX1_becomeLike 24 = .ok (.iconst 4, 1) := by decide +kernel
theorem dX1_becomeLike_25 : decode cX1_becomeLike 25 = .ok (.invokestatic 58, 3) := by decide +kernel
theorem dX1_becomeLike_28 : decode cX1_becomeLike 28 = .ok (.aload_n 1, 1) := by decide +kernel
theorem dX1_becomeLike_29 : decode cX1_becomeLike 29 = .ok (.getfield 18, 3) := by decide +kernel
theorem dX1_becomeLike_32 : decode cX1_becomeLike 32 = .ok (.iconst 0, 1) := by decide +kernel
theorem dX1_becomeLike_33 : decode cX1_becomeLike 33 = .ok (.aload_n 0, 1) := by decide +kernel
theorem dX1_becomeLike_34 : decode cX1_becomeLike 34 = .ok (.getfield 18, 3) := by decide +kernel
theorem dX1_becomeLike_37 : decode cX1_becomeLike 37 = .ok (.iconst 0, 1) := by decide +kernel
theorem dX1_becomeLike_38 : decode cX1_becomeLike 38 = .ok (.iconst 4, 1) := by decide +kernel
theorem dX1_becomeLike_39 : decode cX1_becomeLike 39 = .ok (.invokestatic 58, 3) := by decide +kernel
theorem dX1_becomeLike_42 : decode cX1_becomeLike 42 = .ok (.aload_n 1, 1) := by decide +kernel
theorem dX1_becomeLike_43 : decode cX1_becomeLike 43 = .ok (.getfield 21, 3) := by decide +kernel
theorem dX1_becomeLike_46 : decode cX1_becomeLike 46 = .ok (.iconst 0, 1) := by decide +kernel
theorem dX1_becomeLike_47 : decode cX1_becomeLike 47 = .ok (.aload_n 0, 1) := by decide +kernel
theorem dX1_becomeLike_48 : decode cX1_becomeLike 48 = .ok (.getfield 21, 3) := by decide +kernel
theorem dX1_becomeLike_51 : decode cX1_becomeLike 51 = .ok (.iconst 0, 1) := by decide +kernel
theorem dX1_becomeLike_52 : decode cX1_becomeLike 52 = .ok (.bipush 6, 2) := by decide +kernel
theorem dX1_becomeLike_54 : decode cX1_becomeLike 54 = .ok (.invokestatic 58, 3) := by decide +kernel
theorem dX1_becomeLike_57 : decode cX1_becomeLike 57 = .ok (.aload_n 1, 1) := by decide +kernel
theorem dX1_becomeLike_58 : decode cX1_becomeLike 58 = .ok (.getfield 24, 3) := by decide +kernel
theorem dX1_becomeLike_61 : decode cX1_becomeLike 61 = .ok (.iconst 0, 1) := by decide +kernel
theorem dX1_becomeLike_62 : decode cX1_becomeLike 62 = .ok (.aload_n 0, 1) := by decide +kernel
theorem dX1_becomeLike_63 : decode cX1_becomeLike 63 = .ok (.getfield 24, 3) := by decide +kernel
theorem dX1_becomeLike_66 : decode cX1_becomeLike 66 = .ok (.iconst 0, 1) := by decide +kernel
theorem dX1_becomeLike_67 : decode cX1_becomeLike 67 = .ok (.bipush 6, 2) := by decide +kernel
theorem dX1_becomeLike_69 : decode cX1_becomeLike 69 = .ok (.invokestatic 58, 3) := by decide +kernel
theorem dX1_becomeLike_72 : decode cX1_becomeLike 72 = .ok (.aload_n 1, 1) := by decide +kernel
theorem dX1_becomeLike_73 : decode cX1_becomeLike 73 = .ok (.getfield 27, 3) := by decide +kernel
theorem dX1_becomeLike_76 : decode cX1_becomeLike 76 = .ok (.iconst 0, 1) := by decide +kernel
theorem dX1_becomeLike_77 : decode cX1_becomeLike 77 = .ok (.aload_n 0, 1) := by decide +kernel
theorem dX1_becomeLike_78 : decode cX1_becomeLike 78 = .ok (.getfield 27, 3) := by decide +kernel
theorem dX1_becomeLike_81 : decode cX1_becomeLike 81 = .ok (.iconst 0, 1) := by decide +kernel
theorem dX1_becomeLike_82 : decode cX1_becomeLike 82 = .ok (.bipush 6, 2) := by decide +kernel
theorem dX1_becomeLike_84 : decode cX1_becomeLike 84 = .ok (.invokestatic 58, 3) := by decide +kernel
theorem dX1_becomeLike_87 : decode cX1_becomeLike 87 = .ok (.aload_n 1, 1) := by decide +kernel
theorem dX1_becomeLike_88 : decode cX1_becomeLike 88 = .ok (.getfield 30, 3) := by decide +kernel
theorem dX1_becomeLike_91 : decode cX1_becomeLike 91 = .ok (.iconst 0, 1) := by decide +kernel
theorem dX1_becomeLike_92 : decode cX1_becomeLike 92 = .ok (.aload_n 0, 1) := by decide +kernel
theorem dX1_becomeLike_93 : decode cX1_becomeLike 93 = .ok (.getfield 30, 3) := by decide +kernel
theorem dX1_becomeLike_96 : decode cX1_becomeLike 96 = .ok (.iconst 0, 1) := by decide +kernel
theorem dX1_becomeLike_97 : decode cX1_becomeLike 97 = .ok (.bipush 6, 2) := by decide +kernel
theorem dX1_becomeLike_99 : decode cX1_becomeLike 99 = .ok (.invokestatic 58, 3) := by decide +kernel
theorem dX1_becomeLike_102 : decode cX1_becomeLike 102 = .ok (.aload_n 0, 1) := by decide +kernel
theorem dX1_becomeLike_103 : decode cX1_becomeLike 103 = .ok (.aload_n 1, 1) := by decide +kernel
theorem dX1_becomeLike_104 : decode cX1_becomeLike 104 = .ok (.getfield 33, 3) := by decide +kernel
theorem dX1_becomeLike_107 : decode cX1_becomeLike 107 = .ok (.putfield 33, 3) := by decide +kernel
theorem dX1_becomeLike_110 : decode cX1_becomeLike 110 = .ok (.aload_n 0, 1) := by decide +kernel
theorem dX1_becomeLike_111 : decode cX1_becomeLike 111 = .ok (.aload_n 1, 1) := by decide +kernel
theorem dX1_becomeLike_112 : decode cX1_becomeLike 112 = .ok (.getfield 37, 3) := by decide +kernel
theorem dX1_becomeLike_115 : decode cX1_becomeLike 115 = .ok (.putfield 37, 3) := by decide +kernel
theorem dX1_becomeLike_118 : decode cX1_becomeLike 118 = .ok (.aload_n 0, 1) := by decide +kernel
theorem dX1_becomeLike_119 : decode cX1_becomeLike 119 = .ok (.aload_n 1, 1) := by decide +kernel
theorem dX1_becomeLike_120 : decode cX1_becomeLike 120 = .ok (.getfield 40, 3) := by decide +kernel
theorem dX1_becomeLike_123 : decode cX1_becomeLike 123 = .ok (.putfield 40, 3) := by decide +kernel
theorem dX1_becomeLike_126 : decode cX1_becomeLike 126 = .ok (.aload_n 0, 1) := by decide +kernel
theorem dX1_becomeLike_127 : decode cX1_becomeLike 127 = .ok (.aload_n 1, 1) := by decide +kernel
theorem dX1_becomeLike_128 : decode cX1_becomeLike 128 = .ok (.getfield 43, 3) := by decide +kernel
theorem dX1_becomeLike_131 : decode cX1_becomeLike 131 = .ok (.putfield 43, 3) := by decide +kernel
theorem dX1_becomeLike_134 : decode cX1_becomeLike 134 = .ok (.aload_n 0, 1) := by decide +kernel
theorem dX1_becomeLike_135 : decode cX1_becomeLike 135 = .ok (.aload_n 1, 1) := by decide +kernel
theorem dX1_becomeLike_136 : decode cX1_becomeLike 136 = .ok (.getfield 46, 3) := by decide +kernel
theorem dX1_becomeLike_139 : decode cX1_becomeLike 139 = .ok (.putfield 46, 3) := by decide +kernel
theorem dX1_becomeLike_142 : decode cX1_becomeLike 142 = .ok (.return_, 1) := by decide +kernel
theorem dX1_forgetJoy_0 : decode cX1_forgetJoy 0 = .ok (.aload_n 0, 1) := by decide +kernel
theorem dX1_forgetJoy_1 : decode cX1_forgetJoy 1 = .ok (.getfield 15, 3) := by decide +kernel
theorem dX1_forgetJoy_4 : decode cX1_forgetJoy 4 = .ok (.iconst 0, 1) := by decide +kernel
theorem dX1_forgetJoy_5 : decode cX1_forgetJoy 5 = .ok (.invokestatic 52, 3) := by decide +kernel
theorem dX1_forgetJoy_8 : decode cX1_forgetJoy 8 = .ok (.return_, 1) := by decide +kernel
theorem dX1_isThere_0 : decode cX1_isThere 0 = .ok (.aload_n 0, 1) := by decide +kernel
theorem dX1_isThere_1 : decode cX1_isThere 1 = .ok (.getfield 40, 3) := by decide +kernel
theorem dX1_isThere_4 : decode cX1_isThere 4 = .ok (.ifCond .le 7, 3) := by decide +kernel
theorem dX1_isThere_7 : decode cX1_isThere 7 = .ok (.iconst 1, 1) := by decide +kernel
theorem dX1_isThere_8 : decode cX1_isThere 8 = .ok (.goto 4, 3) := by decide +kernel
theorem dX1_isThere_11 : decode cX1_isThere 11 = .ok (.iconst 0, 1) := by decide +kernel
theorem dX1_isThere_12 : decode cX1_isThere 12 = .ok (.ireturn, 1) := by decide +kernel
theorem dX1_isPerson_0 : decode cX1_isPerson 0 = .ok (.iload_n 1, 1) := by decide +kernel
theorem dX1_isPerson_1 : decode cX1_isPerson 1 = .ok (.ifCond .lt 15, 3) := by decide +kernel
theorem dX1_isPerson_4 : decode cX1_isPerson 4 = .ok (.iload_n 1, 1) := by decide +kernel
theorem dX1_isPerson_5 : decode cX1_isPerson 5 = .ok (.aload_n 0, 1) := by decide +kernel
theorem dX1_isPerson_6 : decode cX1_isPerson 6 = .ok (.getfield 40, 3) := by decide +kernel
theorem dX1_isPerson_9 : decode cX1_isPerson 9 = .ok (.if_icmp .ge 7, 3) := by decide +kernel
theorem dX1_isPerson_12 : decode cX1_isPerson 12 = .ok (.iconst 1, 1) := by decide +kernel
theorem dX1_isPerson_13 : decode cX1_isPerson 13 = .ok (.goto 4, 3) := by decide +kernel
theorem dX1_isPerson_16 : decode cX1_isPerson 16 = .ok (.iconst 0, 1) := by decide +kernel
theorem dX1_isPerson_17 : decode cX1_isPerson 17 = .ok (.ireturn, 1) := by decide +kernel
theorem dX1_isMorning_0 : decode cX1_isMorning 0 = .ok (.iload_n 1, 1) := by decide +kernel
theorem dX1_isMorning_1 : decode cX1_isMorning 1 = .ok (.ifCond .lt 15, 3) := by decide +kernel
theorem dX1_isMorning_4 : decode cX1_isMorning 4 = .ok (.iload_n 1, 1) := by decide +kernel
theorem dX1_isMorning_5 : decode cX1_isMorning 5 = .ok (.aload_n 0, 1) := by decide +kernel
theorem dX1_isMorning_6 : decode cX1_isMorning 6 = .ok (.getfield 43, 3) := by decide +kernel
theorem dX1_isMorning_9 : decode cX1_isMorning 9 = .ok (.if_icmp .ge 7, 3) := by decide +kernel
theorem dX1_isMorning_12 : decode cX1_isMorning 12 = .ok (.iconst 1, 1) := by decide +kernel
theorem dX1_isMorning_13 : decode cX1_isMorning 13 = .ok (.goto 4, 3) := by decide +kernel
theorem dX1_isMorning_16 : decode cX1_isMorning 16 = .ok (.iconst 0, 1) := by decide +kernel
theorem dX1_isMorning_17 : decode cX1_isMorning 17 = .ok (.ireturn, 1) := by decide +kernel
theorem dX1_isOpened_0 : decode cX1_isOpened 0 = .ok (.aload_n 0, 1) := by decide +kernel
theorem dX1_isOpened_1 : decode cX1_isOpened 1 = .ok (.getfield 46, 3) := by decide +kernel
theorem dX1_isOpened_4 : decode cX1_isOpened 4 = .ok (.iload_n 1, 1) := by decide +kernel
theorem dX1_isOpened_5 : decode cX1_isOpened 5 = .ok (.invokestatic 64, 3) := by decide +kernel
theorem dX1_isOpened_8 : decode cX1_isOpened 8 = .ok (.ireturn, 1) := by decide +kernel
theorem dX1_openedToday_0 : decode cX1_openedToday 0 = .ok (.aload_n 0, 1) := by decide +kernel
theorem dX1_openedToday_1 : decode cX1_openedToday 1 = .ok (.getfield 18, 3) := by decide +kernel
theorem dX1_openedToday_4 : decode cX1_openedToday 4 = .ok (.iload_n 1, 1) := by decide +kernel
theorem dX1_openedToday_5 : decode cX1_openedToday 5 = .ok (.iaload, 1) := by decide +kernel
theorem dX1_openedToday_6 : decode cX1_openedToday 6 = .ok (.aload_n 0, 1) := by decide +kernel
theorem dX1_openedToday_7 : decode cX1_openedToday 7 = .ok (.getfield 37, 3) := by decide +kernel
theorem dX1_openedToday_10 : decode cX1_openedToday 10 = .ok (.if_icmp .ne 7, 3) := by decide +kernel
theorem dX1_openedToday_13 : decode cX1_openedToday 13 = .ok (.iconst 1, 1) := by decide +kernel
theorem dX1_openedToday_14 : decode cX1_openedToday 14 = .ok (.goto 4, 3) := by decide +kernel
theorem dX1_openedToday_17 : decode cX1_openedToday 17 = .ok (.iconst 0, 1) := by decide +kernel
theorem dX1_openedToday_18 : decode cX1_openedToday 18 = .ok (.ireturn, 1) := by decide +kernel
theorem dX1_closed_0 : decode cX1_closed 0 = .ok (.iconst 1, 1) := by decide +kernel
theorem dX1_closed_1 : decode cX1_closed 1 = .ok (.aload_n 0, 1) := by decide +kernel
theorem dX1_closed_2 : decode cX1_closed 2 = .ok (.getfield 43, 3) := by decide +kernel
theorem dX1_closed_5 : decode cX1_closed 5 = .ok (.ishl, 1) := by decide +kernel
theorem dX1_closed_6 : decode cX1_closed 6 = .ok (.iconst 1, 1) := by decide +kernel
theorem dX1_closed_7 : decode cX1_closed 7 = .ok (.isub, 1) := by decide +kernel
theorem dX1_closed_8 : decode cX1_closed 8 = .ok (.aload_n 0, 1) := by decide +kernel
theorem dX1_closed_9 : decode cX1_closed 9 = .ok (.getfield 46, 3) := by decide +kernel
theorem dX1_closed_12 : decode cX1_closed 12 = .ok (.iconst (-1), 1) := by decide +kernel
theorem dX1_closed_13 : decode cX1_closed 13 = .ok (.ixor, 1) := by decide +kernel
theorem dX1_closed_14 : decode cX1_closed 14 = .ok (.iand, 1) := by decide +kernel
theorem dX1_closed_15 : decode cX1_closed 15 = .ok (.ireturn, 1) := by decide +kernel
theorem dX1_closedOf_0 : decode cX1_closedOf 0 = .ok (.iconst 0, 1) := by decide +kernel
theorem dX1_closedOf_1 : decode cX1_closedOf 1 = .ok (.istore_n 2, 1) := by decide +kernel
theorem dX1_closedOf_2 : decode cX1_closedOf 2 = .ok (.iconst 0, 1) := by decide +kernel
theorem dX1_closedOf_3 : decode cX1_closedOf 3 = .ok (.istore_n 3, 1) := by decide +kernel
theorem dX1_closedOf_4 : decode cX1_closedOf 4 = .ok (.iload_n 3, 1) := by decide +kernel
theorem dX1_closedOf_5 : decode cX1_closedOf 5 = .ok (.aload_n 0, 1) := by decide +kernel
theorem dX1_closedOf_6 : decode cX1_closedOf 6 = .ok (.getfield 43, 3) := by decide +kernel
theorem dX1_closedOf_9 : decode cX1_closedOf 9 = .ok (.if_icmp .ge 33, 3) := by decide +kernel
theorem dX1_closedOf_12 : decode cX1_closedOf 12 = .ok (.aload_n 0, 1) := by decide +kernel
theorem dX1_closedOf_13 : decode cX1_closedOf 13 = .ok (.getfield 24, 3) := by decide +kernel
theorem dX1_closedOf_16 : decode cX1_closedOf 16 = .ok (.iload_n 3, 1) := by decide +kernel
theorem dX1_closedOf_17 : decode cX1_closedOf 17 = .ok (.iaload, 1) := by decide +kernel
theorem dX1_closedOf_18 : decode cX1_closedOf 18 = .ok (.iload_n 1, 1) := by decide +kernel
theorem dX1_closedOf_19 : decode cX1_closedOf 19 = .ok (.if_icmp .ne 17, 3) := by decide +kernel
theorem dX1_closedOf_22 : decode cX1_closedOf 22 = .ok (.aload_n 0, 1) := by decide +kernel
theorem dX1_closedOf_23 : decode cX1_closedOf 23 = .ok (.iload_n 3, 1) := by decide +kernel
theorem dX1_closedOf_24 : decode cX1_closedOf 24 = .ok (.invokevirtual 68, 3) := by decide +kernel
theorem dX1_closedOf_27 : decode cX1_closedOf 27 = .ok (.ifCond .ne 9, 3) := by decide +kernel
theorem dX1_closedOf_30 : decode cX1_closedOf 30 = .ok (.iload_n 2, 1) := by decide +kernel
theorem dX1_closedOf_31 : decode cX1_closedOf 31 = .ok (.iconst 1, 1) := by decide +kernel
theorem dX1_closedOf_32 : decode cX1_closedOf 32 = .ok (.iload_n 3, 1) := by decide +kernel
theorem dX1_closedOf_33 : decode cX1_closedOf 33 = .ok (.ishl, 1) := by decide +kernel
theorem dX1_closedOf_34 : decode cX1_closedOf 34 = .ok (.ior, 1) := by decide +kernel
theorem dX1_closedOf_35 : decode cX1_closedOf 35 = .ok (.istore_n 2, 1) := by decide +kernel
theorem dX1_closedOf_36 : decode cX1_closedOf 36 = .ok (.iinc 3 1, 3) := by decide +kernel
theorem dX1_closedOf_39 : decode cX1_closedOf 39 = .ok (.goto (-35), 3) := by decide +kernel
theorem dX1_closedOf_42 : decode cX1_closedOf 42 = .ok (.iload_n 2, 1) := by decide +kernel
theorem dX1_closedOf_43 : decode cX1_closedOf 43 = .ok (.ireturn, 1) := by decide +kernel
theorem dX1_freshOn_0 : decode cX1_freshOn 0 = .ok (.aload_n 0, 1) := by decide +kernel
theorem dX1_freshOn_1 : decode cX1_freshOn 1 = .ok (.getfield 21, 3) := by decide +kernel
theorem dX1_freshOn_4 : decode cX1_freshOn 4 = .ok (.iload_n 1, 1) := by decide +kernel
theorem dX1_freshOn_5 : decode cX1_freshOn 5 = .ok (.iaload, 1) := by decide +kernel
theorem dX1_freshOn_6 : decode cX1_freshOn 6 = .ok (.aload_n 0, 1) := by decide +kernel
theorem dX1_freshOn_7 : decode cX1_freshOn 7 = .ok (.getfield 27, 3) := by decide +kernel
theorem dX1_freshOn_10 : decode cX1_freshOn 10 = .ok (.iload_n 1, 1) := by decide +kernel
theorem dX1_freshOn_11 : decode cX1_freshOn 11 = .ok (.iaload, 1) := by decide +kernel
theorem dX1_freshOn_12 : decode cX1_freshOn 12 = .ok (.aload_n 0, 1) := by decide +kernel
theorem dX1_freshOn_13 : decode cX1_freshOn 13 = .ok (.getfield 30, 3) := by decide +kernel
theorem dX1_freshOn_16 : decode cX1_freshOn 16 = .ok (.iload_n 1, 1) := by decide +kernel
theorem dX1_freshOn_17 : decode cX1_freshOn 17 = .ok (.iaload, 1) := by decide +kernel
theorem dX1_freshOn_18 : decode cX1_freshOn 18 = .ok (.iload_n 2, 1) := by decide +kernel
theorem dX1_freshOn_19 : decode cX1_freshOn 19 = .ok (.invokestatic 72, 3) := by decide +kernel
theorem dX1_freshOn_22 : decode cX1_freshOn 22 = .ok (.ireturn, 1) := by decide +kernel
theorem dX1_priceOf_0 : decode cX1_priceOf 0 = .ok (.aload_n 0, 1) := by decide +kernel
theorem dX1_priceOf_1 : decode cX1_priceOf 1 = .ok (.getfield 33, 3) := by decide +kernel
theorem dX1_priceOf_4 : decode cX1_priceOf 4 = .ok (.aload_n 0, 1) := by decide +kernel
theorem dX1_priceOf_5 : decode cX1_priceOf 5 = .ok (.iload_n 1, 1) := by decide +kernel
theorem dX1_priceOf_6 : decode cX1_priceOf 6 = .ok (.aload_n 0, 1) := by decide +kernel
theorem dX1_priceOf_7 : decode cX1_priceOf 7 = .ok (.getfield 37, 3) := by decide +kernel
theorem dX1_priceOf_10 : decode cX1_priceOf 10 = .ok (.invokevirtual 76, 3) := by decide +kernel
theorem dX1_priceOf_13 : decode cX1_priceOf 13 = .ok (.imul, 1) := by decide +kernel
theorem dX1_priceOf_14 : decode cX1_priceOf 14 = .ok (.ireturn, 1) := by decide +kernel
theorem dX1_priceOfSet_0 : decode cX1_priceOfSet 0 = .ok (.iconst 0, 1) := by decide +kernel
theorem dX1_priceOfSet_1 : decode cX1_priceOfSet 1 = .ok (.istore_n 2, 1) := by decide +kernel
theorem dX1_priceOfSet_2 : decode cX1_priceOfSet 2 = .ok (.iconst 0, 1) := by decide +kernel
theorem dX1_priceOfSet_3 : decode cX1_priceOfSet 3 = .ok (.istore_n 3, 1) := by decide +kernel
theorem dX1_priceOfSet_4 : decode cX1_priceOfSet 4 = .ok (.iload_n 3, 1) := by decide +kernel
theorem dX1_priceOfSet_5 : decode cX1_priceOfSet 5 = .ok (.aload_n 0, 1) := by decide +kernel
theorem dX1_priceOfSet_6 : decode cX1_priceOfSet 6 = .ok (.getfield 43, 3) := by decide +kernel
theorem dX1_priceOfSet_9 : decode cX1_priceOfSet 9 = .ok (.if_icmp .ge 25, 3) := by decide +kernel
theorem dX1_priceOfSet_12 : decode cX1_priceOfSet 12 = .ok (.iload_n 1, 1) := by decide +kernel
theorem dX1_priceOfSet_13 : decode cX1_priceOfSet 13 = .ok (.iload_n 3, 1) := by decide +kernel
theorem dX1_priceOfSet_14 : decode cX1_priceOfSet 14 = .ok (.invokestatic 64, 3) := by decide +kernel
theorem dX1_priceOfSet_17 : decode cX1_priceOfSet 17 = .ok (.ifCond .eq 11, 3) := by decide +kernel
theorem dX1_priceOfSet_20 : decode cX1_priceOfSet 20 = .ok (.iload_n 2, 1) := by decide +kernel
theorem dX1_priceOfSet_21 : decode cX1_priceOfSet 21 = .ok (.aload_n 0, 1) := by decide +kernel
theorem dX1_priceOfSet_22 : decode cX1_priceOfSet 22 = .ok (.iload_n 3, 1) := by decide +kernel
theorem dX1_priceOfSet_23 : decode cX1_priceOfSet 23 = .ok (.invokevirtual 80, 3) := by decide +kernel
theorem dX1_priceOfSet_26 : decode cX1_priceOfSet 26 = .ok (.iadd, 1) := by decide +kernel
theorem dX1_priceOfSet_27 : decode cX1_priceOfSet 27 = .ok (.istore_n 2, 1) := by decide +kernel
theorem dX1_priceOfSet_28 : decode cX1_priceOfSet 28 = .ok (.iinc 3 1, 3) := by decide +kernel
theorem dX1_priceOfSet_31 : decode cX1_priceOfSet 31 = .ok (.goto (-27), 3) := by decide +kernel
theorem dX1_priceOfSet_34 : decode cX1_priceOfSet 34 = .ok (.iload_n 2, 1) := by decide +kernel
theorem dX1_priceOfSet_35 : decode cX1_priceOfSet 35 = .ok (.ireturn, 1) := by decide +kernel
theorem dX1_joyOfAll_0 : decode cX1_joyOfAll 0 = .ok (.iconst 0, 1) := by decide +kernel
theorem dX1_joyOfAll_1 : decode cX1_joyOfAll 1 = .ok (.istore_n 1, 1) := by decide +kernel
theorem dX1_joyOfAll_2 : decode cX1_joyOfAll 2 = .ok (.iconst 0, 1) := by decide +kernel
theorem dX1_joyOfAll_3 : decode cX1_joyOfAll 3 = .ok (.istore_n 2, 1) := by decide +kernel
theorem dX1_joyOfAll_4 : decode cX1_joyOfAll 4 = .ok (.iload_n 2, 1) := by decide +kernel
theorem dX1_joyOfAll_5 : decode cX1_joyOfAll 5 = .ok (.aload_n 0, 1) := by decide +kernel
theorem dX1_joyOfAll_6 : decode cX1_joyOfAll 6 = .ok (.getfield 40, 3) := by decide +kernel
theorem dX1_joyOfAll_9 : decode cX1_joyOfAll 9 = .ok (.if_icmp .ge 18, 3) := by decide +kernel
theorem dX1_joyOfAll_12 : decode cX1_joyOfAll 12 = .ok (.iload_n 1, 1) := by decide +kernel
theorem dX1_joyOfAll_13 : decode cX1_joyOfAll 13 = .ok (.aload_n 0, 1) := by decide +kernel
theorem dX1_joyOfAll_14 : decode cX1_joyOfAll 14 = .ok (.getfield 15, 3) := by decide +kernel
theorem dX1_joyOfAll_17 : decode cX1_joyOfAll 17 = .ok (.iload_n 2, 1) := by decide +kernel
theorem dX1_joyOfAll_18 : decode cX1_joyOfAll 18 = .ok (.iaload, 1) := by decide +kernel
theorem dX1_joyOfAll_19 : decode cX1_joyOfAll 19 = .ok (.iadd, 1) := by decide +kernel
theorem dX1_joyOfAll_20 : decode cX1_joyOfAll 20 = .ok (.istore_n 1, 1) := by decide +kernel
theorem dX1_joyOfAll_21 : decode cX1_joyOfAll 21 = .ok (.iinc 2 1, 3) := by decide +kernel
theorem dX1_joyOfAll_24 : decode cX1_joyOfAll 24 = .ok (.goto (-20), 3) := by decide +kernel
theorem dX1_joyOfAll_27 : decode cX1_joyOfAll 27 = .ok (.iload_n 1, 1) := by decide +kernel
theorem dX1_joyOfAll_28 : decode cX1_joyOfAll 28 = .ok (.ireturn, 1) := by decide +kernel
theorem dX1_joyOfSet_0 : decode cX1_joyOfSet 0 = .ok (.iconst 0, 1) := by decide +kernel
theorem dX1_joyOfSet_1 : decode cX1_joyOfSet 1 = .ok (.istore 4, 2) := by decide +kernel
theorem dX1_joyOfSet_3 : decode cX1_joyOfSet 3 = .ok (.iconst 0, 1) := by decide +kernel
theorem dX1_joyOfSet_4 : decode cX1_joyOfSet 4 = .ok (.istore 5, 2) := by decide +kernel
theorem dX1_joyOfSet_6 : decode cX1_joyOfSet 6 = .ok (.iconst 0, 1) := by decide +kernel
theorem dX1_joyOfSet_7 : decode cX1_joyOfSet 7 = .ok (.istore 6, 2) := by decide +kernel
theorem dX1_joyOfSet_9 : decode cX1_joyOfSet 9 = .ok (.iload 6, 2) := by decide +kernel
theorem dX1_joyOfSet_11 : decode cX1_joyOfSet 11 = .ok (.aload_n 0, 1) := by decide +kernel
theorem dX1_joyOfSet_12 : decode cX1_joyOfSet 12 = .ok (.getfield 43, 3) := by decide +kernel
theorem dX1_joyOfSet_15 : decode cX1_joyOfSet 15 = .ok (.if_icmp .ge 47, 3) := by decide +kernel
theorem dX1_joyOfSet_18 : decode cX1_joyOfSet 18 = .ok (.iload_n 1, 1) := by decide +kernel
theorem dX1_joyOfSet_19 : decode cX1_joyOfSet 19 = .ok (.iload 6, 2) := by decide +kernel
theorem dX1_joyOfSet_21 : decode cX1_joyOfSet 21 = .ok (.invokestatic 64, 3) := by decide +kernel
theorem dX1_joyOfSet_24 : decode cX1_joyOfSet 24 = .ok (.ifCond .eq 32, 3) := by decide +kernel
theorem dX1_joyOfSet_27 : decode cX1_joyOfSet 27 = .ok (.aload_n 0, 1) := by decide +kernel
theorem dX1_joyOfSet_28 : decode cX1_joyOfSet 28 = .ok (.iload 6, 2) := by decide +kernel
theorem dX1_joyOfSet_30 : decode cX1_joyOfSet 30 = .ok (.iload_n 2, 1) := by decide +kernel
theorem dX1_joyOfSet_31 : decode cX1_joyOfSet 31 = .ok (.invokevirtual 76, 3) := by decide +kernel
theorem dX1_joyOfSet_34 : decode cX1_joyOfSet 34 = .ok (.istore 7, 2) := by decide +kernel
theorem dX1_joyOfSet_36 : decode cX1_joyOfSet 36 = .ok (.iload 4, 2) := by decide +kernel
theorem dX1_joyOfSet_38 : decode cX1_joyOfSet 38 = .ok (.iload 7, 2) := by decide +kernel
theorem dX1_joyOfSet_40 : decode cX1_joyOfSet 40 = .ok (.iconst 2, 1) := by decide +kernel
theorem dX1_joyOfSet_41 : decode cX1_joyOfSet 41 = .ok (.idiv, 1) := by decide +kernel
theorem dX1_joyOfSet_42 : decode cX1_joyOfSet 42 = .ok (.iadd, 1) := by decide +kernel
theorem dX1_joyOfSet_43 : decode cX1_joyOfSet 43 = .ok (.istore 4, 2) := by decide +kernel
theorem dX1_joyOfSet_45 : decode cX1_joyOfSet 45 = .ok (.iload 7, 2) := by decide +kernel
theorem dX1_joyOfSet_47 : decode cX1_joyOfSet 47 = .ok (.iload 5, 2) := by decide +kernel
theorem dX1_joyOfSet_49 : decode cX1_joyOfSet 49 = .ok (.if_icmp .le 7, 3) := by decide +kernel
theorem dX1_joyOfSet_52 : decode cX1_joyOfSet 52 = .ok (.iload 7, 2) := by decide +kernel
theorem dX1_joyOfSet_54 : decode cX1_joyOfSet 54 = .ok (.istore 5, 2) := by decide +kernel
theorem dX1_joyOfSet_56 : decode cX1_joyOfSet 56 = .ok (.iinc 6 1, 3) := by decide +kernel
theorem dX1_joyOfSet_59 : decode cX1_joyOfSet 59 = .ok (.goto (-50), 3) := by decide +kernel
theorem dX1_joyOfSet_62 : decode cX1_joyOfSet 62 = .ok (.iload_n 3, 1) := by decide +kernel
theorem dX1_joyOfSet_63 : decode cX1_joyOfSet 63 = .ok (.ifCond .eq 8, 3) := by decide +kernel
theorem dX1_joyOfSet_66 : decode cX1_joyOfSet 66 = .ok (.iload 4, 2) := by decide +kernel
theorem dX1_joyOfSet_68 : decode cX1_joyOfSet 68 = .ok (.goto 13, 3) := by decide +kernel
theorem dX1_joyOfSet_71 : decode cX1_joyOfSet 71 = .ok (.iload 4, 2) := by decide +kernel
theorem dX1_joyOfSet_73 : decode cX1_joyOfSet 73 = .ok (.iload 5, 2) := by decide +kernel
theorem dX1_joyOfSet_75 : decode cX1_joyOfSet 75 = .ok (.iconst 2, 1) := by decide +kernel
theorem dX1_joyOfSet_76 : decode cX1_joyOfSet 76 = .ok (.idiv, 1) := by decide +kernel
theorem dX1_joyOfSet_77 : decode cX1_joyOfSet 77 = .ok (.isub, 1) := by decide +kernel
theorem dX1_joyOfSet_78 : decode cX1_joyOfSet 78 = .ok (.iload 5, 2) := by decide +kernel
theorem dX1_joyOfSet_80 : decode cX1_joyOfSet 80 = .ok (.iadd, 1) := by decide +kernel
theorem dX1_joyOfSet_81 : decode cX1_joyOfSet 81 = .ok (.ireturn, 1) := by decide +kernel
theorem dX1_feastWith_0 : decode cX1_feastWith 0 = .ok (.aload_n 0, 1) := by decide +kernel
theorem dX1_feastWith_1 : decode cX1_feastWith 1 = .ok (.iload_n 2, 1) := by decide +kernel
theorem dX1_feastWith_2 : decode cX1_feastWith 2 = .ok (.aload_n 0, 1) := by decide +kernel
theorem dX1_feastWith_3 : decode cX1_feastWith 3 = .ok (.getfield 37, 3) := by decide +kernel
theorem dX1_feastWith_6 : decode cX1_feastWith 6 = .ok (.aload_n 0, 1) := by decide +kernel
theorem dX1_feastWith_7 : decode cX1_feastWith 7 = .ok (.iload_n 1, 1) := by decide +kernel
theorem dX1_feastWith_8 : decode cX1_feastWith 8 = .ok (.invokevirtual 84, 3) := by decide +kernel
theorem dX1_feastWith_11 : decode cX1_feastWith 11 = .ok (.invokevirtual 87, 3) := by decide +kernel
theorem dX1_feastWith_14 : decode cX1_feastWith 14 = .ok (.ireturn, 1) := by decide +kernel
theorem dX1_canGoBy_0 : decode cX1_canGoBy 0 = .ok (.aload_n 0, 1) := by decide +kernel
theorem dX1_canGoBy_1 : decode cX1_canGoBy 1 = .ok (.getfield 37, 3) := by decide +kernel
theorem dX1_canGoBy_4 : decode cX1_canGoBy 4 = .ok (.iload_n 1, 1) := by decide +kernel
theorem dX1_canGoBy_5 : decode cX1_canGoBy 5 = .ok (.iadd, 1) := by decide +kernel
theorem dX1_canGoBy_6 : decode cX1_canGoBy 6 = .ok (.bipush 99, 2) := by decide +kernel
theorem dX1_canGoBy_8 : decode cX1_canGoBy 8 = .ok (.if_icmp .gt 7, 3) := by decide +kernel
theorem dX1_canGoBy_11 : decode cX1_canGoBy 11 = .ok (.iconst 1, 1) := by decide +kernel
theorem dX1_canGoBy_12 : decode cX1_canGoBy 12 = .ok (.goto 4, 3) := by decide +kernel
theorem dX1_canGoBy_15 : decode cX1_canGoBy 15 = .ok (.iconst 0, 1) := by decide +kernel
theorem dX1_canGoBy_16 : decode cX1_canGoBy 16 = .ok (.ireturn, 1) := by decide +kernel
theorem dX1_canBeSold_0 : decode cX1_canBeSold 0 = .ok (.aload_n 0, 1) := by decide +kernel
theorem dX1_canBeSold_1 : decode cX1_canBeSold 1 = .ok (.iload_n 2, 1) := by decide +kernel
theorem dX1_canBeSold_2 : decode cX1_canBeSold 2 = .ok (.invokevirtual 91, 3) := by decide +kernel
theorem dX1_canBeSold_5 : decode cX1_canBeSold 5 = .ok (.ifCond .eq 39, 3) := by decide +kernel
theorem dX1_canBeSold_8 : decode cX1_canBeSold 8 = .ok (.aload_n 0, 1) := by decide +kernel
theorem dX1_canBeSold_9 : decode cX1_canBeSold 9 = .ok (.iload_n 1, 1) := by decide +kernel
theorem dX1_canBeSold_10 : decode cX1_canBeSold 10 = .ok (.invokevirtual 68, 3) := by decide +kernel
theorem dX1_canBeSold_13 : decode cX1_canBeSold 13 = .ok (.ifCond .ne 31, 3) := by decide +kernel
theorem dX1_canBeSold_16 : decode cX1_canBeSold 16 = .ok (.aload_n 0, 1) := by decide +kernel
theorem dX1_canBeSold_17 : decode cX1_canBeSold 17 = .ok (.getfield 24, 3) := by decide +kernel
theorem dX1_canBeSold_20 : decode cX1_canBeSold 20 = .ok (.iload_n 1, 1) := by decide +kernel
theorem dX1_canBeSold_21 : decode cX1_canBeSold 21 = .ok (.iaload, 1) := by decide +kernel
theorem dX1_canBeSold_22 : decode cX1_canBeSold 22 = .ok (.iload_n 2, 1) := by decide +kernel
theorem dX1_canBeSold_23 : decode cX1_canBeSold 23 = .ok (.if_icmp .eq 21, 3) := by decide +kernel
theorem dX1_canBeSold_26 : decode cX1_canBeSold 26 = .ok (.aload_n 0, 1) := by decide +kernel
theorem dX1_canBeSold_27 : decode cX1_canBeSold 27 = .ok (.iload_n 1, 1) := by decide +kernel
theorem dX1_canBeSold_28 : decode cX1_canBeSold 28 = .ok (.invokevirtual 80, 3) := by decide +kernel
theorem dX1_canBeSold_31 : decode cX1_canBeSold 31 = .ok (.aload_n 0, 1) := by decide +kernel
theorem dX1_canBeSold_32 : decode cX1_canBeSold 32 = .ok (.getfield 9, 3) := by decide +kernel
theorem dX1_canBeSold_35 : decode cX1_canBeSold 35 = .ok (.iload_n 2, 1) := by decide +kernel
theorem dX1_canBeSold_36 : decode cX1_canBeSold 36 = .ok (.iaload, 1) := by decide +kernel
theorem dX1_canBeSold_37 : decode cX1_canBeSold 37 = .ok (.if_icmp .gt 7, 3) := by decide +kernel
theorem dX1_canBeSold_40 : decode cX1_canBeSold 40 = .ok (.iconst 1, 1) := by decide +kernel
theorem dX1_canBeSold_41 : decode cX1_canBeSold 41 = .ok (.goto 4, 3) := by decide +kernel
theorem dX1_canBeSold_44 : decode cX1_canBeSold 44 = .ok (.iconst 0, 1) := by decide +kernel
theorem dX1_canBeSold_45 : decode cX1_canBeSold 45 = .ok (.ireturn, 1) := by decide +kernel
theorem dX1_handOver_0 : decode cX1_handOver 0 = .ok (.aload_n 0, 1) := by decide +kernel
theorem dX1_handOver_1 : decode cX1_handOver 1 = .ok (.iload_n 1, 1) := by decide +kernel
theorem dX1_handOver_2 : decode cX1_handOver 2 = .ok (.invokevirtual 80, 3) := by decide +kernel
theorem dX1_handOver_5 : decode cX1_handOver 5 = .ok (.istore_n 3, 1) := by decide +kernel
theorem dX1_handOver_6 : decode cX1_handOver 6 = .ok (.aload_n 0, 1) := by decide +kernel
theorem dX1_handOver_7 : decode cX1_handOver 7 = .ok (.getfield 9, 3) := by decide +kernel
theorem dX1_handOver_10 : decode cX1_handOver 10 = .ok (.iload_n 2, 1) := by decide +kernel
theorem dX1_handOver_11 : decode cX1_handOver 11 = .ok (.dup2, 1) := by decide +kernel
theorem dX1_handOver_12 : decode cX1_handOver 12 = .ok (.iaload, 1) := by decide +kernel
theorem dX1_handOver_13 : decode cX1_handOver 13 = .ok (.iload_n 3, 1) := by decide +kernel
theorem dX1_handOver_14 : decode cX1_handOver 14 = .ok (.isub, 1) := by decide +kernel
theorem dX1_handOver_15 : decode cX1_handOver 15 = .ok (.iastore, 1) := by decide +kernel
theorem dX1_handOver_16 : decode cX1_handOver 16 = .ok (.aload_n 0, 1) := by decide +kernel
theorem dX1_handOver_17 : decode cX1_handOver 17 = .ok (.getfield 9, 3) := by decide +kernel
theorem dX1_handOver_20 : decode cX1_handOver 20 = .ok (.aload_n 0, 1) := by decide +kernel
theorem dX1_handOver_21 : decode cX1_handOver 21 = .ok (.getfield 24, 3) := by decide +kernel
theorem dX1_handOver_24 : decode cX1_handOver 24 = .ok (.iload_n 1, 1) := by decide +kernel
theorem dX1_handOver_25 : decode cX1_handOver 25 = .ok (.iaload, 1) := by decide +kernel
theorem dX1_handOver_26 : decode cX1_handOver 26 = .ok (.dup2, 1) := by decide +kernel
theorem dX1_handOver_27 : decode cX1_handOver 27 = .ok (.iaload, 1) := by decide +kernel
theorem dX1_handOver_28 : decode cX1_handOver 28 = .ok (.iload_n 3, 1) := by decide +kernel
theorem dX1_handOver_29 : decode cX1_handOver 29 = .ok (.iadd, 1) := by decide +kernel
theorem dX1_handOver_30 : decode cX1_handOver 30 = .ok (.iastore, 1) := by decide +kernel
theorem dX1_handOver_31 : decode cX1_handOver 31 = .ok (.aload_n 0, 1) := by decide +kernel
theorem dX1_handOver_32 : decode cX1_handOver 32 = .ok (.getfield 24, 3) := by decide +kernel
theorem dX1_handOver_35 : decode cX1_handOver 35 = .ok (.iload_n 1, 1) := by decide +kernel
theorem dX1_handOver_36 : decode cX1_handOver 36 = .ok (.iload_n 2, 1) := by decide +kernel
theorem dX1_handOver_37 : decode cX1_handOver 37 = .ok (.iastore, 1) := by decide +kernel
theorem dX1_handOver_38 : decode cX1_handOver 38 = .ok (.iload_n 3, 1) := by decide +kernel
theorem dX1_handOver_39 : decode cX1_handOver 39 = .ok (.ireturn, 1) := by decide +kernel
theorem dX1_unseal_0 : decode cX1_unseal 0 = .ok (.aload_n 0, 1) := by decide +kernel
theorem dX1_unseal_1 : decode cX1_unseal 1 = .ok (.getfield 24, 3) := by decide +kernel
theorem dX1_unseal_4 : decode cX1_unseal 4 = .ok (.iload_n 1, 1) := by decide +kernel
theorem dX1_unseal_5 : decode cX1_unseal 5 = .ok (.iaload, 1) := by decide +kernel
theorem dX1_unseal_6 : decode cX1_unseal 6 = .ok (.istore_n 2, 1) := by decide +kernel
theorem dX1_unseal_7 : decode cX1_unseal 7 = .ok (.aload_n 0, 1) := by decide +kernel
theorem dX1_unseal_8 : decode cX1_unseal 8 = .ok (.iload_n 1, 1) := by decide +kernel
theorem dX1_unseal_9 : decode cX1_unseal 9 = .ok (.aload_n 0, 1) := by decide +kernel
theorem dX1_unseal_10 : decode cX1_unseal 10 = .ok (.getfield 37, 3) := by decide +kernel
theorem dX1_unseal_13 : decode cX1_unseal 13 = .ok (.invokevirtual 76, 3) := by decide +kernel
theorem dX1_unseal_16 : decode cX1_unseal 16 = .ok (.istore_n 3, 1) := by decide +kernel
theorem dX1_unseal_17 : decode cX1_unseal 17 = .ok (.aload_n 0, 1) := by decide +kernel
theorem dX1_unseal_18 : decode cX1_unseal 18 = .ok (.iload_n 2, 1) := by decide +kernel
theorem dX1_unseal_19 : decode cX1_unseal 19 = .ok (.invokevirtual 84, 3) := by decide +kernel
theorem dX1_unseal_22 : decode cX1_unseal 22 = .ok (.ifCond .eq 9, 3) := by decide +kernel
theorem dX1_unseal_25 : decode cX1_unseal 25 = .ok (.iload_n 3, 1) := by decide +kernel
theorem dX1_unseal_26 : decode cX1_unseal 26 = .ok (.iconst 2, 1) := by decide +kernel
theorem dX1_unseal_27 : decode cX1_unseal 27 = .ok (.idiv, 1) := by decide +kernel
theorem dX1_unseal_28 : decode cX1_unseal 28 = .ok (.goto 4, 3) := by decide +kernel
theorem dX1_unseal_31 : decode cX1_unseal 31 = .ok (.iload_n 3, 1) := by decide +kernel
theorem dX1_unseal_32 : decode cX1_unseal 32 = .ok (.istore 4, 2) := by decide +kernel
theorem dX1_unseal_34 : decode cX1_unseal 34 = .ok (.aload_n 0, 1) := by decide +kernel
theorem dX1_unseal_35 : decode cX1_unseal 35 = .ok (.getfield 15, 3) := by decide +kernel
theorem dX1_unseal_38 : decode cX1_unseal 38 = .ok (.iload_n 2, 1) := by decide +kernel
theorem dX1_unseal_39 : decode cX1_unseal 39 = .ok (.dup2, 1) := by decide +kernel
theorem dX1_unseal_40 : decode cX1_unseal 40 = .ok (.iaload, 1) := by decide +kernel
theorem dX1_unseal_41 : decode cX1_unseal 41 = .ok (.iload 4, 2) := by decide +kernel
theorem dX1_unseal_43 : decode cX1_unseal 43 = .ok (.iadd, 1) := by decide +kernel
theorem dX1_unseal_44 : decode cX1_unseal 44 = .ok (.iastore, 1) := by decide +kernel
theorem dX1_unseal_45 : decode cX1_unseal 45 = .ok (.aload_n 0, 1) := by decide +kernel
theorem dX1_unseal_46 : decode cX1_unseal 46 = .ok (.getfield 18, 3) := by decide +kernel
theorem dX1_unseal_49 : decode cX1_unseal 49 = .ok (.iload_n 2, 1) := by decide +kernel
theorem dX1_unseal_50 : decode cX1_unseal 50 = .ok (.aload_n 0, 1) := by decide +kernel
theorem dX1_unseal_51 : decode cX1_unseal 51 = .ok (.getfield 37, 3) := by decide +kernel
theorem dX1_unseal_54 : decode cX1_unseal 54 = .ok (.iastore, 1) := by decide +kernel
theorem dX1_unseal_55 : decode cX1_unseal 55 = .ok (.aload_n 0, 1) := by decide +kernel
theorem dX1_unseal_56 : decode cX1_unseal 56 = .ok (.dup, 1) := by decide +kernel
theorem dX1_unseal_57 : decode cX1_unseal 57 = .ok (.getfield 46, 3) := by decide +kernel
theorem dX1_unseal_60 : decode cX1_unseal 60 = .ok (.iconst 1, 1) := by decide +kernel
theorem dX1_unseal_61 : decode cX1_unseal 61 = .ok (.iload_n 1, 1) := by decide +kernel
theorem dX1_unseal_62 : decode cX1_unseal 62 = .ok (.ishl, 1) := by decide +kernel
theorem dX1_unseal_63 : decode cX1_unseal 63 = .ok (.ior, 1) := by decide +kernel
theorem dX1_unseal_64 : decode cX1_unseal 64 = .ok (.putfield 46, 3) := by decide +kernel
theorem dX1_unseal_67 : decode cX1_unseal 67 = .ok (.iload 4, 2) := by decide +kernel
theorem dX1_unseal_69 : decode cX1_unseal 69 = .ok (.ireturn, 1) := by decide +kernel
theorem dX1_acts_0 : decode cX1_acts 0 = .ok (.iload_n 2, 1) := by decide +kernel
theorem dX1_acts_1 : decode cX1_acts 1 = .ok (.bipush 9, 2) := by decide +kernel
theorem dX1_acts_3 : decode cX1_acts 3 = .ok (.if_icmp .ne 26, 3) := by decide +kernel
theorem dX1_acts_6 : decode cX1_acts 6 = .ok (.aload_n 0, 1) := by decide +kernel
theorem dX1_acts_7 : decode cX1_acts 7 = .ok (.iload_n 1, 1) := by decide +kernel
theorem dX1_acts_8 : decode cX1_acts 8 = .ok (.invokevirtual 94, 3) := by decide +kernel
theorem dX1_acts_11 : decode cX1_acts 11 = .ok (.ifCond .ne 5, 3) := by decide +kernel
theorem dX1_acts_14 : decode cX1_acts 14 = .ok (.iconst 0, 1) := by decide +kernel
theorem dX1_acts_15 : decode cX1_acts 15 = .ok (.ireturn, 1) := by decide +kernel
theorem dX1_acts_16 : decode cX1_acts 16 = .ok (.aload_n 0, 1) := by decide +kernel
theorem dX1_acts_17 : decode cX1_acts 17 = .ok (.dup, 1) := by decide +kernel
theorem dX1_acts_18 : decode cX1_acts 18 = .ok (.getfield 37, 3) := by decide +kernel
theorem dX1_acts_21 : decode cX1_acts 21 = .ok (.iload_n 1, 1) := by decide +kernel
theorem dX1_acts_22 : decode cX1_acts 22 = .ok (.iadd, 1) := by decide +kernel
theorem dX1_acts_23 : decode cX1_acts 23 = .ok (.putfield 37, 3) := by decide +kernel
theorem dX1_acts_26 : decode cX1_acts 26 = .ok (.goto 46, 3) := by decide +kernel
theorem dX1_acts_29 : decode cX1_acts 29 = .ok (.iload_n 2, 1) := by decide +kernel
theorem dX1_acts_30 : decode cX1_acts 30 = .ok (.bipush 8, 2) := by decide +kernel
theorem dX1_acts_32 : decode cX1_acts 32 = .ok (.if_icmp .ne 22, 3) := by decide +kernel
theorem dX1_acts_35 : decode cX1_acts 35 = .ok (.aload_n 0, 1) := by decide +kernel
theorem dX1_acts_36 : decode cX1_acts 36 = .ok (.iload_n 1, 1) := by decide +kernel
theorem dX1_acts_37 : decode cX1_acts 37 = .ok (.invokevirtual 68, 3) := by decide +kernel
theorem dX1_acts_40 : decode cX1_acts 40 = .ok (.ifCond .eq 5, 3) := by decide +kernel
theorem dX1_acts_43 : decode cX1_acts 43 = .ok (.iconst 0, 1) := by decide +kernel
theorem dX1_acts_44 : decode cX1_acts 44 = .ok (.ireturn, 1) := by decide +kernel
theorem dX1_acts_45 : decode cX1_acts 45 = .ok (.aload_n 0, 1) := by decide +kernel
theorem dX1_acts_46 : decode cX1_acts 46 = .ok (.iload_n 1, 1) := by decide +kernel
theorem dX1_acts_47 : decode cX1_acts 47 = .ok (.invokevirtual 97, 3) := by decide +kernel
theorem dX1_acts_50 : decode cX1_acts 50 = .ok (.pop, 1) := by decide +kernel
theorem dX1_acts_51 : decode cX1_acts 51 = .ok (.goto 21, 3) := by decide +kernel
theorem dX1_acts_54 : decode cX1_acts 54 = .ok (.aload_n 0, 1) := by decide +kernel
theorem dX1_acts_55 : decode cX1_acts 55 = .ok (.iload_n 1, 1) := by decide +kernel
theorem dX1_acts_56 : decode cX1_acts 56 = .ok (.iload_n 2, 1) := by decide +kernel
theorem dX1_acts_57 : decode cX1_acts 57 = .ok (.invokevirtual 100, 3) := by decide +kernel
theorem dX1_acts_60 : decode cX1_acts 60 = .ok (.ifCond .ne 5, 3) := by decide +kernel
theorem dX1_acts_63 : decode cX1_acts 63 = .ok (.iconst 0, 1) := by decide +kernel
theorem dX1_acts_64 : decode cX1_acts 64 = .ok (.ireturn, 1) := by decide +kernel
theorem dX1_acts_65 : decode cX1_acts 65 = .ok (.aload_n 0, 1) := by decide +kernel
theorem dX1_acts_66 : decode cX1_acts 66 = .ok (.iload_n 1, 1) := by decide +kernel
theorem dX1_acts_67 : decode cX1_acts 67 = .ok (.iload_n 2, 1) := by decide +kernel
theorem dX1_acts_68 : decode cX1_acts 68 = .ok (.invokevirtual 103, 3) := by decide +kernel
theorem dX1_acts_71 : decode cX1_acts 71 = .ok (.pop, 1) := by decide +kernel
theorem dX1_acts_72 : decode cX1_acts 72 = .ok (.iconst 1, 1) := by decide +kernel
theorem dX1_acts_73 : decode cX1_acts 73 = .ok (.ireturn, 1) := by decide +kernel
theorem dX2_init_0 : decode cX2_init 0 = .ok (.aload_n 0, 1) := by decide +kernel
theorem dX2_init_1 : decode cX2_init 1 = .ok (.invokespecial 3, 3) := by decide +kernel
theorem dX2_init_4 : decode cX2_init 4 = .ok (.aload_n 0, 1) := by decide +kernel
theorem dX2_init_5 : decode cX2_init 5 = .ok (.bipush 8, 2) := by decide +kernel
theorem dX2_init_7 : decode cX2_init 7 = .ok (.newarray .int, 2) := by decide +kernel
theorem dX2_init_9 : decode cX2_init 9 = .ok (.putfield 9, 3) := by decide +kernel
theorem dX2_init_12 : decode cX2_init 12 = .ok (.aload_n 0, 1) := by decide +kernel
theorem dX2_init_13 : decode cX2_init 13 = .ok (.bipush 8, 2) := by decide +kernel
theorem dX2_init_15 : decode cX2_init 15 = .ok (.newarray .int, 2) := by decide +kernel
theorem dX2_init_17 : decode cX2_init 17 = .ok (.putfield 15, 3) := by decide +kernel
theorem dX2_init_20 : decode cX2_init 20 = .ok (.aload_n 0, 1) := by decide +kernel
theorem dX2_init_21 : decode cX2_init 21 = .ok (.bipush 8, 2) := by decide +kernel
theorem dX2_init_23 : decode cX2_init 23 = .ok (.newarray .int, 2) := by decide +kernel
theorem dX2_init_25 : decode cX2_init 25 = .ok (.putfield 18, 3) := by decide +kernel
theorem dX2_init_28 : decode cX2_init 28 = .ok (.aload_n 0, 1) := by decide +kernel
theorem dX2_init_29 : decode cX2_init 29 = .ok (.iconst 0, 1) := by decide +kernel
theorem dX2_init_30 : decode cX2_init 30 = .ok (.putfield 21, 3) := by decide +kernel
theorem dX2_init_33 : decode cX2_init 33 = .ok (.return_, 1) := by decide +kernel
theorem dX2_append_0 : decode cX2_append 0 = .ok (.aload_n 0, 1) := by decide +kernel
theorem dX2_append_1 : decode cX2_append 1 = .ok (.getfield 21, 3) := by decide +kernel
theorem dX2_append_4 : decode cX2_append 4 = .ok (.istore 4, 2) := by decide +kernel
theorem dX2_append_6 : decode cX2_append 6 = .ok (.aload_n 0, 1) := by decide +kernel
theorem dX2_append_7 : decode cX2_append 7 = .ok (.getfield 9, 3) := by decide +kernel
theorem dX2_append_10 : decode cX2_append 10 = .ok (.iload 4, 2) := by decide +kernel
theorem dX2_append_12 : decode cX2_append 12 = .ok (.iload_n 1, 1) := by decide +kernel
theorem dX2_append_13 : decode cX2_append 13 = .ok (.iastore, 1) := by decide +kernel
theorem dX2_append_14 : decode cX2_append 14 = .ok (.aload_n 0, 1) := by decide +kernel
theorem dX2_append_15 : decode cX2_append 15 = .ok (.getfield 15, 3) := by decide +kernel
theorem dX2_append_18 : decode cX2_append 18 = .ok (.iload 4, 2) := by decide +kernel
theorem dX2_append_20 : decode cX2_append 20 = .ok (.iload_n 2, 1) := by decide +kernel
theorem dX2_append_21 : decode cX2_append 21 = .ok (.iastore, 1) := by decide +kernel
theorem dX2_append_22 : decode cX2_append 22 = .ok (.aload_n 0, 1) := by decide +kernel
theorem dX2_append_23 : decode cX2_append 23 = .ok (.getfield 18, 3) := by decide +kernel
theorem dX2_append_26 : decode cX2_append 26 = .ok (.iload 4, 2) := by decide +kernel
theorem dX2_append_28 : decode cX2_append 28 = .ok (.iload_n 3, 1) := by decide +kernel
theorem dX2_append_29 : decode cX2_append 29 = .ok (.iastore, 1) := by decide +kernel
theorem dX2_append_30 : decode cX2_append 30 = .ok (.aload_n 0, 1) := by decide +kernel
theorem dX2_append_31 : decode cX2_append 31 = .ok (.dup, 1) := by decide +kernel
theorem dX2_append_32 : decode cX2_append 32 = .ok (.getfield 21, 3) := by decide +kernel
theorem dX2_append_35 : decode cX2_append 35 = .ok (.iconst 1, 1) := by decide +kernel
theorem dX2_append_36 : decode cX2_append 36 = .ok (.iadd, 1) := by decide +kernel
theorem dX2_append_37 : decode cX2_append 37 = .ok (.putfield 21, 3) := by decide +kernel
theorem dX2_append_40 : decode cX2_append 40 = .ok (.iload 4, 2) := by decide +kernel
theorem dX2_append_42 : decode cX2_append 42 = .ok (.ireturn, 1) := by decide +kernel
theorem dX2_areSoWith_0 : decode cX2_areSoWith 0 = .ok (.iconst 0, 1) := by decide +kernel
theorem dX2_areSoWith_1 : decode cX2_areSoWith 1 = .ok (.istore 6, 2) := by decide +kernel
theorem dX2_areSoWith_3 : decode cX2_areSoWith 3 = .ok (.iload 6, 2) := by decide +kernel
theorem dX2_areSoWith_5 : decode cX2_areSoWith 5 = .ok (.aload_n 0, 1) := by decide +kernel
theorem dX2_areSoWith_6 : decode cX2_areSoWith 6 = .ok (.getfield 21, 3) := by decide +kernel
theorem dX2_areSoWith_9 : decode cX2_areSoWith 9 = .ok (.if_icmp .ge 72, 3) := by decide +kernel
theorem dX2_areSoWith_12 : decode cX2_areSoWith 12 = .ok (.aload_n 0, 1) := by decide +kernel
theorem dX2_areSoWith_13 : decode cX2_areSoWith 13 = .ok (.getfield 9, 3) := by decide +kernel
theorem dX2_areSoWith_16 : decode cX2_areSoWith 16 = .ok (.iload 6, 2) := by decide +kernel
theorem dX2_areSoWith_18 : decode cX2_areSoWith 18 = .ok (.iaload, 1) := by decide +kernel
theorem dX2_areSoWith_19 : decode cX2_areSoWith 19 = .ok (.iload_n 2, 1) := by decide +kernel
theorem dX2_areSoWith_20 : decode cX2_areSoWith 20 = .ok (.if_icmp .ne 21, 3) := by decide +kernel
theorem dX2_areSoWith_23 : decode cX2_areSoWith 23 = .ok (.iload_n 3, 1) := by decide +kernel
theorem dX2_areSoWith_24 : decode cX2_areSoWith 24 = .ok (.iload 4, 2) := by decide +kernel
theorem dX2_areSoWith_26 : decode cX2_areSoWith 26 = .ok (.iload 5, 2) := by decide +kernel
theorem dX2_areSoWith_28 : decode cX2_areSoWith 28 = .ok (.aload_n 0, 1) := by decide +kernel
theorem dX2_areSoWith_29 : decode cX2_areSoWith 29 = .ok (.getfield 15, 3) := by decide +kernel
theorem dX2_areSoWith_32 : decode cX2_areSoWith 32 = .ok (.iload 6, 2) := by decide +kernel
theorem dX2_areSoWith_34 : decode cX2_areSoWith 34 = .ok (.iaload, 1) := by decide +kernel
theorem dX2_areSoWith_35 : decode cX2_areSoWith 35 = .ok (.invokestatic 25, 3) := by decide +kernel
theorem dX2_areSoWith_38 : decode cX2_areSoWith 38 = .ok (.goto 21, 3) := by decide +kernel
theorem dX2_areSoWith_41 : decode cX2_areSoWith 41 = .ok (.aload_n 1, 1) := by decide +kernel
theorem dX2_areSoWith_42 : decode cX2_areSoWith 42 = .ok (.aload_n 0, 1) := by decide +kernel
theorem dX2_areSoWith_43 : decode cX2_areSoWith 43 = .ok (.getfield 9, 3) := by decide +kernel
theorem dX2_areSoWith_46 : decode cX2_areSoWith 46 = .ok (.iload 6, 2) := by decide +kernel
theorem dX2_areSoWith_48 : decode cX2_areSoWith 48 = .ok (.iaload, 1) := by decide +kernel
theorem dX2_areSoWith_49 : decode cX2_areSoWith 49 = .ok (.aload_n 0, 1) := by decide +kernel
theorem dX2_areSoWith_50 : decode cX2_areSoWith 50 = .ok (.getfield 15, 3) := by decide +kernel
theorem dX2_areSoWith_53 : decode cX2_areSoWith 53 = .ok (.iload 6, 2) := by decide +kernel
theorem dX2_areSoWith_55 : decode cX2_areSoWith 55 = .ok (.iaload, 1) := by decide +kernel
theorem dX2_areSoWith_56 : decode cX2_areSoWith 56 = .ok (.invokevirtual 29, 3) := by decide +kernel
theorem dX2_areSoWith_59 : decode cX2_areSoWith 59 = .ok (.istore 7, 2) := by decide +kernel
theorem dX2_areSoWith_61 : decode cX2_areSoWith 61 = .ok (.iload 7, 2) := by decide +kernel
theorem dX2_areSoWith_63 : decode cX2_areSoWith 63 = .ok (.aload_n 0, 1) := by decide +kernel
theorem dX2_areSoWith_64 : decode cX2_areSoWith 64 = .ok (.getfield 18, 3) := by decide +kernel
theorem dX2_areSoWith_67 : decode cX2_areSoWith 67 = .ok (.iload 6, 2) := by decide +kernel
theorem dX2_areSoWith_69 : decode cX2_areSoWith 69 = .ok (.iaload, 1) := by decide +kernel
theorem dX2_areSoWith_70 : decode cX2_areSoWith 70 = .ok (.if_icmp .eq 5, 3) := by decide +kernel
theorem dX2_areSoWith_73 : decode cX2_areSoWith 73 = .ok (.iconst 0, 1) := by decide +kernel
theorem dX2_areSoWith_74 : decode cX2_areSoWith 74 = .ok (.ireturn, 1) := by decide +kernel
theorem dX2_areSoWith_75 : decode cX2_areSoWith 75 = .ok (.iinc 6 1, 3) := by decide +kernel
theorem dX2_areSoWith_78 : decode cX2_areSoWith 78 = .ok (.goto (-75), 3) := by decide +kernel
theorem dX2_areSoWith_81 : decode cX2_areSoWith 81 = .ok (.iconst 1, 1) := by decide +kernel
theorem dX2_areSoWith_82 : decode cX2_areSoWith 82 = .ok (.ireturn, 1) := by decide +kernel
theorem dX3_init_0 : decode cX3_init 0 = .ok (.aload_n 0, 1) := by decide +kernel
theorem dX3_init_1 : decode cX3_init 1 = .ok (.invokespecial 3, 3) := by decide +kernel
theorem dX3_init_4 : decode cX3_init 4 = .ok (.aload_n 0, 1) := by decide +kernel
theorem dX3_init_5 : decode cX3_init 5 = .ok (.bipush 60, 2) := by decide +kernel
theorem dX3_init_7 : decode cX3_init 7 = .ok (.newarray .int, 2) := by decide +kernel
theorem dX3_init_9 : decode cX3_init 9 = .ok (.putfield 9, 3) := by decide +kernel
theorem dX3_init_12 : decode cX3_init 12 = .ok (.aload_n 0, 1) := by decide +kernel
theorem dX3_init_13 : decode cX3_init 13 = .ok (.iconst (-1), 1) := by decide +kernel
theorem dX3_init_14 : decode cX3_init 14 = .ok (.putfield 15, 3) := by decide +kernel
theorem dX3_init_17 : decode cX3_init 17 = .ok (.aload_n 0, 1) := by decide +kernel
theorem dX3_init_18 : decode cX3_init 18 = .ok (.iconst 0, 1) := by decide +kernel
theorem dX3_init_19 : decode cX3_init 19 = .ok (.putfield 19, 3) := by decide +kernel
theorem dX3_init_22 : decode cX3_init 22 = .ok (.return_, 1) := by decide +kernel
theorem dX3_getRow_0 : decode cX3_getRow 0 = .ok (.aload_n 0, 1) := by decide +kernel
theorem dX3_getRow_1 : decode cX3_getRow 1 = .ok (.iload_n 1, 1) := by decide +kernel
theorem dX3_getRow_2 : decode cX3_getRow 2 = .ok (.putfield 19, 3) := by decide +kernel
theorem dX3_getRow_5 : decode cX3_getRow 5 = .ok (.aload_n 0, 1) := by decide +kernel
theorem dX3_getRow_6 : decode cX3_getRow 6 = .ok (.iload_n 2, 1) := by decide +kernel
theorem dX3_getRow_7 : decode cX3_getRow 7 = .ok (.putfield 15, 3) := by decide +kernel
theorem dX3_getRow_10 : decode cX3_getRow 10 = .ok (.aload_n 0, 1) := by decide +kernel
theorem dX3_getRow_11 : decode cX3_getRow 11 = .ok (.getfield 9, 3) := by decide +kernel
theorem dX3_getRow_14 : decode cX3_getRow 14 = .ok (.iconst 0, 1) := by decide +kernel
theorem dX3_getRow_15 : decode cX3_getRow 15 = .ok (.invokestatic 22, 3) := by decide +kernel
theorem dX3_getRow_18 : decode cX3_getRow 18 = .ok (.return_, 1) := by decide +kernel
theorem dX3_hasRow_0 : decode cX3_hasRow 0 = .ok (.aload_n 0, 1) := by decide +kernel
theorem dX3_hasRow_1 : decode cX3_hasRow 1 = .ok (.getfield 15, 3) := by decide +kernel
theorem dX3_hasRow_4 : decode cX3_hasRow 4 = .ok (.iconst (-1), 1) := by decide +kernel
theorem dX3_hasRow_5 : decode cX3_hasRow 5 = .ok (.if_icmp .eq 7, 3) := by decide +kernel
theorem dX3_hasRow_8 : decode cX3_hasRow 8 = .ok (.iconst 1, 1) := by decide +kernel
theorem dX3_hasRow_9 : decode cX3_hasRow 9 = .ok (.goto 4, 3) := by decide +kernel
theorem dX3_hasRow_12 : decode cX3_hasRow 12 = .ok (.iconst 0, 1) := by decide +kernel
theorem dX3_hasRow_13 : decode cX3_hasRow 13 = .ok (.ireturn, 1) := by decide +kernel
theorem dX3_isOfAnotherLane_0 : decode cX3_isOfAnotherLane 0 = .ok (.aload_n 0, 1) := by decide +kernel
theorem dX3_isOfAnotherLane_1 : decode cX3_isOfAnotherLane 1 = .ok (.invokevirtual 28, 3) := by decide +kernel
theorem dX3_isOfAnotherLane_4 : decode cX3_isOfAnotherLane 4 = .ok (.ifCond .eq 15, 3) := by decide +kernel
theorem dX3_isOfAnotherLane_7 : decode cX3_isOfAnotherLane 7 = .ok (.aload_n 0, 1) := by decide +kernel
theorem dX3_isOfAnotherLane_8 : decode cX3_isOfAnotherLane 8 = .ok (.getfield 19, 3) := by decide +kernel
theorem dX3_isOfAnotherLane_11 : decode cX3_isOfAnotherLane 11 = .ok (.iload_n 1, 1) := by decide +kernel
theorem dX3_isOfAnotherLane_12 : decode cX3_isOfAnotherLane 12 = .ok (.if_icmp .eq 7, 3) := by decide +kernel
theorem dX3_isOfAnotherLane_15 : decode cX3_isOfAnotherLane 15 = .ok (.iconst 1, 1) := by decide +kernel
theorem dX3_isOfAnotherLane_16 : decode cX3_isOfAnotherLane 16 = .ok (.goto 4, 3) := by decide +kernel
theorem dX3_isOfAnotherLane_19 : decode cX3_isOfAnotherLane 19 = .ok (.iconst 0, 1) := by decide +kernel
theorem dX3_isOfAnotherLane_20 : decode cX3_isOfAnotherLane 20 = .ok (.ireturn, 1) := by decide +kernel
theorem dX3_hasCells_0 : decode cX3_hasCells 0 = .ok (.iload_n 1, 1) := by decide +kernel
theorem dX3_hasCells_1 : decode cX3_hasCells 1 = .ok (.ifCond .lt 29, 3) := by decide +kernel
theorem dX3_hasCells_4 : decode cX3_hasCells 4 = .ok (.iload_n 1, 1) := by decide +kernel
theorem dX3_hasCells_5 : decode cX3_hasCells 5 = .ok (.aload_n 0, 1) := by decide +kernel
theorem dX3_hasCells_6 : decode cX3_hasCells 6 = .ok (.getfield 15, 3) := by decide +kernel
theorem dX3_hasCells_9 : decode cX3_hasCells 9 = .ok (.if_icmp .gt 21, 3) := by decide +kernel
theorem dX3_hasCells_12 : decode cX3_hasCells 12 = .ok (.iload_n 2, 1) := by decide +kernel
theorem dX3_hasCells_13 : decode cX3_hasCells 13 = .ok (.ifCond .lt 17, 3) := by decide +kernel
theorem dX3_hasCells_16 : decode cX3_hasCells 16 = .ok (.iload_n 2, 1) := by decide +kernel
theorem dX3_hasCells_17 : decode cX3_hasCells 17 = .ok (.aload_n 0, 1) := by decide +kernel
theorem dX3_hasCells_18 : decode cX3_hasCells 18 = .ok (.getfield 15, 3) := by decide +kernel
theorem dX3_hasCells_21 : decode cX3_hasCells 21 = .ok (.iload_n 1, 1) := by decide +kernel
theorem dX3_hasCells_22 : decode cX3_hasCells 22 = .ok (.isub, 1) := by decide +kernel
theorem dX3_hasCells_23 : decode cX3_hasCells 23 = .ok (.if_icmp .gt 7, 3) := by decide +kernel
theorem dX3_hasCells_26 : decode cX3_hasCells 26 = .ok (.iconst 1, 1) := by decide +kernel
theorem dX3_hasCells_27 : decode cX3_hasCells 27 = .ok (.goto 4, 3) := by decide +kernel
theorem dX3_hasCells_30 : decode cX3_hasCells 30 = .ok (.iconst 0, 1) := by decide +kernel
theorem dX3_hasCells_31 : decode cX3_hasCells 31 = .ok (.ireturn, 1) := by decide +kernel
theorem dX3_cutToLane_0 : decode cX3_cutToLane 0 = .ok (.aload_n 0, 1) := by decide +kernel
theorem dX3_cutToLane_1 : decode cX3_cutToLane 1 = .ok (.getfield 19, 3) := by decide +kernel
theorem dX3_cutToLane_4 : decode cX3_cutToLane 4 = .ok (.ifCond .ne 6, 3) := by decide +kernel
theorem dX3_cutToLane_7 : decode cX3_cutToLane 7 = .ok (.iload_n 1, 1) := by decide +kernel
theorem dX3_cutToLane_8 : decode cX3_cutToLane 8 = .ok (.i2b, 1) := by decide +kernel
theorem dX3_cutToLane_9 : decode cX3_cutToLane 9 = .ok (.ireturn, 1) := by decide +kernel
theorem dX3_cutToLane_10 : decode cX3_cutToLane 10 = .ok (.aload_n 0, 1) := by decide +kernel
theorem dX3_cutToLane_11 : decode cX3_cutToLane 11 = .ok (.getfield 19, 3) := by decide +kernel
theorem dX3_cutToLane_14 : decode cX3_cutToLane 14 = .ok (.iconst 1, 1) := by decide +kernel
theorem dX3_cutToLane_15 : decode cX3_cutToLane 15 = .ok (.if_icmp .ne 6, 3) := by decide +kernel
theorem dX3_cutToLane_18 : decode cX3_cutToLane 18 = .ok (.iload_n 1, 1) := by decide +kernel
theorem dX3_cutToLane_19 : decode cX3_cutToLane 19 = .ok (.i2s, 1) := by decide +kernel
theorem dX3_cutToLane_20 : decode cX3_cutToLane 20 = .ok (.ireturn, 1) := by decide +kernel
theorem dX3_cutToLane_21 : decode cX3_cutToLane 21 = .ok (.iload_n 1, 1) := by decide +kernel
theorem dX3_cutToLane_22 : decode cX3_cutToLane 22 = .ok (.ireturn, 1) := by decide +kernel
theorem dX4_init_0 : decode cX4_init 0 = .ok (.aload_n 0, 1) := by decide +kernel
theorem dX4_init_1 : decode cX4_init 1 = .ok (.invokespecial 3, 3) := by decide +kernel
theorem dX4_init_4 : decode cX4_init 4 = .ok (.aload_n 0, 1) := by decide +kernel
theorem dX4_init_5 : decode cX4_init 5 = .ok (.bipush 60, 2) := by decide +kernel
theorem dX4_init_7 : decode cX4_init 7 = .ok (.newarray .int, 2) := by decide +kernel
theorem dX4_init_9 : decode cX4_init 9 = .ok (.putfield 9, 3) := by decide +kernel
theorem dX4_init_12 : decode cX4_init 12 = .ok (.aload_n 0, 1) := by decide +kernel
theorem dX4_init_13 : decode cX4_init 13 = .ok (.iconst 0, 1) := by decide +kernel
theorem dX4_init_14 : decode cX4_init 14 = .ok (.putfield 15, 3) := by decide +kernel
theorem dX4_init_17 : decode cX4_init 17 = .ok (.aload_n 0, 1) := by decide +kernel
theorem dX4_init_18 : decode cX4_init 18 = .ok (.iconst 0, 1) := by decide +kernel
theorem dX4_init_19 : decode cX4_init 19 = .ok (.putfield 19, 3) := by decide +kernel
theorem dX4_init_22 : decode cX4_init 22 = .ok (.aload_n 0, 1) := by decide +kernel
theorem dX4_init_23 : decode cX4_init 23 = .ok (.iconst 0, 1) := by decide +kernel
theorem dX4_init_24 : decode cX4_init 24 = .ok (.putfield 22, 3) := by decide +kernel
theorem dX4_init_27 : decode cX4_init 27 = .ok (.return_, 1) := by decide +kernel
theorem dX4_firstFaultOf_0 : decode cX4_firstFaultOf 0 = .ok (.aload_n 1, 1) := by decide +kernel
theorem dX4_firstFaultOf_1 : decode cX4_firstFaultOf 1 = .ok (.getfield 25, 3) := by decide +kernel
theorem dX4_firstFaultOf_4 : decode cX4_firstFaultOf 4 = .ok (.iload_n 2, 1) := by decide +kernel
theorem dX4_firstFaultOf_5 : decode cX4_firstFaultOf 5 = .ok (.aload_n 0, 1) := by decide +kernel
theorem dX4_firstFaultOf_6 : decode cX4_firstFaultOf 6 = .ok (.getfield 9, 3) := by decide +kernel
theorem dX4_firstFaultOf_9 : decode cX4_firstFaultOf 9 = .ok (.iconst 0, 1) := by decide +kernel
theorem dX4_firstFaultOf_10 : decode cX4_firstFaultOf 10 = .ok (.iload_n 3, 1) := by decide +kernel
theorem dX4_firstFaultOf_11 : decode cX4_firstFaultOf 11 = .ok (.invokestatic 30, 3) := by decide +kernel
theorem dX4_firstFaultOf_14 : decode cX4_firstFaultOf 14 = .ok (.aload_n 0, 1) := by decide +kernel
theorem dX4_firstFaultOf_15 : decode cX4_firstFaultOf 15 = .ok (.iload_n 3, 1) := by decide +kernel
theorem dX4_firstFaultOf_16 : decode cX4_firstFaultOf 16 = .ok (.putfield 15, 3) := by decide +kernel
theorem dX4_firstFaultOf_19 : decode cX4_firstFaultOf 19 = .ok (.aload_n 0, 1) := by decide +kernel
theorem dX4_firstFaultOf_20 : decode cX4_firstFaultOf 20 = .ok (.iconst 0, 1) := by decide +kernel
theorem dX4_firstFaultOf_21 : decode cX4_firstFaultOf 21 = .ok (.putfield 19, 3) := by decide +kernel
theorem dX4_firstFaultOf_24 : decode cX4_firstFaultOf 24 = .ok (.aload 4, 2) := by decide +kernel
theorem dX4_firstFaultOf_26 : decode cX4_firstFaultOf 26 = .ok (.invokevirtual 36, 3) := by decide +kernel
theorem dX4_firstFaultOf_29 : decode cX4_firstFaultOf 29 = .ok (.aload_n 0, 1) := by decide +kernel
theorem dX4_firstFaultOf_30 : decode cX4_firstFaultOf 30 = .ok (.bipush 109, 2) := by decide +kernel
theorem dX4_firstFaultOf_32 : decode cX4_firstFaultOf 32 = .ok (.bipush 109, 2) := by decide +kernel
theorem dX4_firstFaultOf_34 : decode cX4_firstFaultOf 34 = .ok (.invokevirtual 41, 3) := by decide +kernel
theorem dX4_firstFaultOf_37 : decode cX4_firstFaultOf 37 = .ok (.ifCond .eq 14, 3) := by decide +kernel
theorem dX4_firstFaultOf_40 : decode cX4_firstFaultOf 40 = .ok (.aload_n 0, 1) := by decide +kernel
theorem dX4_firstFaultOf_41 : decode cX4_firstFaultOf 41 = .ok (.bipush 49, 2) := by decide +kernel
theorem dX4_firstFaultOf_43 : decode cX4_firstFaultOf 43 = .ok (.bipush 57, 2) := by decide +kernel
theorem dX4_firstFaultOf_45 : decode cX4_firstFaultOf 45 = .ok (.invokevirtual 41, 3) := by decide +kernel
theorem dX4_firstFaultOf_48 : decode cX4_firstFaultOf 48 = .ok (.ifCond .ne 8, 3) := by decide +kernel
theorem dX4_firstFaultOf_51 : decode cX4_firstFaultOf 51 = .ok (.aload_n 0, 1) := by decide +kernel
theorem dX4_firstFaultOf_52 : decode cX4_firstFaultOf 52 = .ok (.getfield 19, 3) := by decide +kernel
theorem dX4_firstFaultOf_55 : decode cX4_firstFaultOf 55 = .ok (.ireturn, 1) := by decide +kernel
theorem dX4_firstFaultOf_56 : decode cX4_firstFaultOf 56 = .ok (.aload 4, 2) := by decide +kernel
theorem dX4_firstFaultOf_58 : decode cX4_firstFaultOf 58 = .ok (.aload_n 0, 1) := by decide +kernel
theorem dX4_firstFaultOf_59 : decode cX4_firstFaultOf 59 = .ok (.getfield 22, 3) := by decide +kernel
theorem dX4_firstFaultOf_62 : decode cX4_firstFaultOf 62 = .ok (.bipush 48, 2) := by decide +kernel
theorem dX4_firstFaultOf_64 : decode cX4_firstFaultOf 64 = .ok (.isub, 1) := by decide +kernel
theorem dX4_firstFaultOf_65 : decode cX4_firstFaultOf 65 = .ok (.putfield 45, 3) := by decide +kernel
theorem dX4_firstFaultOf_68 : decode cX4_firstFaultOf 68 = .ok (.iconst 0, 1) := by decide +kernel
theorem dX4_firstFaultOf_69 : decode cX4_firstFaultOf 69 = .ok (.istore 5, 2) := by decide +kernel
theorem dX4_firstFaultOf_71 : decode cX4_firstFaultOf 71 = .ok (.iload 5, 2) := by decide +kernel
theorem dX4_firstFaultOf_73 : decode cX4_firstFaultOf 73 = .ok (.iconst 4, 1) := by decide +kernel
theorem dX4_firstFaultOf_74 : decode cX4_firstFaultOf 74 = .ok (.if_icmp .ge 36, 3) := by decide +kernel
theorem dX4_firstFaultOf_77 : decode cX4_firstFaultOf 77 = .ok (.aload_n 0, 1) := by decide +kernel
theorem dX4_firstFaultOf_78 : decode cX4_firstFaultOf 78 = .ok (.bipush 44, 2) := by decide +kernel
theorem dX4_firstFaultOf_80 : decode cX4_firstFaultOf 80 = .ok (.bipush 44, 2) := by decide +kernel
theorem dX4_firstFaultOf_82 : decode cX4_firstFaultOf 82 = .ok (.invokevirtual 41, 3) := by decide +kernel
theorem dX4_firstFaultOf_85 : decode cX4_firstFaultOf 85 = .ok (.ifCond .eq 25, 3) := by decide +kernel
theorem dX4_firstFaultOf_88 : decode cX4_firstFaultOf 88 = .ok (.aload_n 0, 1) := by decide +kernel
theorem dX4_firstFaultOf_89 : decode cX4_firstFaultOf 89 = .ok (.aload 4, 2) := by decide +kernel
theorem dX4_firstFaultOf_91 : decode cX4_firstFaultOf 91 = .ok (.iload 5, 2) := by decide +kernel
theorem dX4_firstFaultOf_93 : decode cX4_firstFaultOf 93 = .ok (.invokevirtual 48, 3) := by decide +kernel
theorem dX4_firstFaultOf_96 : decode cX4_firstFaultOf 96 = .ok (.ifCond .ne 8, 3) := by decide +kernel
theorem dX4_firstFaultOf_99 : decode cX4_firstFaultOf 99 = .ok (.aload_n 0, 1) := by decide +kernel
theorem dX4_firstFaultOf_100 : decode cX4_firstFaultOf 100 = .ok (.getfield 19, 3) := by decide +kernel
theorem dX4_firstFaultOf_103 : decode cX4_firstFaultOf 103 = .ok (.ireturn, 1) := by decide +kernel
theorem dX4_firstFaultOf_104 : decode cX4_firstFaultOf 104 = .ok (.iinc 5 1, 3) := by decide +kernel
theorem dX4_firstFaultOf_107 : decode cX4_firstFaultOf 107 = .ok (.goto (-36), 3) := by decide +kernel
theorem dX4_firstFaultOf_110 : decode cX4_firstFaultOf 110 = .ok (.aload 4, 2) := by decide +kernel
theorem dX4_firstFaultOf_112 : decode cX4_firstFaultOf 112 = .ok (.getfield 52, 3) := by decide +kernel
theorem dX4_firstFaultOf_115 : decode cX4_firstFaultOf 115 = .ok (.ifCond .ne 8, 3) := by decide +kernel
theorem dX4_firstFaultOf_118 : decode cX4_firstFaultOf 118 = .ok (.aload_n 0, 1) := by decide +kernel
theorem dX4_firstFaultOf_119 : decode cX4_firstFaultOf 119 = .ok (.getfield 19, 3) := by decide +kernel
theorem dX4_firstFaultOf_122 : decode cX4_firstFaultOf 122 = .ok (.ireturn, 1) := by decide +kernel
theorem dX4_firstFaultOf_123 : decode cX4_firstFaultOf 123 = .ok (.iconst 0, 1) := by decide +kernel
theorem dX4_firstFaultOf_124 : decode cX4_firstFaultOf 124 = .ok (.istore 5, 2) := by decide +kernel
theorem dX4_firstFaultOf_126 : decode cX4_firstFaultOf 126 = .ok (.iload 5, 2) := by decide +kernel
theorem dX4_firstFaultOf_128 : decode cX4_firstFaultOf 128 = .ok (.bipush 6, 2) := by decide +kernel
theorem dX4_firstFaultOf_130 : decode cX4_firstFaultOf 130 = .ok (.if_icmp .ge 36, 3) := by decide +kernel
theorem dX4_firstFaultOf_133 : decode cX4_firstFaultOf 133 = .ok (.aload_n 0, 1) := by decide +kernel
theorem dX4_firstFaultOf_134 : decode cX4_firstFaultOf 134 = .ok (.bipush 59, 2) := by decide +kernel
theorem dX4_firstFaultOf_136 : decode cX4_firstFaultOf 136 = .ok (.bipush 59, 2) := by decide +kernel
theorem dX4_firstFaultOf_138 : decode cX4_firstFaultOf 138 = .ok (.invokevirtual 41, 3) := by decide +kernel
theorem dX4_firstFaultOf_141 : decode cX4_firstFaultOf 141 = .ok (.ifCond .eq 25, 3) := by decide +kernel
theorem dX4_firstFaultOf_144 : decode cX4_firstFaultOf 144 = .ok (.aload_n 0, 1) := by decide +kernel
theorem dX4_firstFaultOf_145 : decode cX4_firstFaultOf 145 = .ok (.aload 4, 2) := by decide +kernel
theorem dX4_firstFaultOf_147 : decode cX4_firstFaultOf 147 = .ok (.iload 5, 2) := by decide +kernel
theorem dX4_firstFaultOf_149 : decode cX4_firstFaultOf 149 = .ok (.invokevirtual 55, 3) := by decide +kernel
theorem dX4_firstFaultOf_152 : decode cX4_firstFaultOf 152 = .ok (.ifCond .ne 8, 3) := by decide +kernel
theorem dX4_firstFaultOf_155 : decode cX4_firstFaultOf 155 = .ok (.aload_n 0, 1) := by decide +kernel
theorem dX4_firstFaultOf_156 : decode cX4_firstFaultOf 156 = .ok (.getfield 19, 3) := by decide +kernel
theorem dX4_firstFaultOf_159 : decode cX4_firstFaultOf 159 = .ok (.ireturn, 1) := by decide +kernel
theorem dX4_firstFaultOf_160 : decode cX4_firstFaultOf 160 = .ok (.iinc 5 1, 3) := by decide +kernel
theorem dX4_firstFaultOf_163 : decode cX4_firstFaultOf 163 = .ok (.goto (-37), 3) := by decide +kernel
theorem dX4_firstFaultOf_166 : decode cX4_firstFaultOf 166 = .ok (.aload 4, 2) := by decide +kernel
theorem dX4_firstFaultOf_168 : decode cX4_firstFaultOf 168 = .ok (.getfield 58, 3) := by decide +kernel
theorem dX4_firstFaultOf_171 : decode cX4_firstFaultOf 171 = .ok (.ifCond .le 19, 3) := by decide +kernel
theorem dX4_firstFaultOf_174 : decode cX4_firstFaultOf 174 = .ok (.aload_n 0, 1) := by decide +kernel
theorem dX4_firstFaultOf_175 : decode cX4_firstFaultOf 175 = .ok (.getfield 19, 3) := by decide +kernel
theorem dX4_firstFaultOf_178 : decode cX4_firstFaultOf 178 = .ok (.aload_n 0, 1) := by decide +kernel
theorem dX4_firstFaultOf_179 : decode cX4_firstFaultOf 179 = .ok (.getfield 15, 3) := by decide +kernel
theorem dX4_firstFaultOf_182 : decode cX4_firstFaultOf 182 = .ok (.if_icmp .ne 8, 3) := by decide +kernel
theorem dX4_firstFaultOf_185 : decode cX4_firstFaultOf 185 = .ok (.bipush (-9), 2) := by decide +kernel
theorem dX4_firstFaultOf_187 : decode cX4_firstFaultOf 187 = .ok (.goto 7, 3) := by decide +kernel
theorem dX4_firstFaultOf_190 : decode cX4_firstFaultOf 190 = .ok (.aload_n 0, 1) := by decide +kernel
theorem dX4_firstFaultOf_191 : decode cX4_firstFaultOf 191 = .ok (.getfield 19, 3) := by decide +kernel
theorem dX4_firstFaultOf_194 : decode cX4_firstFaultOf 194 = .ok (.ireturn, 1) := by decide +kernel
theorem dX4_takes_0 : decode cX4_takes 0 = .ok (.aload_n 0, 1) := by decide +kernel
theorem dX4_takes_1 : decode cX4_takes 1 = .ok (.getfield 19, 3) := by decide +kernel
theorem dX4_takes_4 : decode cX4_takes 4 = .ok (.aload_n 0, 1) := by decide +kernel
theorem dX4_takes_5 : decode cX4_takes 5 = .ok (.getfield 15, 3) := by decide +kernel
theorem dX4_takes_8 : decode cX4_takes 8 = .ok (.if_icmp .ge 29, 3) := by decide +kernel
theorem dX4_takes_11 : decode cX4_takes 11 = .ok (.aload_n 0, 1) := by decide +kernel
theorem dX4_takes_12 : decode cX4_takes 12 = .ok (.getfield 9, 3) := by decide +kernel
theorem dX4_takes_15 : decode cX4_takes 15 = .ok (.aload_n 0, 1) := by decide +kernel
theorem dX4_takes_16 : decode cX4_takes 16 = .ok (.getfield 19, 3) := by decide +kernel
theorem dX4_takes_19 : decode cX4_takes 19 = .ok (.iaload, 1) := by decide +kernel
theorem dX4_takes_20 : decode cX4_takes 20 = .ok (.iload_n 1, 1) := by decide +kernel
theorem dX4_takes_21 : decode cX4_takes 21 = .ok (.if_icmp .lt 16, 3) := by decide +kernel
theorem dX4_takes_24 : decode cX4_takes 24 = .ok (.aload_n 0, 1) := by decide +kernel
theorem dX4_takes_25 : decode cX4_takes 25 = .ok (.getfield 9, 3) := by decide +kernel
theorem dX4_takes_28 : decode cX4_takes 28 = .ok (.aload_n 0, 1) := by decide +kernel
theorem dX4_takes_29 : decode cX4_takes 29 = .ok (.getfield 19, 3) := by decide +kernel
theorem dX4_takes_32 : decode cX4_takes 32 = .ok (.iaload, 1) := by decide +kernel
theorem dX4_takes_33 : decode cX4_takes 33 = .ok (.iload_n 2, 1) := by decide +kernel
theorem dX4_takes_34 : decode cX4_takes 34 = .ok (.if_icmp .le 5, 3) := by decide +kernel
theorem dX4_takes_37 : decode cX4_takes 37 = .ok (.iconst 0, 1) := by decide +kernel
theorem dX4_takes_38 : decode cX4_takes 38 = .ok (.ireturn, 1) := by decide +kernel
theorem dX4_takes_39 : decode cX4_takes 39 = .ok (.aload_n 0, 1) := by decide +kernel
theorem dX4_takes_40 : decode cX4_takes 40 = .ok (.aload_n 0, 1) := by decide +kernel
theorem dX4_takes_41 : decode cX4_takes 41 = .ok (.getfield 9, 3) := by decide +kernel
theorem dX4_takes_44 : decode cX4_takes 44 = .ok (.aload_n 0, 1) := by decide +kernel
theorem dX4_takes_45 : decode cX4_takes 45 = .ok (.getfield 19, 3) := by decide +kernel
theorem dX4_takes_48 : decode cX4_takes 48 = .ok (.iaload, 1) := by decide +kernel
theorem dX4_takes_49 : decode cX4_takes 49 = .ok (.putfield 22, 3) := by decide +kernel
theorem dX4_takes_52 : decode cX4_takes 52 = .ok (.aload_n 0, 1) := by decide +kernel
theorem dX4_takes_53 : decode cX4_takes 53 = .ok (.dup, 1) := by decide +kernel
theorem dX4_takes_54 : decode cX4_takes 54 = .ok (.getfield 19, 3) := by decide +kernel
theorem dX4_takes_57 : decode cX4_takes 57 = .ok (.iconst 1, 1) := by decide +kernel
theorem dX4_takes_58 : decode cX4_takes 58 = .ok (.iadd, 1) := by decide +kernel
theorem dX4_takes_59 : decode cX4_takes 59 = .ok (.putfield 19, 3) := by decide +kernel
theorem dX4_takes_62 : decode cX4_takes 62 = .ok (.iconst 1, 1) := by decide +kernel
theorem dX4_takes_63 : decode cX4_takes 63 = .ok (.ireturn, 1) := by decide +kernel
theorem dX4_takesPerson_0 : decode cX4_takesPerson 0 = .ok (.aload_n 0, 1) := by decide +kernel
theorem dX4_takesPerson_1 : decode cX4_takesPerson 1 = .ok (.bipush 48, 2) := by decide +kernel
theorem dX4_takesPerson_3 : decode cX4_takesPerson 3 = .ok (.bipush 57, 2) := by decide +kernel
theorem dX4_takesPerson_5 : decode cX4_takesPerson 5 = .ok (.invokevirtual 41, 3) := by decide +kernel
theorem dX4_takesPerson_8 : decode cX4_takesPerson 8 = .ok (.ifCond .ne 5, 3) := by decide +kernel
theorem dX4_takesPerson_11 : decode cX4_takesPerson 11 = .ok (.iconst 0, 1) := by decide +kernel
theorem dX4_takesPerson_12 : decode cX4_takesPerson 12 = .ok (.ireturn, 1) := by decide +kernel
theorem dX4_takesPerson_13 : decode cX4_takesPerson 13 = .ok (.aload_n 0, 1) := by decide +kernel
theorem dX4_takesPerson_14 : decode cX4_takesPerson 14 = .ok (.getfield 22, 3) := by decide +kernel
theorem dX4_takesPerson_17 : decode cX4_takesPerson 17 = .ok (.bipush 48, 2) := by decide +kernel
theorem dX4_takesPerson_19 : decode cX4_takesPerson 19 = .ok (.isub, 1) := by decide +kernel
theorem dX4_takesPerson_20 : decode cX4_takesPerson 20 = .ok (.istore_n 3, 1) := by decide +kernel
theorem dX4_takesPerson_21 : decode cX4_takesPerson 21 = .ok (.aload_n 0, 1) := by decide +kernel
theorem dX4_takesPerson_22 : decode cX4_takesPerson 22 = .ok (.bipush 48, 2) := by decide +kernel
theorem dX4_takesPerson_24 : decode cX4_takesPerson 24 = .ok (.bipush 57, 2) := by decide +kernel
theorem dX4_takesPerson_26 : decode cX4_takesPerson 26 = .ok (.invokevirtual 41, 3) := by decide +kernel
theorem dX4_takesPerson_29 : decode cX4_takesPerson 29 = .ok (.ifCond .ne 5, 3) := by decide +kernel
theorem dX4_takesPerson_32 : decode cX4_takesPerson 32 = .ok (.iconst 0, 1) := by decide +kernel
theorem dX4_takesPerson_33 : decode cX4_takesPerson 33 = .ok (.ireturn, 1) := by decide +kernel
theorem dX4_takesPerson_34 : decode cX4_takesPerson 34 = .ok (.aload_n 1, 1) := by decide +kernel
theorem dX4_takesPerson_35 : decode cX4_takesPerson 35 = .ok (.getfield 61, 3) := by decide +kernel
theorem dX4_takesPerson_38 : decode cX4_takesPerson 38 = .ok (.iload_n 2, 1) := by decide +kernel
theorem dX4_takesPerson_39 : decode cX4_takesPerson 39 = .ok (.bipush 10, 2) := by decide +kernel
theorem dX4_takesPerson_41 : decode cX4_takesPerson 41 = .ok (.iload_n 3, 1) := by decide +kernel
theorem dX4_takesPerson_42 : decode cX4_takesPerson 42 = .ok (.imul, 1) := by decide +kernel
theorem dX4_takesPerson_43 : decode cX4_takesPerson 43 = .ok (.aload_n 0, 1) := by decide +kernel
theorem dX4_takesPerson_44 : decode cX4_takesPerson 44 = .ok (.getfield 22, 3) := by decide +kernel
theorem dX4_takesPerson_47 : decode cX4_takesPerson 47 = .ok (.iadd, 1) := by decide +kernel
theorem dX4_takesPerson_48 : decode cX4_takesPerson 48 = .ok (.bipush 48, 2) := by decide +kernel
theorem dX4_takesPerson_50 : decode cX4_takesPerson 50 = .ok (.isub, 1) := by decide +kernel
theorem dX4_takesPerson_51 : decode cX4_takesPerson 51 = .ok (.iastore, 1) := by decide +kernel
theorem dX4_takesPerson_52 : decode cX4_takesPerson 52 = .ok (.aload_n 1, 1) := by decide +kernel
theorem dX4_takesPerson_53 : decode cX4_takesPerson 53 = .ok (.iload_n 2, 1) := by decide +kernel
theorem dX4_takesPerson_54 : decode cX4_takesPerson 54 = .ok (.iconst 1, 1) := by decide +kernel
theorem dX4_takesPerson_55 : decode cX4_takesPerson 55 = .ok (.iadd, 1) := by decide +kernel
theorem dX4_takesPerson_56 : decode cX4_takesPerson 56 = .ok (.putfield 52, 3) := by decide +kernel
theorem dX4_takesPerson_59 : decode cX4_takesPerson 59 = .ok (.iconst 1, 1) := by decide +kernel
theorem dX4_takesPerson_60 : decode cX4_takesPerson 60 = .ok (.ireturn, 1) := by decide +kernel
theorem dX4_takesMorning_0 : decode cX4_takesMorning 0 = .ok (.aload_n 0, 1) := by decide +kernel
theorem dX4_takesMorning_1 : decode cX4_takesMorning 1 = .ok (.bipush 99, 2) := by decide +kernel
theorem dX4_takesMorning_3 : decode cX4_takesMorning 3 = .ok (.bipush 99, 2) := by decide +kernel
theorem dX4_takesMorning_5 : decode cX4_takesMorning 5 = .ok (.invokevirtual 41, 3) := by decide +kernel
theorem dX4_takesMorning_8 : decode cX4_takesMorning 8 = .ok (.ifCond .ne 27, 3) := by decide +kernel
theorem dX4_takesMorning_11 : decode cX4_takesMorning 11 = .ok (.aload_n 0, 1) := by decide +kernel
theorem dX4_takesMorning_12 : decode cX4_takesMorning 12 = .ok (.bipush 102, 2) := by decide +kernel
theorem dX4_takesMorning_14 : decode cX4_takesMorning 14 = .ok (.bipush 102, 2) := by decide +kernel
theorem dX4_takesMorning_16 : decode cX4_takesMorning 16 = .ok (.invokevirtual 41, 3) := by decide +kernel
theorem dX4_takesMorning_19 : decode cX4_takesMorning 19 = .ok (.ifCond .ne 16, 3) := by decide +kernel
theorem dX4_takesMorning_22 : decode cX4_takesMorning 22 = .ok (.aload_n 0, 1) := by decide +kernel
theorem dX4_takesMorning_23 : decode cX4_takesMorning 23 = .ok (.bipush 112, 2) := by decide +kernel
theorem dX4_takesMorning_25 : decode cX4_takesMorning 25 = .ok (.bipush 112, 2) := by decide +kernel
theorem dX4_takesMorning_27 : decode cX4_takesMorning 27 = .ok (.invokevirtual 41, 3) := by decide +kernel
theorem dX4_takesMorning_30 : decode cX4_takesMorning 30 = .ok (.ifCond .ne 5, 3) := by decide +kernel
theorem dX4_takesMorning_33 : decode cX4_takesMorning 33 = .ok (.iconst 0, 1) := by decide +kernel
theorem dX4_takesMorning_34 : decode cX4_takesMorning 34 = .ok (.ireturn, 1) := by decide +kernel
theorem dX4_takesMorning_35 : decode cX4_takesMorning 35 = .ok (.aload_n 1, 1) := by decide +kernel
theorem dX4_takesMorning_36 : decode cX4_takesMorning 36 = .ok (.getfield 64, 3) := by decide +kernel
theorem dX4_takesMorning_39 : decode cX4_takesMorning 39 = .ok (.iload_n 2, 1) := by decide +kernel
theorem dX4_takesMorning_40 : decode cX4_takesMorning 40 = .ok (.aload_n 0, 1) := by decide +kernel
theorem dX4_takesMorning_41 : decode cX4_takesMorning 41 = .ok (.getfield 22, 3) := by decide +kernel
theorem dX4_takesMorning_44 : decode cX4_takesMorning 44 = .ok (.bipush 99, 2) := by decide +kernel
theorem dX4_takesMorning_46 : decode cX4_takesMorning 46 = .ok (.if_icmp .ne 7, 3) := by decide +kernel
theorem dX4_takesMorning_49 : decode cX4_takesMorning 49 = .ok (.iconst 0, 1) := by decide +kernel
theorem dX4_takesMorning_50 : decode cX4_takesMorning 50 = .ok (.goto 17, 3) := by decide +kernel
theorem dX4_takesMorning_53 : decode cX4_takesMorning 53 = .ok (.aload_n 0, 1) := by decide +kernel
theorem dX4_takesMorning_54 : decode cX4_takesMorning 54 = .ok (.getfield 22, 3) := by decide +kernel
theorem dX4_takesMorning_57 : decode cX4_takesMorning 57 = .ok (.bipush 102, 2) := by decide +kernel
theorem dX4_takesMorning_59 : decode cX4_takesMorning 59 = .ok (.if_icmp .ne 7, 3) := by decide +kernel
theorem dX4_takesMorning_62 : decode cX4_takesMorning 62 = .ok (.iconst 1, 1) := by decide +kernel
theorem dX4_takesMorning_63 : decode cX4_takesMorning 63 = .ok (.goto 4, 3) := by decide +kernel
theorem dX4_takesMorning_66 : decode cX4_takesMorning 66 = .ok (.iconst 2, 1) := by decide +kernel
theorem dX4_takesMorning_67 : decode cX4_takesMorning 67 = .ok (.iastore, 1) := by decide +kernel
theorem dX4_takesMorning_68 : decode cX4_takesMorning 68 = .ok (.aload_n 0, 1) := by decide +kernel
theorem dX4_takesMorning_69 : decode cX4_takesMorning 69 = .ok (.bipush 48, 2) := by decide +kernel
theorem dX4_takesMorning_71 : decode cX4_takesMorning 71 = .ok (.bipush 48, 2) := by decide +kernel
theorem dX4_takesMorning_73 : decode cX4_takesMorning 73 = .ok (.aload_n 1, 1) := by decide +kernel
theorem dX4_takesMorning_74 : decode cX4_takesMorning 74 = .ok (.getfield 52, 3) := by decide +kernel
theorem dX4_takesMorning_77 : decode cX4_takesMorning 77 = .ok (.iadd, 1) := by decide +kernel
theorem dX4_takesMorning_78 : decode cX4_takesMorning 78 = .ok (.iconst 1, 1) := by decide +kernel
theorem dX4_takesMorning_79 : decode cX4_takesMorning 79 = .ok (.isub, 1) := by decide +kernel
theorem dX4_takesMorning_80 : decode cX4_takesMorning 80 = .ok (.invokevirtual 41, 3) := by decide +kernel
theorem dX4_takesMorning_83 : decode cX4_takesMorning 83 = .ok (.ifCond .ne 5, 3) := by decide +kernel
theorem dX4_takesMorning_86 : decode cX4_takesMorning 86 = .ok (.iconst 0, 1) := by decide +kernel
theorem dX4_takesMorning_87 : decode cX4_takesMorning 87 = .ok (.ireturn, 1) := by decide +kernel
theorem dX4_takesMorning_88 : decode cX4_takesMorning 88 = .ok (.aload_n 1, 1) := by decide +kernel
theorem dX4_takesMorning_89 : decode cX4_takesMorning 89 = .ok (.getfield 67, 3) := by decide +kernel
theorem dX4_takesMorning_92 : decode cX4_takesMorning 92 = .ok (.iload_n 2, 1) := by decide +kernel
theorem dX4_takesMorning_93 : decode cX4_takesMorning 93 = .ok (.aload_n 0, 1) := by decide +kernel
theorem dX4_takesMorning_94 : decode cX4_takesMorning 94 = .ok (.getfield 22, 3) := by decide +kernel
theorem dX4_takesMorning_97 : decode cX4_takesMorning 97 = .ok (.bipush 48, 2) := by decide +kernel
theorem dX4_takesMorning_99 : decode cX4_takesMorning 99 = .ok (.isub, 1) := by decide +kernel
theorem dX4_takesMorning_100 : decode cX4_takesMorning 100 = .ok (.iastore, 1) := by decide +kernel
theorem dX4_takesMorning_101 : decode cX4_takesMorning 101 = .ok (.aload_n 0, 1) := by decide +kernel
theorem dX4_takesMorning_102 : decode cX4_takesMorning 102 = .ok (.bipush 48, 2) := by decide +kernel
theorem dX4_takesMorning_104 : decode cX4_takesMorning 104 = .ok (.bipush 57, 2) := by decide +kernel
theorem dX4_takesMorning_106 : decode cX4_takesMorning 106 = .ok (.invokevirtual 41, 3) := by decide +kernel
theorem dX4_takesMorning_109 : decode cX4_takesMorning 109 = .ok (.ifCond .ne 5, 3) := by decide +kernel
theorem dX4_takesMorning_112 : decode cX4_takesMorning 112 = .ok (.iconst 0, 1) := by decide +kernel
theorem dX4_takesMorning_113 : decode cX4_takesMorning 113 = .ok (.ireturn, 1) := by decide +kernel
theorem dX4_takesMorning_114 : decode cX4_takesMorning 114 = .ok (.aload_n 1, 1) := by decide +kernel
theorem dX4_takesMorning_115 : decode cX4_takesMorning 115 = .ok (.getfield 70, 3) := by decide +kernel
theorem dX4_takesMorning_118 : decode cX4_takesMorning 118 = .ok (.iload_n 2, 1) := by decide +kernel
theorem dX4_takesMorning_119 : decode cX4_takesMorning 119 = .ok (.aload_n 0, 1) := by decide +kernel
theorem dX4_takesMorning_120 : decode cX4_takesMorning 120 = .ok (.getfield 22, 3) := by decide +kernel
theorem dX4_takesMorning_123 : decode cX4_takesMorning 123 = .ok (.bipush 48, 2) := by decide +kernel
theorem dX4_takesMorning_125 : decode cX4_takesMorning 125 = .ok (.isub, 1) := by decide +kernel
theorem dX4_takesMorning_126 : decode cX4_takesMorning 126 = .ok (.iastore, 1) := by decide +kernel
theorem dX4_takesMorning_127 : decode cX4_takesMorning 127 = .ok (.aload_n 0, 1) := by decide +kernel
theorem dX4_takesMorning_128 : decode cX4_takesMorning 128 = .ok (.bipush 48, 2) := by decide +kernel
theorem dX4_takesMorning_130 : decode cX4_takesMorning 130 = .ok (.bipush 57, 2) := by decide +kernel
theorem dX4_takesMorning_132 : decode cX4_takesMorning 132 = .ok (.invokevirtual 41, 3) := by decide +kernel
theorem dX4_takesMorning_135 : decode cX4_takesMorning 135 = .ok (.ifCond .ne 5, 3) := by decide +kernel
theorem dX4_takesMorning_138 : decode cX4_takesMorning 138 = .ok (.iconst 0, 1) := by decide +kernel
theorem dX4_takesMorning_139 : decode cX4_takesMorning 139 = .ok (.ireturn, 1) := by decide +kernel
theorem dX4_takesMorning_140 : decode cX4_takesMorning 140 = .ok (.aload_n 1, 1) := by decide +kernel
theorem dX4_takesMorning_141 : decode cX4_takesMorning 141 = .ok (.getfield 73, 3) := by decide +kernel
theorem dX4_takesMorning_144 : decode cX4_takesMorning 144 = .ok (.iload_n 2, 1) := by decide +kernel
theorem dX4_takesMorning_145 : decode cX4_takesMorning 145 = .ok (.aload_n 0, 1) := by decide +kernel
theorem dX4_takesMorning_146 : decode cX4_takesMorning 146 = .ok (.getfield 22, 3) := by decide +kernel
theorem dX4_takesMorning_149 : decode cX4_takesMorning 149 = .ok (.bipush 48, 2) := by decide +kernel
theorem dX4_takesMorning_151 : decode cX4_takesMorning 151 = .ok (.isub, 1) := by decide +kernel
theorem dX4_takesMorning_152 : decode cX4_takesMorning 152 = .ok (.iastore, 1) := by decide +kernel
theorem dX4_takesMorning_153 : decode cX4_takesMorning 153 = .ok (.aload_n 1, 1) := by decide +kernel
theorem dX4_takesMorning_154 : decode cX4_takesMorning 154 = .ok (.iload_n 2, 1) := by decide +kernel
theorem dX4_takesMorning_155 : decode cX4_takesMorning 155 = .ok (.iconst 1, 1) := by decide +kernel
theorem dX4_takesMorning_156 : decode cX4_takesMorning 156 = .ok (.iadd, 1) := by decide +kernel
theorem dX4_takesMorning_157 : decode cX4_takesMorning 157 = .ok (.putfield 58, 3) := by decide +kernel
theorem dX4_takesMorning_160 : decode cX4_takesMorning 160 = .ok (.iconst 1, 1) := by decide +kernel
theorem dX4_takesMorning_161 : decode cX4_takesMorning 161 = .ok (.ireturn, 1) := by decide +kernel
theorem dJ6_bitCount_0f7a4_0 : decode cJ6_bitCount_0f7a4 0 = .ok (.iload_n 0, 1) := by decide +kernel
theorem dJ6_bitCount_0f7a4_1 : decode cJ6_bitCount_0f7a4 1 = .ok (.iload_n 0, 1) := by decide +kernel
theorem dJ6_bitCount_0f7a4_2 : decode cJ6_bitCount_0f7a4 2 = .ok (.iconst 1, 1) := by decide +kernel
theorem dJ6_bitCount_0f7a4_3 : decode cJ6_bitCount_0f7a4 3 = .ok (.iushr, 1) := by decide +kernel
theorem dJ6_bitCount_0f7a4_4 : decode cJ6_bitCount_0f7a4 4 = .ok (.ldc_w 265, 3) := by decide +kernel
theorem dJ6_bitCount_0f7a4_7 : decode cJ6_bitCount_0f7a4 7 = .ok (.iand, 1) := by decide +kernel
theorem dJ6_bitCount_0f7a4_8 : decode cJ6_bitCount_0f7a4 8 = .ok (.isub, 1) := by decide +kernel
theorem dJ6_bitCount_0f7a4_9 : decode cJ6_bitCount_0f7a4 9 = .ok (.istore_n 0, 1) := by decide +kernel
theorem dJ6_bitCount_0f7a4_10 : decode cJ6_bitCount_0f7a4 10 = .ok (.iload_n 0, 1) := by decide +kernel
theorem dJ6_bitCount_0f7a4_11 : decode cJ6_bitCount_0f7a4 11 = .ok (.ldc_w 266, 3) := by decide +kernel
theorem dJ6_bitCount_0f7a4_14 : decode cJ6_bitCount_0f7a4 14 = .ok (.iand, 1) := by decide +kernel
theorem dJ6_bitCount_0f7a4_15 : decode cJ6_bitCount_0f7a4 15 = .ok (.iload_n 0, 1) := by decide +kernel
theorem dJ6_bitCount_0f7a4_16 : decode cJ6_bitCount_0f7a4 16 = .ok (.iconst 2, 1) := by decide +kernel
theorem dJ6_bitCount_0f7a4_17 : decode cJ6_bitCount_0f7a4 17 = .ok (.iushr, 1) := by decide +kernel
theorem dJ6_bitCount_0f7a4_18 : decode cJ6_bitCount_0f7a4 18 = .ok (.ldc_w 266, 3) := by decide +kernel
theorem dJ6_bitCount_0f7a4_21 : decode cJ6_bitCount_0f7a4 21 = .ok (.iand, 1) := by decide +kernel
theorem dJ6_bitCount_0f7a4_22 : decode cJ6_bitCount_0f7a4 22 = .ok (.iadd, 1) := by decide +kernel
theorem dJ6_bitCount_0f7a4_23 : decode cJ6_bitCount_0f7a4 23 = .ok (.istore_n 0, 1) := by decide +kernel
theorem dJ6_bitCount_0f7a4_24 : decode cJ6_bitCount_0f7a4 24 = .ok (.iload_n 0, 1) := by decide +kernel
theorem dJ6_bitCount_0f7a4_25 : decode cJ6_bitCount_0f7a4 25 = .ok (.iload_n 0, 1) := by decide +kernel
theorem dJ6_bitCount_0f7a4_26 : decode cJ6_bitCount_0f7a4 26 = .ok (.iconst 4, 1) := by decide +kernel
theorem dJ6_bitCount_0f7a4_27 : decode cJ6_bitCount_0f7a4 27 = .ok (.iushr, 1) := by decide +kernel
theorem dJ6_bitCount_0f7a4_28 : decode cJ6_bitCount_0f7a4 28 = .ok (.iadd, 1) := by decide +kernel
theorem dJ6_bitCount_0f7a4_29 : decode cJ6_bitCount_0f7a4 29 = .ok (.ldc_w 267, 3) := by decide +kernel
theorem dJ6_bitCount_0f7a4_32 : decode cJ6_bitCount_0f7a4 32 = .ok (.iand, 1) := by decide +kernel
theorem dJ6_bitCount_0f7a4_33 : decode cJ6_bitCount_0f7a4 33 = .ok (.istore_n 0, 1) := by decide +kernel
theorem dJ6_bitCount_0f7a4_34 : decode cJ6_bitCount_0f7a4 34 = .ok (.iload_n 0, 1) := by decide +kernel
theorem dJ6_bitCount_0f7a4_35 : decode cJ6_bitCount_0f7a4 35 = .ok (.iload_n 0, 1) := by decide +kernel
theorem dJ6_bitCount_0f7a4_36 : decode cJ6_bitCount_0f7a4 36 = .ok (.bipush 8, 2) := by decide +kernel
theorem dJ6_bitCount_0f7a4_38 : decode cJ6_bitCount_0f7a4 38 = .ok (.iushr, 1) := by decide +kernel
theorem dJ6_bitCount_0f7a4_39 : decode cJ6_bitCount_0f7a4 39 = .ok (.iadd, 1) := by decide +kernel
theorem dJ6_bitCount_0f7a4_40 : decode cJ6_bitCount_0f7a4 40 = .ok (.istore_n 0, 1) := by decide +kernel
theorem dJ6_bitCount_0f7a4_41 : decode cJ6_bitCount_0f7a4 41 = .ok (.iload_n 0, 1) := by decide +kernel
theorem dJ6_bitCount_0f7a4_42 : decode cJ6_bitCount_0f7a4 42 = .ok (.iload_n 0, 1) := by decide +kernel
theorem dJ6_bitCount_0f7a4_43 : decode cJ6_bitCount_0f7a4 43 = .ok (.bipush 16, 2) := by decide +kernel
theorem dJ6_bitCount_0f7a4_45 : decode cJ6_bitCount_0f7a4 45 = .ok (.iushr, 1) := by decide +kernel
theorem dJ6_bitCount_0f7a4_46 : decode cJ6_bitCount_0f7a4 46 = .ok (.iadd, 1) := by decide +kernel
theorem dJ6_bitCount_0f7a4_47 : decode cJ6_bitCount_0f7a4 47 = .ok (.istore_n 0, 1) := by decide +kernel
theorem dJ6_bitCount_0f7a4_48 : decode cJ6_bitCount_0f7a4 48 = .ok (.iload_n 0, 1) := by decide +kernel
theorem dJ6_bitCount_0f7a4_49 : decode cJ6_bitCount_0f7a4 49 = .ok (.bipush 63, 2) := by decide +kernel
theorem dJ6_bitCount_0f7a4_51 : decode cJ6_bitCount_0f7a4 51 = .ok (.iand, 1) := by decide +kernel
theorem dJ6_bitCount_0f7a4_52 : decode cJ6_bitCount_0f7a4 52 = .ok (.ireturn, 1) := by decide +kernel
theorem dJ7_fill_53178_0 : decode cJ7_fill_53178 0 = .ok (.iconst 0, 1) := by decide +kernel
theorem dJ7_fill_53178_1 : decode cJ7_fill_53178 1 = .ok (.istore_n 2, 1) := by decide +kernel
theorem dJ7_fill_53178_2 : decode cJ7_fill_53178 2 = .ok (.aload_n 0, 1) := by decide +kernel
theorem dJ7_fill_53178_3 : decode cJ7_fill_53178 3 = .ok (.arraylength, 1) := by decide +kernel
theorem dJ7_fill_53178_4 : decode cJ7_fill_53178 4 = .ok (.istore_n 3, 1) := by decide +kernel
theorem dJ7_fill_53178_5 : decode cJ7_fill_53178 5 = .ok (.iload_n 2, 1) := by decide +kernel
theorem dJ7_fill_53178_6 : decode cJ7_fill_53178 6 = .ok (.iload_n 3, 1) := by decide +kernel
theorem dJ7_fill_53178_7 : decode cJ7_fill_53178 7 = .ok (.if_icmp .ge 13, 3) := by decide +kernel
theorem dJ7_fill_53178_10 : decode cJ7_fill_53178 10 = .ok (.aload_n 0, 1) := by decide +kernel
theorem dJ7_fill_53178_11 : decode cJ7_fill_53178 11 = .ok (.iload_n 2, 1) := by decide +kernel
theorem dJ7_fill_53178_12 : decode cJ7_fill_53178 12 = .ok (.iload_n 1, 1) := by decide +kernel
theorem dJ7_fill_53178_13 : decode cJ7_fill_53178 13 = .ok (.iastore, 1) := by decide +kernel
theorem dJ7_fill_53178_14 : decode cJ7_fill_53178 14 = .ok (.iinc 2 1, 3) := by decide +kernel
theorem dJ7_fill_53178_17 : decode cJ7_fill_53178 17 = .ok (.goto (-12), 3) := by decide +kernel
theorem dJ7_fill_53178_20 : decode cJ7_fill_53178 20 = .ok (.return_, 1) := by decide +kernel
