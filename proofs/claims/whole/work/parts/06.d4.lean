theorem dX6_tellYear_195 : decode cX6_tellYear 195 = .ok (.iload_n 3, 1) := by decide +kernel
theorem dX6_tellYear_196 : decode cX6_tellYear 196 = .ok (.goto 4, 3) := by decide +kernel
theorem dX6_tellYear_199 : decode cX6_tellYear 199 = .ok (.iload_n 2, 1) := by decide +kernel
theorem dX6_tellYear_200 : decode cX6_tellYear 200 = .ok (.ireturn, 1) := by decide +kernel
theorem dX6_joyBy_0 : decode cX6_joyBy 0 = .ok (.iconst 0, 1) := by decide +kernel
theorem dX6_joyBy_1 : decode cX6_joyBy 1 = .ok (.istore 4, 2) := by decide +kernel
theorem dX6_joyBy_3 : decode cX6_joyBy 3 = .ok (.iconst 0, 1) := by decide +kernel
theorem dX6_joyBy_4 : decode cX6_joyBy 4 = .ok (.istore 5, 2) := by decide +kernel
theorem dX6_joyBy_6 : decode cX6_joyBy 6 = .ok (.iconst 0, 1) := by decide +kernel
theorem dX6_joyBy_7 : decode cX6_joyBy 7 = .ok (.istore 6, 2) := by decide +kernel
theorem dX6_joyBy_9 : decode cX6_joyBy 9 = .ok (.iload 6, 2) := by decide +kernel
theorem dX6_joyBy_11 : decode cX6_joyBy 11 = .ok (.aload_n 0, 1) := by decide +kernel
theorem dX6_joyBy_12 : decode cX6_joyBy 12 = .ok (.getfield 93, 3) := by decide +kernel
theorem dX6_joyBy_15 : decode cX6_joyBy 15 = .ok (.if_icmp .ge 57, 3) := by decide +kernel
theorem dX6_joyBy_18 : decode cX6_joyBy 18 = .ok (.iload_n 1, 1) := by decide +kernel
theorem dX6_joyBy_19 : decode cX6_joyBy 19 = .ok (.iload 6, 2) := by decide +kernel
theorem dX6_joyBy_21 : decode cX6_joyBy 21 = .ok (.ishr, 1) := by decide +kernel
theorem dX6_joyBy_22 : decode cX6_joyBy 22 = .ok (.iconst 1, 1) := by decide +kernel
theorem dX6_joyBy_23 : decode cX6_joyBy 23 = .ok (.iand, 1) := by decide +kernel
theorem dX6_joyBy_24 : decode cX6_joyBy 24 = .ok (.iconst 1, 1) := by decide +kernel
theorem dX6_joyBy_25 : decode cX6_joyBy 25 = .ok (.if_icmp .ne 13, 3) := by decide +kernel
theorem dX6_joyBy_28 : decode cX6_joyBy 28 = .ok (.aload_n 0, 1) := by decide +kernel
theorem dX6_joyBy_29 : decode cX6_joyBy 29 = .ok (.iload 6, 2) := by decide +kernel
theorem dX6_joyBy_31 : decode cX6_joyBy 31 = .ok (.iload_n 2, 1) := by decide +kernel
theorem dX6_joyBy_32 : decode cX6_joyBy 32 = .ok (.invokevirtual 152, 3) := by decide +kernel
theorem dX6_joyBy_35 : decode cX6_joyBy 35 = .ok (.goto 4, 3) := by decide +kernel
theorem dX6_joyBy_38 : decode cX6_joyBy 38 = .ok (.iconst 0, 1) := by decide +kernel
theorem dX6_joyBy_39 : decode cX6_joyBy 39 = .ok (.istore 7, 2) := by decide +kernel
theorem dX6_joyBy_41 : decode cX6_joyBy 41 = .ok (.iload 4, 2) := by decide +kernel
theorem dX6_joyBy_43 : decode cX6_joyBy 43 = .ok (.iload 7, 2) := by decide +kernel
theorem dX6_joyBy_45 : decode cX6_joyBy 45 = .ok (.iconst 2, 1) := by decide +kernel
theorem dX6_joyBy_46 : decode cX6_joyBy 46 = .ok (.idiv, 1) := by decide +kernel
theorem dX6_joyBy_47 : decode cX6_joyBy 47 = .ok (.iadd, 1) := by decide +kernel
theorem dX6_joyBy_48 : decode cX6_joyBy 48 = .ok (.istore 4, 2) := by decide +kernel
theorem dX6_joyBy_50 : decode cX6_joyBy 50 = .ok (.iload 7, 2) := by decide +kernel
theorem dX6_joyBy_52 : decode cX6_joyBy 52 = .ok (.iload 5, 2) := by decide +kernel
theorem dX6_joyBy_54 : decode cX6_joyBy 54 = .ok (.if_icmp .le 8, 3) := by decide +kernel
theorem dX6_joyBy_57 : decode cX6_joyBy 57 = .ok (.iload 7, 2) := by decide +kernel
theorem dX6_joyBy_59 : decode cX6_joyBy 59 = .ok (.goto 5, 3) := by decide +kernel
theorem dX6_joyBy_62 : decode cX6_joyBy 62 = .ok (.iload 5, 2) := by decide +kernel
theorem dX6_joyBy_64 : decode cX6_joyBy 64 = .ok (.istore 5, 2) := by decide +kernel
theorem dX6_joyBy_66 : decode cX6_joyBy 66 = .ok (.iinc 6 1, 3) := by decide +kernel
theorem dX6_joyBy_69 : decode cX6_joyBy 69 = .ok (.goto (-60), 3) := by decide +kernel
theorem dX6_joyBy_72 : decode cX6_joyBy 72 = .ok (.iload_n 3, 1) := by decide +kernel
theorem dX6_joyBy_73 : decode cX6_joyBy 73 = .ok (.ifCond .eq 8, 3) := by decide +kernel
theorem dX6_joyBy_76 : decode cX6_joyBy 76 = .ok (.iload 4, 2) := by decide +kernel
theorem dX6_joyBy_78 : decode cX6_joyBy 78 = .ok (.goto 13, 3) := by decide +kernel
theorem dX6_joyBy_81 : decode cX6_joyBy 81 = .ok (.iload 4, 2) := by decide +kernel
theorem dX6_joyBy_83 : decode cX6_joyBy 83 = .ok (.iload 5, 2) := by decide +kernel
theorem dX6_joyBy_85 : decode cX6_joyBy 85 = .ok (.iadd, 1) := by decide +kernel
theorem dX6_joyBy_86 : decode cX6_joyBy 86 = .ok (.iload 5, 2) := by decide +kernel
theorem dX6_joyBy_88 : decode cX6_joyBy 88 = .ok (.iconst 2, 1) := by decide +kernel
theorem dX6_joyBy_89 : decode cX6_joyBy 89 = .ok (.idiv, 1) := by decide +kernel
theorem dX6_joyBy_90 : decode cX6_joyBy 90 = .ok (.isub, 1) := by decide +kernel
theorem dX6_joyBy_91 : decode cX6_joyBy 91 = .ok (.ireturn, 1) := by decide +kernel
theorem dX6_feastBy_0 : decode cX6_feastBy 0 = .ok (.aload_n 0, 1) := by decide +kernel
theorem dX6_feastBy_1 : decode cX6_feastBy 1 = .ok (.iload_n 2, 1) := by decide +kernel
theorem dX6_feastBy_2 : decode cX6_feastBy 2 = .ok (.aload_n 0, 1) := by decide +kernel
theorem dX6_feastBy_3 : decode cX6_feastBy 3 = .ok (.getfield 129, 3) := by decide +kernel
theorem dX6_feastBy_6 : decode cX6_feastBy 6 = .ok (.aload_n 0, 1) := by decide +kernel
theorem dX6_feastBy_7 : decode cX6_feastBy 7 = .ok (.getfield 25, 3) := by decide +kernel
theorem dX6_feastBy_10 : decode cX6_feastBy 10 = .ok (.iload_n 1, 1) := by decide +kernel
theorem dX6_feastBy_11 : decode cX6_feastBy 11 = .ok (.baload, 1) := by decide +kernel
theorem dX6_feastBy_12 : decode cX6_feastBy 12 = .ok (.invokevirtual 203, 3) := by decide +kernel
theorem dX6_feastBy_15 : decode cX6_feastBy 15 = .ok (.ireturn, 1) := by decide +kernel
theorem dX6_feast_0 : decode cX6_feast 0 = .ok (.aload_n 0, 1) := by decide +kernel
theorem dX6_feast_1 : decode cX6_feast 1 = .ok (.iload_n 1, 1) := by decide +kernel
theorem dX6_feast_2 : decode cX6_feast 2 = .ok (.invokevirtual 159, 3) := by decide +kernel
theorem dX6_feast_5 : decode cX6_feast 5 = .ok (.ifCond .eq 16, 3) := by decide +kernel
theorem dX6_feast_8 : decode cX6_feast 8 = .ok (.aload_n 0, 1) := by decide +kernel
theorem dX6_feast_9 : decode cX6_feast 9 = .ok (.iload_n 1, 1) := by decide +kernel
theorem dX6_feast_10 : decode cX6_feast 10 = .ok (.aload_n 0, 1) := by decide +kernel
theorem dX6_feast_11 : decode cX6_feast 11 = .ok (.iload_n 1, 1) := by decide +kernel
theorem dX6_feast_12 : decode cX6_feast 12 = .ok (.invokevirtual 162, 3) := by decide +kernel
theorem dX6_feast_15 : decode cX6_feast 15 = .ok (.invokevirtual 207, 3) := by decide +kernel
theorem dX6_feast_18 : decode cX6_feast 18 = .ok (.goto 4, 3) := by decide +kernel
theorem dX6_feast_21 : decode cX6_feast 21 = .ok (.iconst (-1), 1) := by decide +kernel
theorem dX6_feast_22 : decode cX6_feast 22 = .ok (.ireturn, 1) := by decide +kernel
theorem dX6_joyOfRow_0 : decode cX6_joyOfRow 0 = .ok (.iconst 0, 1) := by decide +kernel
theorem dX6_joyOfRow_1 : decode cX6_joyOfRow 1 = .ok (.istore 4, 2) := by decide +kernel
theorem dX6_joyOfRow_3 : decode cX6_joyOfRow 3 = .ok (.iconst 0, 1) := by decide +kernel
theorem dX6_joyOfRow_4 : decode cX6_joyOfRow 4 = .ok (.istore 5, 2) := by decide +kernel
theorem dX6_joyOfRow_6 : decode cX6_joyOfRow 6 = .ok (.iload 5, 2) := by decide +kernel
theorem dX6_joyOfRow_8 : decode cX6_joyOfRow 8 = .ok (.iload_n 3, 1) := by decide +kernel
theorem dX6_joyOfRow_9 : decode cX6_joyOfRow 9 = .ok (.if_icmp .ge 102, 3) := by decide +kernel
theorem dX6_joyOfRow_12 : decode cX6_joyOfRow 12 = .ok (.iconst 0, 1) := by decide +kernel
theorem dX6_joyOfRow_13 : decode cX6_joyOfRow 13 = .ok (.istore 6, 2) := by decide +kernel
theorem dX6_joyOfRow_15 : decode cX6_joyOfRow 15 = .ok (.iconst 0, 1) := by decide +kernel
theorem dX6_joyOfRow_16 : decode cX6_joyOfRow 16 = .ok (.istore 7, 2) := by decide +kernel
theorem dX6_joyOfRow_18 : decode cX6_joyOfRow 18 = .ok (.iload 7, 2) := by decide +kernel
theorem dX6_joyOfRow_20 : decode cX6_joyOfRow 20 = .ok (.aload_n 0, 1) := by decide +kernel
theorem dX6_joyOfRow_21 : decode cX6_joyOfRow 21 = .ok (.getfield 93, 3) := by decide +kernel
theorem dX6_joyOfRow_24 : decode cX6_joyOfRow 24 = .ok (.if_icmp .ge 44, 3) := by decide +kernel
theorem dX6_joyOfRow_27 : decode cX6_joyOfRow 27 = .ok (.iload 6, 2) := by decide +kernel
theorem dX6_joyOfRow_29 : decode cX6_joyOfRow 29 = .ok (.iload_n 2, 1) := by decide +kernel
theorem dX6_joyOfRow_30 : decode cX6_joyOfRow 30 = .ok (.iload 7, 2) := by decide +kernel
theorem dX6_joyOfRow_32 : decode cX6_joyOfRow 32 = .ok (.ishr, 1) := by decide +kernel
theorem dX6_joyOfRow_33 : decode cX6_joyOfRow 33 = .ok (.iconst 1, 1) := by decide +kernel
theorem dX6_joyOfRow_34 : decode cX6_joyOfRow 34 = .ok (.iand, 1) := by decide +kernel
theorem dX6_joyOfRow_35 : decode cX6_joyOfRow 35 = .ok (.iconst 1, 1) := by decide +kernel
theorem dX6_joyOfRow_36 : decode cX6_joyOfRow 36 = .ok (.if_icmp .ne 22, 3) := by decide +kernel
theorem dX6_joyOfRow_39 : decode cX6_joyOfRow 39 = .ok (.aload_n 0, 1) := by decide +kernel
theorem dX6_joyOfRow_40 : decode cX6_joyOfRow 40 = .ok (.getfield 65, 3) := by decide +kernel
theorem dX6_joyOfRow_43 : decode cX6_joyOfRow 43 = .ok (.iload 7, 2) := by decide +kernel
theorem dX6_joyOfRow_45 : decode cX6_joyOfRow 45 = .ok (.iaload, 1) := by decide +kernel
theorem dX6_joyOfRow_46 : decode cX6_joyOfRow 46 = .ok (.iload 5, 2) := by decide +kernel
theorem dX6_joyOfRow_48 : decode cX6_joyOfRow 48 = .ok (.if_icmp .ne 10, 3) := by decide +kernel
theorem dX6_joyOfRow_51 : decode cX6_joyOfRow 51 = .ok (.iconst 1, 1) := by decide +kernel
theorem dX6_joyOfRow_52 : decode cX6_joyOfRow 52 = .ok (.iload 7, 2) := by decide +kernel
theorem dX6_joyOfRow_54 : decode cX6_joyOfRow 54 = .ok (.ishl, 1) := by decide +kernel
theorem dX6_joyOfRow_55 : decode cX6_joyOfRow 55 = .ok (.goto 4, 3) := by decide +kernel
theorem dX6_joyOfRow_58 : decode cX6_joyOfRow 58 = .ok (.iconst 0, 1) := by decide +kernel
theorem dX6_joyOfRow_59 : decode cX6_joyOfRow 59 = .ok (.ior, 1) := by decide +kernel
theorem dX6_joyOfRow_60 : decode cX6_joyOfRow 60 = .ok (.istore 6, 2) := by decide +kernel
theorem dX6_joyOfRow_62 : decode cX6_joyOfRow 62 = .ok (.iinc 7 1, 3) := by decide +kernel
theorem dX6_joyOfRow_65 : decode cX6_joyOfRow 65 = .ok (.goto (-47), 3) := by decide +kernel
theorem dX6_joyOfRow_68 : decode cX6_joyOfRow 68 = .ok (.iload 4, 2) := by decide +kernel
theorem dX6_joyOfRow_70 : decode cX6_joyOfRow 70 = .ok (.aload_n 0, 1) := by decide +kernel
theorem dX6_joyOfRow_71 : decode cX6_joyOfRow 71 = .ok (.iload 6, 2) := by decide +kernel
theorem dX6_joyOfRow_73 : decode cX6_joyOfRow 73 = .ok (.aload_n 0, 1) := by decide +kernel
theorem dX6_joyOfRow_74 : decode cX6_joyOfRow 74 = .ok (.getfield 129, 3) := by decide +kernel
theorem dX6_joyOfRow_77 : decode cX6_joyOfRow 77 = .ok (.iload 5, 2) := by decide +kernel
theorem dX6_joyOfRow_79 : decode cX6_joyOfRow 79 = .ok (.iadd, 1) := by decide +kernel
theorem dX6_joyOfRow_80 : decode cX6_joyOfRow 80 = .ok (.iload 5, 2) := by decide +kernel
theorem dX6_joyOfRow_82 : decode cX6_joyOfRow 82 = .ok (.ifCond .ne 16, 3) := by decide +kernel
theorem dX6_joyOfRow_85 : decode cX6_joyOfRow 85 = .ok (.aload_n 0, 1) := by decide +kernel
theorem dX6_joyOfRow_86 : decode cX6_joyOfRow 86 = .ok (.getfield 25, 3) := by decide +kernel
theorem dX6_joyOfRow_89 : decode cX6_joyOfRow 89 = .ok (.iload_n 1, 1) := by decide +kernel
theorem dX6_joyOfRow_90 : decode cX6_joyOfRow 90 = .ok (.baload, 1) := by decide +kernel
theorem dX6_joyOfRow_91 : decode cX6_joyOfRow 91 = .ok (.ifCond .eq 7, 3) := by decide +kernel
theorem dX6_joyOfRow_94 : decode cX6_joyOfRow 94 = .ok (.iconst 1, 1) := by decide +kernel
theorem dX6_joyOfRow_95 : decode cX6_joyOfRow 95 = .ok (.goto 4, 3) := by decide +kernel
theorem dX6_joyOfRow_98 : decode cX6_joyOfRow 98 = .ok (.iconst 0, 1) := by decide +kernel
theorem dX6_joyOfRow_99 : decode cX6_joyOfRow 99 = .ok (.invokevirtual 203, 3) := by decide +kernel
theorem dX6_joyOfRow_102 : decode cX6_joyOfRow 102 = .ok (.iadd, 1) := by decide +kernel
theorem dX6_joyOfRow_103 : decode cX6_joyOfRow 103 = .ok (.istore 4, 2) := by decide +kernel
theorem dX6_joyOfRow_105 : decode cX6_joyOfRow 105 = .ok (.iinc 5 1, 3) := by decide +kernel
theorem dX6_joyOfRow_108 : decode cX6_joyOfRow 108 = .ok (.goto (-102), 3) := by decide +kernel
theorem dX6_joyOfRow_111 : decode cX6_joyOfRow 111 = .ok (.iload 4, 2) := by decide +kernel
theorem dX6_joyOfRow_113 : decode cX6_joyOfRow 113 = .ok (.ireturn, 1) := by decide +kernel
theorem dX6_findKeep_0 : decode cX6_findKeep 0 = .ok (.aload_n 0, 1) := by decide +kernel
theorem dX6_findKeep_1 : decode cX6_findKeep 1 = .ok (.iload_n 1, 1) := by decide +kernel
theorem dX6_findKeep_2 : decode cX6_findKeep 2 = .ok (.invokevirtual 162, 3) := by decide +kernel
theorem dX6_findKeep_5 : decode cX6_findKeep 5 = .ok (.istore_n 3, 1) := by decide +kernel
theorem dX6_findKeep_6 : decode cX6_findKeep 6 = .ok (.iconst 1, 1) := by decide +kernel
theorem dX6_findKeep_7 : decode cX6_findKeep 7 = .ok (.istore 4, 2) := by decide +kernel
theorem dX6_findKeep_9 : decode cX6_findKeep 9 = .ok (.iconst 0, 1) := by decide +kernel
theorem dX6_findKeep_10 : decode cX6_findKeep 10 = .ok (.istore 5, 2) := by decide +kernel
theorem dX6_findKeep_12 : decode cX6_findKeep 12 = .ok (.iload 5, 2) := by decide +kernel
theorem dX6_findKeep_14 : decode cX6_findKeep 14 = .ok (.aload_n 0, 1) := by decide +kernel
theorem dX6_findKeep_15 : decode cX6_findKeep 15 = .ok (.getfield 93, 3) := by decide +kernel
theorem dX6_findKeep_18 : decode cX6_findKeep 18 = .ok (.if_icmp .ge 31, 3) := by decide +kernel
theorem dX6_findKeep_21 : decode cX6_findKeep 21 = .ok (.iload 4, 2) := by decide +kernel
theorem dX6_findKeep_23 : decode cX6_findKeep 23 = .ok (.iload_n 3, 1) := by decide +kernel
theorem dX6_findKeep_24 : decode cX6_findKeep 24 = .ok (.iload 5, 2) := by decide +kernel
theorem dX6_findKeep_26 : decode cX6_findKeep 26 = .ok (.ishr, 1) := by decide +kernel
theorem dX6_findKeep_27 : decode cX6_findKeep 27 = .ok (.iconst 1, 1) := by decide +kernel
theorem dX6_findKeep_28 : decode cX6_findKeep 28 = .ok (.iand, 1) := by decide +kernel
theorem dX6_findKeep_29 : decode cX6_findKeep 29 = .ok (.iconst 1, 1) := by decide +kernel
theorem dX6_findKeep_30 : decode cX6_findKeep 30 = .ok (.if_icmp .ne 9, 3) := by decide +kernel
theorem dX6_findKeep_33 : decode cX6_findKeep 33 = .ok (.iload_n 2, 1) := by decide +kernel
theorem dX6_findKeep_34 : decode cX6_findKeep 34 = .ok (.iconst 1, 1) := by decide +kernel
theorem dX6_findKeep_35 : decode cX6_findKeep 35 = .ok (.iadd, 1) := by decide +kernel
theorem dX6_findKeep_36 : decode cX6_findKeep 36 = .ok (.goto 4, 3) := by decide +kernel
theorem dX6_findKeep_39 : decode cX6_findKeep 39 = .ok (.iconst 1, 1) := by decide +kernel
theorem dX6_findKeep_40 : decode cX6_findKeep 40 = .ok (.imul, 1) := by decide +kernel
theorem dX6_findKeep_41 : decode cX6_findKeep 41 = .ok (.istore 4, 2) := by decide +kernel
theorem dX6_findKeep_43 : decode cX6_findKeep 43 = .ok (.iinc 5 1, 3) := by decide +kernel
theorem dX6_findKeep_46 : decode cX6_findKeep 46 = .ok (.goto (-34), 3) := by decide +kernel
theorem dX6_findKeep_49 : decode cX6_findKeep 49 = .ok (.bipush (-9), 2) := by decide +kernel
theorem dX6_findKeep_51 : decode cX6_findKeep 51 = .ok (.istore 5, 2) := by decide +kernel
theorem dX6_findKeep_53 : decode cX6_findKeep 53 = .ok (.iconst 0, 1) := by decide +kernel
theorem dX6_findKeep_54 : decode cX6_findKeep 54 = .ok (.istore 6, 2) := by decide +kernel
theorem dX6_findKeep_56 : decode cX6_findKeep 56 = .ok (.iload 6, 2) := by decide +kernel
theorem dX6_findKeep_58 : decode cX6_findKeep 58 = .ok (.iload 4, 2) := by decide +kernel
theorem dX6_findKeep_60 : decode cX6_findKeep 60 = .ok (.if_icmp .ge 141, 3) := by decide +kernel
theorem dX6_findKeep_63 : decode cX6_findKeep 63 = .ok (.iload 6, 2) := by decide +kernel
theorem dX6_findKeep_65 : decode cX6_findKeep 65 = .ok (.istore 7, 2) := by decide +kernel
theorem dX6_findKeep_67 : decode cX6_findKeep 67 = .ok (.aload_n 0, 1) := by decide +kernel
theorem dX6_findKeep_68 : decode cX6_findKeep 68 = .ok (.getfield 93, 3) := by decide +kernel
theorem dX6_findKeep_71 : decode cX6_findKeep 71 = .ok (.iconst 1, 1) := by decide +kernel
theorem dX6_findKeep_72 : decode cX6_findKeep 72 = .ok (.isub, 1) := by decide +kernel
theorem dX6_findKeep_73 : decode cX6_findKeep 73 = .ok (.istore 8, 2) := by decide +kernel
theorem dX6_findKeep_75 : decode cX6_findKeep 75 = .ok (.iload 8, 2) := by decide +kernel
theorem dX6_findKeep_77 : decode cX6_findKeep 77 = .ok (.ifCond .lt 66, 3) := by decide +kernel
theorem dX6_findKeep_80 : decode cX6_findKeep 80 = .ok (.iload_n 3, 1) := by decide +kernel
theorem dX6_findKeep_81 : decode cX6_findKeep 81 = .ok (.iload 8, 2) := by decide +kernel
theorem dX6_findKeep_83 : decode cX6_findKeep 83 = .ok (.ishr, 1) := by decide +kernel
theorem dX6_findKeep_84 : decode cX6_findKeep 84 = .ok (.iconst 1, 1) := by decide +kernel
theorem dX6_findKeep_85 : decode cX6_findKeep 85 = .ok (.iand, 1) := by decide +kernel
theorem dX6_findKeep_86 : decode cX6_findKeep 86 = .ok (.iconst 1, 1) := by decide +kernel
theorem dX6_findKeep_87 : decode cX6_findKeep 87 = .ok (.if_icmp .ne 7, 3) := by decide +kernel
theorem dX6_findKeep_90 : decode cX6_findKeep 90 = .ok (.iconst 1, 1) := by decide +kernel
theorem dX6_findKeep_91 : decode cX6_findKeep 91 = .ok (.goto 4, 3) := by decide +kernel
theorem dX6_findKeep_94 : decode cX6_findKeep 94 = .ok (.iconst 0, 1) := by decide +kernel
theorem dX6_findKeep_95 : decode cX6_findKeep 95 = .ok (.istore 9, 2) := by decide +kernel
theorem dX6_findKeep_97 : decode cX6_findKeep 97 = .ok (.aload_n 0, 1) := by decide +kernel
theorem dX6_findKeep_98 : decode cX6_findKeep 98 = .ok (.getfield 65, 3) := by decide +kernel
theorem dX6_findKeep_101 : decode cX6_findKeep 101 = .ok (.iload 8, 2) := by decide +kernel
theorem dX6_findKeep_103 : decode cX6_findKeep 103 = .ok (.iload 9, 2) := by decide +kernel
theorem dX6_findKeep_105 : decode cX6_findKeep 105 = .ok (.ifCond .eq 12, 3) := by decide +kernel
theorem dX6_findKeep_108 : decode cX6_findKeep 108 = .ok (.iload 7, 2) := by decide +kernel
theorem dX6_findKeep_110 : decode cX6_findKeep 110 = .ok (.iload_n 2, 1) := by decide +kernel
theorem dX6_findKeep_111 : decode cX6_findKeep 111 = .ok (.iconst 1, 1) := by decide +kernel
theorem dX6_findKeep_112 : decode cX6_findKeep 112 = .ok (.iadd, 1) := by decide +kernel
theorem dX6_findKeep_113 : decode cX6_findKeep 113 = .ok (.irem, 1) := by decide +kernel
theorem dX6_findKeep_114 : decode cX6_findKeep 114 = .ok (.goto 4, 3) := by decide +kernel
theorem dX6_findKeep_117 : decode cX6_findKeep 117 = .ok (.iload_n 2, 1) := by decide +kernel
theorem dX6_findKeep_118 : decode cX6_findKeep 118 = .ok (.iastore, 1) := by decide +kernel
theorem dX6_findKeep_119 : decode cX6_findKeep 119 = .ok (.iload 9, 2) := by decide +kernel
theorem dX6_findKeep_121 : decode cX6_findKeep 121 = .ok (.ifCond .eq 12, 3) := by decide +kernel
theorem dX6_findKeep_124 : decode cX6_findKeep 124 = .ok (.iload 7, 2) := by decide +kernel
theorem dX6_findKeep_126 : decode cX6_findKeep 126 = .ok (.iload_n 2, 1) := by decide +kernel
theorem dX6_findKeep_127 : decode cX6_findKeep 127 = .ok (.iconst 1, 1) := by decide +kernel
theorem dX6_findKeep_128 : decode cX6_findKeep 128 = .ok (.iadd, 1) := by decide +kernel
theorem dX6_findKeep_129 : decode cX6_findKeep 129 = .ok (.idiv, 1) := by decide +kernel
theorem dX6_findKeep_130 : decode cX6_findKeep 130 = .ok (.goto 5, 3) := by decide +kernel
theorem dX6_findKeep_133 : decode cX6_findKeep 133 = .ok (.iload 7, 2) := by decide +kernel
theorem dX6_findKeep_135 : decode cX6_findKeep 135 = .ok (.istore 7, 2) := by decide +kernel
theorem dX6_findKeep_137 : decode cX6_findKeep 137 = .ok (.iinc 8 (-1), 3) := by decide +kernel
theorem dX6_findKeep_140 : decode cX6_findKeep 140 = .ok (.goto (-65), 3) := by decide +kernel
theorem dX6_findKeep_143 : decode cX6_findKeep 143 = .ok (.aload_n 0, 1) := by decide +kernel
theorem dX6_findKeep_144 : decode cX6_findKeep 144 = .ok (.iload_n 1, 1) := by decide +kernel
theorem dX6_findKeep_145 : decode cX6_findKeep 145 = .ok (.iload_n 3, 1) := by decide +kernel
theorem dX6_findKeep_146 : decode cX6_findKeep 146 = .ok (.iload_n 2, 1) := by decide +kernel
theorem dX6_findKeep_147 : decode cX6_findKeep 147 = .ok (.invokevirtual 210, 3) := by decide +kernel
theorem dX6_findKeep_150 : decode cX6_findKeep 150 = .ok (.istore 8, 2) := by decide +kernel
theorem dX6_findKeep_152 : decode cX6_findKeep 152 = .ok (.iload 8, 2) := by decide +kernel
theorem dX6_findKeep_154 : decode cX6_findKeep 154 = .ok (.iload 5, 2) := by decide +kernel
theorem dX6_findKeep_156 : decode cX6_findKeep 156 = .ok (.if_icmp .le 39, 3) := by decide +kernel
theorem dX6_findKeep_159 : decode cX6_findKeep 159 = .ok (.iload 8, 2) := by decide +kernel
theorem dX6_findKeep_161 : decode cX6_findKeep 161 = .ok (.istore 5, 2) := by decide +kernel
theorem dX6_findKeep_163 : decode cX6_findKeep 163 = .ok (.iconst 0, 1) := by decide +kernel
theorem dX6_findKeep_164 : decode cX6_findKeep 164 = .ok (.istore 9, 2) := by decide +kernel
theorem dX6_findKeep_166 : decode cX6_findKeep 166 = .ok (.iload 9, 2) := by decide +kernel
theorem dX6_findKeep_168 : decode cX6_findKeep 168 = .ok (.aload_n 0, 1) := by decide +kernel
theorem dX6_findKeep_169 : decode cX6_findKeep 169 = .ok (.getfield 93, 3) := by decide +kernel
theorem dX6_findKeep_172 : decode cX6_findKeep 172 = .ok (.if_icmp .ge 23, 3) := by decide +kernel
theorem dX6_findKeep_175 : decode cX6_findKeep 175 = .ok (.aload_n 0, 1) := by decide +kernel
theorem dX6_findKeep_176 : decode cX6_findKeep 176 = .ok (.getfield 68, 3) := by decide +kernel
theorem dX6_findKeep_179 : decode cX6_findKeep 179 = .ok (.iload 9, 2) := by decide +kernel
theorem dX6_findKeep_181 : decode cX6_findKeep 181 = .ok (.aload_n 0, 1) := by decide +kernel
theorem dX6_findKeep_182 : decode cX6_findKeep 182 = .ok (.getfield 65, 3) := by decide +kernel
theorem dX6_findKeep_185 : decode cX6_findKeep 185 = .ok (.iload 9, 2) := by decide +kernel
theorem dX6_findKeep_187 : decode cX6_findKeep 187 = .ok (.iaload, 1) := by decide +kernel
theorem dX6_findKeep_188 : decode cX6_findKeep 188 = .ok (.iastore, 1) := by decide +kernel
theorem dX6_findKeep_189 : decode cX6_findKeep 189 = .ok (.iinc 9 1, 3) := by decide +kernel
theorem dX6_findKeep_192 : decode cX6_findKeep 192 = .ok (.goto (-26), 3) := by decide +kernel
theorem dX6_findKeep_195 : decode cX6_findKeep 195 = .ok (.iinc 6 1, 3) := by decide +kernel
theorem dX6_findKeep_198 : decode cX6_findKeep 198 = .ok (.goto (-142), 3) := by decide +kernel
theorem dX6_findKeep_201 : decode cX6_findKeep 201 = .ok (.iload 5, 2) := by decide +kernel
theorem dX6_findKeep_203 : decode cX6_findKeep 203 = .ok (.ireturn, 1) := by decide +kernel
theorem dX6_keep_0 : decode cX6_keep 0 = .ok (.aload_n 0, 1) := by decide +kernel
theorem dX6_keep_1 : decode cX6_keep 1 = .ok (.iload_n 1, 1) := by decide +kernel
theorem dX6_keep_2 : decode cX6_keep 2 = .ok (.invokevirtual 159, 3) := by decide +kernel
theorem dX6_keep_5 : decode cX6_keep 5 = .ok (.ifCond .ne 5, 3) := by decide +kernel
theorem dX6_keep_8 : decode cX6_keep 8 = .ok (.iconst (-1), 1) := by decide +kernel
theorem dX6_keep_9 : decode cX6_keep 9 = .ok (.ireturn, 1) := by decide +kernel
theorem dX6_keep_10 : decode cX6_keep 10 = .ok (.iload_n 2, 1) := by decide +kernel
theorem dX6_keep_11 : decode cX6_keep 11 = .ok (.iconst 1, 1) := by decide +kernel
theorem dX6_keep_12 : decode cX6_keep 12 = .ok (.iconst 3, 1) := by decide +kernel
theorem dX6_keep_13 : decode cX6_keep 13 = .ok (.invokestatic 86, 3) := by decide +kernel
theorem dX6_keep_16 : decode cX6_keep 16 = .ok (.ifCond .eq 12, 3) := by decide +kernel
theorem dX6_keep_19 : decode cX6_keep 19 = .ok (.iload_n 3, 1) := by decide +kernel
theorem dX6_keep_20 : decode cX6_keep 20 = .ok (.iconst (-1), 1) := by decide +kernel
theorem dX6_keep_21 : decode cX6_keep 21 = .ok (.iconst 5, 1) := by decide +kernel
theorem dX6_keep_22 : decode cX6_keep 22 = .ok (.invokestatic 86, 3) := by decide +kernel
theorem dX6_keep_25 : decode cX6_keep 25 = .ok (.ifCond .ne 6, 3) := by decide +kernel
theorem dX6_keep_28 : decode cX6_keep 28 = .ok (.bipush (-2), 2) := by decide +kernel
theorem dX6_keep_30 : decode cX6_keep 30 = .ok (.ireturn, 1) := by decide +kernel
theorem dX6_keep_31 : decode cX6_keep 31 = .ok (.aload_n 0, 1) := by decide +kernel
theorem dX6_keep_32 : decode cX6_keep 32 = .ok (.iload_n 1, 1) := by decide +kernel
theorem dX6_keep_33 : decode cX6_keep 33 = .ok (.iload_n 2, 1) := by decide +kernel
theorem dX6_keep_34 : decode cX6_keep 34 = .ok (.invokevirtual 213, 3) := by decide +kernel
theorem dX6_keep_37 : decode cX6_keep 37 = .ok (.istore 4, 2) := by decide +kernel
theorem dX6_keep_39 : decode cX6_keep 39 = .ok (.iload_n 3, 1) := by decide +kernel
theorem dX6_keep_40 : decode cX6_keep 40 = .ok (.iconst (-1), 1) := by decide +kernel
theorem dX6_keep_41 : decode cX6_keep 41 = .ok (.if_icmp .ne 6, 3) := by decide +kernel
theorem dX6_keep_44 : decode cX6_keep 44 = .ok (.iload 4, 2) := by decide +kernel
theorem dX6_keep_46 : decode cX6_keep 46 = .ok (.ireturn, 1) := by decide +kernel
theorem dX6_keep_47 : decode cX6_keep 47 = .ok (.aload_n 0, 1) := by decide +kernel
theorem dX6_keep_48 : decode cX6_keep 48 = .ok (.iload_n 3, 1) := by decide +kernel
theorem dX6_keep_49 : decode cX6_keep 49 = .ok (.invokevirtual 156, 3) := by decide +kernel
theorem dX6_keep_52 : decode cX6_keep 52 = .ok (.ifCond .eq 22, 3) := by decide +kernel
theorem dX6_keep_55 : decode cX6_keep 55 = .ok (.aload_n 0, 1) := by decide +kernel
theorem dX6_keep_56 : decode cX6_keep 56 = .ok (.getfield 68, 3) := by decide +kernel
theorem dX6_keep_59 : decode cX6_keep 59 = .ok (.iload_n 3, 1) := by decide +kernel
theorem dX6_keep_60 : decode cX6_keep 60 = .ok (.iaload, 1) := by decide +kernel
theorem dX6_keep_61 : decode cX6_keep 61 = .ok (.iload_n 2, 1) := by decide +kernel
theorem dX6_keep_62 : decode cX6_keep 62 = .ok (.if_icmp .ge 12, 3) := by decide +kernel
theorem dX6_keep_65 : decode cX6_keep 65 = .ok (.aload_n 0, 1) := by decide +kernel
theorem dX6_keep_66 : decode cX6_keep 66 = .ok (.getfield 68, 3) := by decide +kernel
theorem dX6_keep_69 : decode cX6_keep 69 = .ok (.iload_n 3, 1) := by decide +kernel
theorem dX6_keep_70 : decode cX6_keep 70 = .ok (.iaload, 1) := by decide +kernel
theorem dX6_keep_71 : decode cX6_keep 71 = .ok (.goto 5, 3) := by decide +kernel
theorem dX6_keep_74 : decode cX6_keep 74 = .ok (.bipush (-9), 2) := by decide +kernel
theorem dX6_keep_76 : decode cX6_keep 76 = .ok (.ireturn, 1) := by decide +kernel
theorem dX6_pricesOf_0 : decode cX6_pricesOf 0 = .ok (.iconst 0, 1) := by decide +kernel
theorem dX6_pricesOf_1 : decode cX6_pricesOf 1 = .ok (.istore_n 2, 1) := by decide +kernel
theorem dX6_pricesOf_2 : decode cX6_pricesOf 2 = .ok (.iconst 0, 1) := by decide +kernel
theorem dX6_pricesOf_3 : decode cX6_pricesOf 3 = .ok (.istore_n 3, 1) := by decide +kernel
theorem dX6_pricesOf_4 : decode cX6_pricesOf 4 = .ok (.iload_n 3, 1) := by decide +kernel
theorem dX6_pricesOf_5 : decode cX6_pricesOf 5 = .ok (.aload_n 0, 1) := by decide +kernel
theorem dX6_pricesOf_6 : decode cX6_pricesOf 6 = .ok (.getfield 93, 3) := by decide +kernel
theorem dX6_pricesOf_9 : decode cX6_pricesOf 9 = .ok (.if_icmp .ge 30, 3) := by decide +kernel
theorem dX6_pricesOf_12 : decode cX6_pricesOf 12 = .ok (.iload_n 2, 1) := by decide +kernel
theorem dX6_pricesOf_13 : decode cX6_pricesOf 13 = .ok (.iload_n 1, 1) := by decide +kernel
theorem dX6_pricesOf_14 : decode cX6_pricesOf 14 = .ok (.iload_n 3, 1) := by decide +kernel
theorem dX6_pricesOf_15 : decode cX6_pricesOf 15 = .ok (.ishr, 1) := by decide +kernel
theorem dX6_pricesOf_16 : decode cX6_pricesOf 16 = .ok (.iconst 1, 1) := by decide +kernel
theorem dX6_pricesOf_17 : decode cX6_pricesOf 17 = .ok (.iand, 1) := by decide +kernel
theorem dX6_pricesOf_18 : decode cX6_pricesOf 18 = .ok (.iconst 1, 1) := by decide +kernel
theorem dX6_pricesOf_19 : decode cX6_pricesOf 19 = .ok (.if_icmp .ne 11, 3) := by decide +kernel
theorem dX6_pricesOf_22 : decode cX6_pricesOf 22 = .ok (.aload_n 0, 1) := by decide +kernel
theorem dX6_pricesOf_23 : decode cX6_pricesOf 23 = .ok (.iload_n 3, 1) := by decide +kernel
theorem dX6_pricesOf_24 : decode cX6_pricesOf 24 = .ok (.invokevirtual 168, 3) := by decide +kernel
theorem dX6_pricesOf_27 : decode cX6_pricesOf 27 = .ok (.goto 4, 3) := by decide +kernel
theorem dX6_pricesOf_30 : decode cX6_pricesOf 30 = .ok (.iconst 0, 1) := by decide +kernel
theorem dX6_pricesOf_31 : decode cX6_pricesOf 31 = .ok (.iadd, 1) := by decide +kernel
theorem dX6_pricesOf_32 : decode cX6_pricesOf 32 = .ok (.istore_n 2, 1) := by decide +kernel
theorem dX6_pricesOf_33 : decode cX6_pricesOf 33 = .ok (.iinc 3 1, 3) := by decide +kernel
theorem dX6_pricesOf_36 : decode cX6_pricesOf 36 = .ok (.goto (-32), 3) := by decide +kernel
theorem dX6_pricesOf_39 : decode cX6_pricesOf 39 = .ok (.iload_n 2, 1) := by decide +kernel
theorem dX6_pricesOf_40 : decode cX6_pricesOf 40 = .ok (.ireturn, 1) := by decide +kernel
theorem dX6_buy_0 : decode cX6_buy 0 = .ok (.aload_n 0, 1) := by decide +kernel
theorem dX6_buy_1 : decode cX6_buy 1 = .ok (.iload_n 1, 1) := by decide +kernel
theorem dX6_buy_2 : decode cX6_buy 2 = .ok (.invokevirtual 159, 3) := by decide +kernel
theorem dX6_buy_5 : decode cX6_buy 5 = .ok (.ifCond .ne 5, 3) := by decide +kernel
theorem dX6_buy_8 : decode cX6_buy 8 = .ok (.iconst (-1), 1) := by decide +kernel
theorem dX6_buy_9 : decode cX6_buy 9 = .ok (.ireturn, 1) := by decide +kernel
theorem dX6_buy_10 : decode cX6_buy 10 = .ok (.iload_n 2, 1) := by decide +kernel
theorem dX6_buy_11 : decode cX6_buy 11 = .ok (.iconst 0, 1) := by decide +kernel
theorem dX6_buy_12 : decode cX6_buy 12 = .ok (.bipush 99, 2) := by decide +kernel
theorem dX6_buy_14 : decode cX6_buy 14 = .ok (.invokestatic 86, 3) := by decide +kernel
theorem dX6_buy_17 : decode cX6_buy 17 = .ok (.ifCond .eq 12, 3) := by decide +kernel
theorem dX6_buy_20 : decode cX6_buy 20 = .ok (.iload_n 3, 1) := by decide +kernel
theorem dX6_buy_21 : decode cX6_buy 21 = .ok (.iconst 0, 1) := by decide +kernel
theorem dX6_buy_22 : decode cX6_buy 22 = .ok (.iconst 1, 1) := by decide +kernel
theorem dX6_buy_23 : decode cX6_buy 23 = .ok (.invokestatic 86, 3) := by decide +kernel
theorem dX6_buy_26 : decode cX6_buy 26 = .ok (.ifCond .ne 6, 3) := by decide +kernel
theorem dX6_buy_29 : decode cX6_buy 29 = .ok (.bipush (-2), 2) := by decide +kernel
theorem dX6_buy_31 : decode cX6_buy 31 = .ok (.ireturn, 1) := by decide +kernel
theorem dX6_buy_32 : decode cX6_buy 32 = .ok (.iconst 0, 1) := by decide +kernel
theorem dX6_buy_33 : decode cX6_buy 33 = .ok (.istore 4, 2) := by decide +kernel
theorem dX6_buy_35 : decode cX6_buy 35 = .ok (.iconst 0, 1) := by decide +kernel
theorem dX6_buy_36 : decode cX6_buy 36 = .ok (.istore 5, 2) := by decide +kernel
theorem dX6_buy_38 : decode cX6_buy 38 = .ok (.iload 5, 2) := by decide +kernel
theorem dX6_buy_40 : decode cX6_buy 40 = .ok (.aload_n 0, 1) := by decide +kernel
theorem dX6_buy_41 : decode cX6_buy 41 = .ok (.getfield 90, 3) := by decide +kernel
theorem dX6_buy_44 : decode cX6_buy 44 = .ok (.if_icmp .ge 30, 3) := by decide +kernel
theorem dX6_buy_47 : decode cX6_buy 47 = .ok (.iload 4, 2) := by decide +kernel
theorem dX6_buy_49 : decode cX6_buy 49 = .ok (.iload 5, 2) := by decide +kernel
theorem dX6_buy_51 : decode cX6_buy 51 = .ok (.iload_n 1, 1) := by decide +kernel
theorem dX6_buy_52 : decode cX6_buy 52 = .ok (.if_icmp .ne 7, 3) := by decide +kernel
theorem dX6_buy_55 : decode cX6_buy 55 = .ok (.iconst 0, 1) := by decide +kernel
theorem dX6_buy_56 : decode cX6_buy 56 = .ok (.goto 9, 3) := by decide +kernel
theorem dX6_buy_59 : decode cX6_buy 59 = .ok (.aload_n 0, 1) := by decide +kernel
theorem dX6_buy_60 : decode cX6_buy 60 = .ok (.iload 5, 2) := by decide +kernel
theorem dX6_buy_62 : decode cX6_buy 62 = .ok (.invokevirtual 162, 3) := by decide +kernel
theorem dX6_buy_65 : decode cX6_buy 65 = .ok (.ior, 1) := by decide +kernel
theorem dX6_buy_66 : decode cX6_buy 66 = .ok (.istore 4, 2) := by decide +kernel
theorem dX6_buy_68 : decode cX6_buy 68 = .ok (.iinc 5 1, 3) := by decide +kernel
theorem dX6_buy_71 : decode cX6_buy 71 = .ok (.goto (-33), 3) := by decide +kernel
theorem dX6_buy_74 : decode cX6_buy 74 = .ok (.bipush (-9), 2) := by decide +kernel
theorem dX6_buy_76 : decode cX6_buy 76 = .ok (.istore 5, 2) := by decide +kernel
theorem dX6_buy_78 : decode cX6_buy 78 = .ok (.iconst 0, 1) := by decide +kernel
theorem dX6_buy_79 : decode cX6_buy 79 = .ok (.istore 6, 2) := by decide +kernel
theorem dX6_buy_81 : decode cX6_buy 81 = .ok (.iload 6, 2) := by decide +kernel
theorem dX6_buy_83 : decode cX6_buy 83 = .ok (.iconst 1, 1) := by decide +kernel
theorem dX6_buy_84 : decode cX6_buy 84 = .ok (.aload_n 0, 1) := by decide +kernel
theorem dX6_buy_85 : decode cX6_buy 85 = .ok (.getfield 93, 3) := by decide +kernel
theorem dX6_buy_88 : decode cX6_buy 88 = .ok (.ishl, 1) := by decide +kernel
theorem dX6_buy_89 : decode cX6_buy 89 = .ok (.if_icmp .ge 85, 3) := by decide +kernel
theorem dX6_buy_92 : decode cX6_buy 92 = .ok (.iload 6, 2) := by decide +kernel
theorem dX6_buy_94 : decode cX6_buy 94 = .ok (.iload 4, 2) := by decide +kernel
theorem dX6_buy_96 : decode cX6_buy 96 = .ok (.iconst (-1), 1) := by decide +kernel
theorem dX6_buy_97 : decode cX6_buy 97 = .ok (.ixor, 1) := by decide +kernel
theorem dX6_buy_98 : decode cX6_buy 98 = .ok (.iand, 1) := by decide +kernel
theorem dX6_buy_99 : decode cX6_buy 99 = .ok (.ifCond .ne 39, 3) := by decide +kernel
theorem dX6_buy_102 : decode cX6_buy 102 = .ok (.aload_n 0, 1) := by decide +kernel
theorem dX6_buy_103 : decode cX6_buy 103 = .ok (.iload 6, 2) := by decide +kernel
theorem dX6_buy_105 : decode cX6_buy 105 = .ok (.invokevirtual 216, 3) := by decide +kernel
theorem dX6_buy_108 : decode cX6_buy 108 = .ok (.aload_n 0, 1) := by decide +kernel
theorem dX6_buy_109 : decode cX6_buy 109 = .ok (.getfield 19, 3) := by decide +kernel
theorem dX6_buy_112 : decode cX6_buy 112 = .ok (.iload_n 1, 1) := by decide +kernel
theorem dX6_buy_113 : decode cX6_buy 113 = .ok (.iaload, 1) := by decide +kernel
theorem dX6_buy_114 : decode cX6_buy 114 = .ok (.if_icmp .gt 24, 3) := by decide +kernel
theorem dX6_buy_117 : decode cX6_buy 117 = .ok (.aload_n 0, 1) := by decide +kernel
theorem dX6_buy_118 : decode cX6_buy 118 = .ok (.iload_n 1, 1) := by decide +kernel
theorem dX6_buy_119 : decode cX6_buy 119 = .ok (.aload_n 0, 1) := by decide +kernel
theorem dX6_buy_120 : decode cX6_buy 120 = .ok (.iload_n 1, 1) := by decide +kernel
theorem dX6_buy_121 : decode cX6_buy 121 = .ok (.invokevirtual 162, 3) := by decide +kernel
theorem dX6_buy_124 : decode cX6_buy 124 = .ok (.iload 6, 2) := by decide +kernel
theorem dX6_buy_126 : decode cX6_buy 126 = .ok (.ior, 1) := by decide +kernel
theorem dX6_buy_127 : decode cX6_buy 127 = .ok (.invokevirtual 207, 3) := by decide +kernel
theorem dX6_buy_130 : decode cX6_buy 130 = .ok (.iload_n 2, 1) := by decide +kernel
theorem dX6_buy_131 : decode cX6_buy 131 = .ok (.if_icmp .lt 7, 3) := by decide +kernel
theorem dX6_buy_134 : decode cX6_buy 134 = .ok (.iconst 1, 1) := by decide +kernel
theorem dX6_buy_135 : decode cX6_buy 135 = .ok (.goto 4, 3) := by decide +kernel
theorem dX6_buy_138 : decode cX6_buy 138 = .ok (.iconst 0, 1) := by decide +kernel
theorem dX6_buy_139 : decode cX6_buy 139 = .ok (.istore 7, 2) := by decide +kernel
theorem dX6_buy_141 : decode cX6_buy 141 = .ok (.iload 7, 2) := by decide +kernel
theorem dX6_buy_143 : decode cX6_buy 143 = .ok (.ifCond .eq 25, 3) := by decide +kernel
theorem dX6_buy_146 : decode cX6_buy 146 = .ok (.iload 5, 2) := by decide +kernel
theorem dX6_buy_148 : decode cX6_buy 148 = .ok (.bipush (-9), 2) := by decide +kernel
theorem dX6_buy_150 : decode cX6_buy 150 = .ok (.if_icmp .eq 14, 3) := by decide +kernel
theorem dX6_buy_153 : decode cX6_buy 153 = .ok (.aload_n 0, 1) := by decide +kernel
theorem dX6_buy_154 : decode cX6_buy 154 = .ok (.iload 6, 2) := by decide +kernel
theorem dX6_buy_156 : decode cX6_buy 156 = .ok (.iload 5, 2) := by decide +kernel
theorem dX6_buy_158 : decode cX6_buy 158 = .ok (.invokevirtual 219, 3) := by decide +kernel
theorem dX6_buy_161 : decode cX6_buy 161 = .ok (.ifCond .eq 7, 3) := by decide +kernel
theorem dX6_buy_164 : decode cX6_buy 164 = .ok (.iload 6, 2) := by decide +kernel
theorem dX6_buy_166 : decode cX6_buy 166 = .ok (.istore 5, 2) := by decide +kernel
theorem dX6_buy_168 : decode cX6_buy 168 = .ok (.iinc 6 1, 3) := by decide +kernel
theorem dX6_buy_171 : decode cX6_buy 171 = .ok (.goto (-90), 3) := by decide +kernel
theorem dX6_buy_174 : decode cX6_buy 174 = .ok (.iload_n 3, 1) := by decide +kernel
theorem dX6_buy_175 : decode cX6_buy 175 = .ok (.iconst 1, 1) := by decide +kernel
theorem dX6_buy_176 : decode cX6_buy 176 = .ok (.if_icmp .eq 10, 3) := by decide +kernel
theorem dX6_buy_179 : decode cX6_buy 179 = .ok (.iload 5, 2) := by decide +kernel
theorem dX6_buy_181 : decode cX6_buy 181 = .ok (.bipush (-9), 2) := by decide +kernel
theorem dX6_buy_183 : decode cX6_buy 183 = .ok (.if_icmp .ne 8, 3) := by decide +kernel
theorem dX6_buy_186 : decode cX6_buy 186 = .ok (.iload 5, 2) := by decide +kernel
theorem dX6_buy_188 : decode cX6_buy 188 = .ok (.goto 9, 3) := by decide +kernel
theorem dX6_buy_191 : decode cX6_buy 191 = .ok (.aload_n 0, 1) := by decide +kernel
theorem dX6_buy_192 : decode cX6_buy 192 = .ok (.iload 5, 2) := by decide +kernel
theorem dX6_buy_194 : decode cX6_buy 194 = .ok (.invokevirtual 216, 3) := by decide +kernel
theorem dX6_buy_197 : decode cX6_buy 197 = .ok (.ireturn, 1) := by decide +kernel
theorem dX6_isCheaper_0 : decode cX6_isCheaper 0 = .ok (.aload_n 0, 1) := by decide +kernel
theorem dX6_isCheaper_1 : decode cX6_isCheaper 1 = .ok (.iload_n 1, 1) := by decide +kernel
theorem dX6_isCheaper_2 : decode cX6_isCheaper 2 = .ok (.invokevirtual 216, 3) := by decide +kernel
theorem dX6_isCheaper_5 : decode cX6_isCheaper 5 = .ok (.aload_n 0, 1) := by decide +kernel
theorem dX6_isCheaper_6 : decode cX6_isCheaper 6 = .ok (.iload_n 2, 1) := by decide +kernel
theorem dX6_isCheaper_7 : decode cX6_isCheaper 7 = .ok (.invokevirtual 216, 3) := by decide +kernel
theorem dX6_isCheaper_10 : decode cX6_isCheaper 10 = .ok (.if_icmp .lt 27, 3) := by decide +kernel
theorem dX6_isCheaper_13 : decode cX6_isCheaper 13 = .ok (.aload_n 0, 1) := by decide +kernel
theorem dX6_isCheaper_14 : decode cX6_isCheaper 14 = .ok (.iload_n 1, 1) := by decide +kernel
theorem dX6_isCheaper_15 : decode cX6_isCheaper 15 = .ok (.invokevirtual 216, 3) := by decide +kernel
theorem dX6_isCheaper_18 : decode cX6_isCheaper 18 = .ok (.aload_n 0, 1) := by decide +kernel
theorem dX6_isCheaper_19 : decode cX6_isCheaper 19 = .ok (.iload_n 2, 1) := by decide +kernel
theorem dX6_isCheaper_20 : decode cX6_isCheaper 20 = .ok (.invokevirtual 216, 3) := by decide +kernel
theorem dX6_isCheaper_23 : decode cX6_isCheaper 23 = .ok (.if_icmp .ne 18, 3) := by decide +kernel
theorem dX6_isCheaper_26 : decode cX6_isCheaper 26 = .ok (.iload_n 1, 1) := by decide +kernel
theorem dX6_isCheaper_27 : decode cX6_isCheaper 27 = .ok (.invokestatic 165, 3) := by decide +kernel
theorem dX6_isCheaper_30 : decode cX6_isCheaper 30 = .ok (.iload_n 2, 1) := by decide +kernel
theorem dX6_isCheaper_31 : decode cX6_isCheaper 31 = .ok (.invokestatic 165, 3) := by decide +kernel
theorem dX6_isCheaper_34 : decode cX6_isCheaper 34 = .ok (.if_icmp .ge 7, 3) := by decide +kernel
theorem dX6_isCheaper_37 : decode cX6_isCheaper 37 = .ok (.iconst 1, 1) := by decide +kernel
theorem dX6_isCheaper_38 : decode cX6_isCheaper 38 = .ok (.goto 4, 3) := by decide +kernel
theorem dX6_isCheaper_41 : decode cX6_isCheaper 41 = .ok (.iconst 0, 1) := by decide +kernel
theorem dX6_isCheaper_42 : decode cX6_isCheaper 42 = .ok (.ireturn, 1) := by decide +kernel
theorem dX6_debt_0 : decode cX6_debt 0 = .ok (.aload_n 0, 1) := by decide +kernel
theorem dX6_debt_1 : decode cX6_debt 1 = .ok (.iload_n 1, 1) := by decide +kernel
theorem dX6_debt_2 : decode cX6_debt 2 = .ok (.invokevirtual 159, 3) := by decide +kernel
theorem dX6_debt_5 : decode cX6_debt 5 = .ok (.ifCond .ne 5, 3) := by decide +kernel
theorem dX6_debt_8 : decode cX6_debt 8 = .ok (.iconst (-1), 1) := by decide +kernel
theorem dX6_debt_9 : decode cX6_debt 9 = .ok (.ireturn, 1) := by decide +kernel
theorem dX6_debt_10 : decode cX6_debt 10 = .ok (.iload_n 2, 1) := by decide +kernel
theorem dX6_debt_11 : decode cX6_debt 11 = .ok (.iconst 0, 1) := by decide +kernel
theorem dX6_debt_12 : decode cX6_debt 12 = .ok (.sipush 999, 3) := by decide +kernel
theorem dX6_debt_15 : decode cX6_debt 15 = .ok (.invokestatic 86, 3) := by decide +kernel
theorem dX6_debt_18 : decode cX6_debt 18 = .ok (.ifCond .eq 12, 3) := by decide +kernel
theorem dX6_debt_21 : decode cX6_debt 21 = .ok (.iload_n 3, 1) := by decide +kernel
theorem dX6_debt_22 : decode cX6_debt 22 = .ok (.iconst 0, 1) := by decide +kernel
theorem dX6_debt_23 : decode cX6_debt 23 = .ok (.iconst 1, 1) := by decide +kernel
theorem dX6_debt_24 : decode cX6_debt 24 = .ok (.invokestatic 86, 3) := by decide +kernel
theorem dX6_debt_27 : decode cX6_debt 27 = .ok (.ifCond .ne 6, 3) := by decide +kernel
theorem dX6_debt_30 : decode cX6_debt 30 = .ok (.bipush (-2), 2) := by decide +kernel
theorem dX6_debt_32 : decode cX6_debt 32 = .ok (.ireturn, 1) := by decide +kernel
theorem dX6_debt_33 : decode cX6_debt 33 = .ok (.aload_n 0, 1) := by decide +kernel
theorem dX6_debt_34 : decode cX6_debt 34 = .ok (.iload_n 1, 1) := by decide +kernel
theorem dX6_debt_35 : decode cX6_debt 35 = .ok (.invokevirtual 162, 3) := by decide +kernel
theorem dX6_debt_38 : decode cX6_debt 38 = .ok (.istore 4, 2) := by decide +kernel
theorem dX6_debt_40 : decode cX6_debt 40 = .ok (.bipush (-9), 2) := by decide +kernel
theorem dX6_debt_42 : decode cX6_debt 42 = .ok (.istore 5, 2) := by decide +kernel
theorem dX6_debt_44 : decode cX6_debt 44 = .ok (.bipush (-9), 2) := by decide +kernel
theorem dX6_debt_46 : decode cX6_debt 46 = .ok (.istore 6, 2) := by decide +kernel
theorem dX6_debt_48 : decode cX6_debt 48 = .ok (.iconst 0, 1) := by decide +kernel
theorem dX6_debt_49 : decode cX6_debt 49 = .ok (.istore 7, 2) := by decide +kernel
theorem dX6_debt_51 : decode cX6_debt 51 = .ok (.iload 7, 2) := by decide +kernel
theorem dX6_debt_53 : decode cX6_debt 53 = .ok (.iconst 1, 1) := by decide +kernel
theorem dX6_debt_54 : decode cX6_debt 54 = .ok (.aload_n 0, 1) := by decide +kernel
theorem dX6_debt_55 : decode cX6_debt 55 = .ok (.getfield 93, 3) := by decide +kernel
theorem dX6_debt_58 : decode cX6_debt 58 = .ok (.ishl, 1) := by decide +kernel
theorem dX6_debt_59 : decode cX6_debt 59 = .ok (.if_icmp .ge 100, 3) := by decide +kernel
theorem dX6_debt_62 : decode cX6_debt 62 = .ok (.iload 7, 2) := by decide +kernel
theorem dX6_debt_64 : decode cX6_debt 64 = .ok (.iload 4, 2) := by decide +kernel
theorem dX6_debt_66 : decode cX6_debt 66 = .ok (.iconst (-1), 1) := by decide +kernel
theorem dX6_debt_67 : decode cX6_debt 67 = .ok (.ixor, 1) := by decide +kernel
theorem dX6_debt_68 : decode cX6_debt 68 = .ok (.iand, 1) := by decide +kernel
theorem dX6_debt_69 : decode cX6_debt 69 = .ok (.ifCond .ne 17, 3) := by decide +kernel
theorem dX6_debt_72 : decode cX6_debt 72 = .ok (.aload_n 0, 1) := by decide +kernel
theorem dX6_debt_73 : decode cX6_debt 73 = .ok (.iload 7, 2) := by decide +kernel
theorem dX6_debt_75 : decode cX6_debt 75 = .ok (.invokevirtual 216, 3) := by decide +kernel
theorem dX6_debt_78 : decode cX6_debt 78 = .ok (.iload_n 2, 1) := by decide +kernel
theorem dX6_debt_79 : decode cX6_debt 79 = .ok (.if_icmp .lt 7, 3) := by decide +kernel
theorem dX6_debt_82 : decode cX6_debt 82 = .ok (.iconst 1, 1) := by decide +kernel
theorem dX6_debt_83 : decode cX6_debt 83 = .ok (.goto 4, 3) := by decide +kernel
theorem dX6_debt_86 : decode cX6_debt 86 = .ok (.iconst 0, 1) := by decide +kernel
theorem dX6_debt_87 : decode cX6_debt 87 = .ok (.istore 8, 2) := by decide +kernel
theorem dX6_debt_89 : decode cX6_debt 89 = .ok (.iload 8, 2) := by decide +kernel
theorem dX6_debt_91 : decode cX6_debt 91 = .ok (.ifCond .eq 18, 3) := by decide +kernel
theorem dX6_debt_94 : decode cX6_debt 94 = .ok (.aload_n 0, 1) := by decide +kernel
theorem dX6_debt_95 : decode cX6_debt 95 = .ok (.iload_n 1, 1) := by decide +kernel
theorem dX6_debt_96 : decode cX6_debt 96 = .ok (.iload 4, 2) := by decide +kernel
theorem dX6_debt_98 : decode cX6_debt 98 = .ok (.iload 7, 2) := by decide +kernel
theorem dX6_debt_100 : decode cX6_debt 100 = .ok (.iconst (-1), 1) := by decide +kernel
theorem dX6_debt_101 : decode cX6_debt 101 = .ok (.ixor, 1) := by decide +kernel
theorem dX6_debt_102 : decode cX6_debt 102 = .ok (.iand, 1) := by decide +kernel
theorem dX6_debt_103 : decode cX6_debt 103 = .ok (.invokevirtual 207, 3) := by decide +kernel
theorem dX6_debt_106 : decode cX6_debt 106 = .ok (.goto 5, 3) := by decide +kernel
theorem dX6_debt_109 : decode cX6_debt 109 = .ok (.bipush (-9), 2) := by decide +kernel
theorem dX6_debt_111 : decode cX6_debt 111 = .ok (.istore 9, 2) := by decide +kernel
theorem dX6_debt_113 : decode cX6_debt 113 = .ok (.iload 8, 2) := by decide +kernel
theorem dX6_debt_115 : decode cX6_debt 115 = .ok (.ifCond .eq 38, 3) := by decide +kernel
theorem dX6_debt_118 : decode cX6_debt 118 = .ok (.iload 9, 2) := by decide +kernel
theorem dX6_debt_120 : decode cX6_debt 120 = .ok (.iload 6, 2) := by decide +kernel
theorem dX6_debt_122 : decode cX6_debt 122 = .ok (.if_icmp .gt 23, 3) := by decide +kernel
theorem dX6_debt_125 : decode cX6_debt 125 = .ok (.iload 9, 2) := by decide +kernel
theorem dX6_debt_127 : decode cX6_debt 127 = .ok (.iload 6, 2) := by decide +kernel
theorem dX6_debt_129 : decode cX6_debt 129 = .ok (.if_icmp .ne 24, 3) := by decide +kernel
theorem dX6_debt_132 : decode cX6_debt 132 = .ok (.iload 7, 2) := by decide +kernel
theorem dX6_debt_134 : decode cX6_debt 134 = .ok (.invokestatic 165, 3) := by decide +kernel
theorem dX6_debt_137 : decode cX6_debt 137 = .ok (.iload 5, 2) := by decide +kernel
theorem dX6_debt_139 : decode cX6_debt 139 = .ok (.invokestatic 165, 3) := by decide +kernel
theorem dX6_debt_142 : decode cX6_debt 142 = .ok (.if_icmp .ge 11, 3) := by decide +kernel
theorem dX6_debt_145 : decode cX6_debt 145 = .ok (.iload 7, 2) := by decide +kernel
theorem dX6_debt_147 : decode cX6_debt 147 = .ok (.istore 5, 2) := by decide +kernel
theorem dX6_debt_149 : decode cX6_debt 149 = .ok (.iload 9, 2) := by decide +kernel
theorem dX6_debt_151 : decode cX6_debt 151 = .ok (.istore 6, 2) := by decide +kernel
theorem dX6_debt_153 : decode cX6_debt 153 = .ok (.iinc 7 1, 3) := by decide +kernel
theorem dX6_debt_156 : decode cX6_debt 156 = .ok (.goto (-105), 3) := by decide +kernel
theorem dX6_debt_159 : decode cX6_debt 159 = .ok (.iload_n 3, 1) := by decide +kernel
theorem dX6_debt_160 : decode cX6_debt 160 = .ok (.ifCond .ne 8, 3) := by decide +kernel
theorem dX6_debt_163 : decode cX6_debt 163 = .ok (.iload 6, 2) := by decide +kernel
theorem dX6_debt_165 : decode cX6_debt 165 = .ok (.goto 5, 3) := by decide +kernel
theorem dX6_debt_168 : decode cX6_debt 168 = .ok (.iload 5, 2) := by decide +kernel
theorem dX6_debt_170 : decode cX6_debt 170 = .ok (.ireturn, 1) := by decide +kernel
theorem dX6_findSwap_0 : decode cX6_findSwap 0 = .ok (.iconst 0, 1) := by decide +kernel
theorem dX6_findSwap_1 : decode cX6_findSwap 1 = .ok (.istore_n 1, 1) := by decide +kernel
theorem dX6_findSwap_2 : decode cX6_findSwap 2 = .ok (.aload_n 0, 1) := by decide +kernel
theorem dX6_findSwap_3 : decode cX6_findSwap 3 = .ok (.bipush (-9), 2) := by decide +kernel
theorem dX6_findSwap_5 : decode cX6_findSwap 5 = .ok (.putfield 222, 3) := by decide +kernel
theorem dX6_findSwap_8 : decode cX6_findSwap 8 = .ok (.aload_n 0, 1) := by decide +kernel
theorem dX6_findSwap_9 : decode cX6_findSwap 9 = .ok (.bipush (-9), 2) := by decide +kernel
theorem dX6_findSwap_11 : decode cX6_findSwap 11 = .ok (.putfield 225, 3) := by decide +kernel
theorem dX6_findSwap_14 : decode cX6_findSwap 14 = .ok (.iconst 0, 1) := by decide +kernel
theorem dX6_findSwap_15 : decode cX6_findSwap 15 = .ok (.istore_n 2, 1) := by decide +kernel
theorem dX6_findSwap_16 : decode cX6_findSwap 16 = .ok (.iload_n 2, 1) := by decide +kernel
theorem dX6_findSwap_17 : decode cX6_findSwap 17 = .ok (.aload_n 0, 1) := by decide +kernel
theorem dX6_findSwap_18 : decode cX6_findSwap 18 = .ok (.getfield 93, 3) := by decide +kernel
theorem dX6_findSwap_21 : decode cX6_findSwap 21 = .ok (.if_icmp .ge 92, 3) := by decide +kernel
theorem dX6_findSwap_24 : decode cX6_findSwap 24 = .ok (.iload_n 2, 1) := by decide +kernel
theorem dX6_findSwap_25 : decode cX6_findSwap 25 = .ok (.iconst 1, 1) := by decide +kernel
theorem dX6_findSwap_26 : decode cX6_findSwap 26 = .ok (.iadd, 1) := by decide +kernel
theorem dX6_findSwap_27 : decode cX6_findSwap 27 = .ok (.istore_n 3, 1) := by decide +kernel
theorem dX6_findSwap_28 : decode cX6_findSwap 28 = .ok (.iload_n 3, 1) := by decide +kernel
theorem dX6_findSwap_29 : decode cX6_findSwap 29 = .ok (.aload_n 0, 1) := by decide +kernel
theorem dX6_findSwap_30 : decode cX6_findSwap 30 = .ok (.getfield 93, 3) := by decide +kernel
theorem dX6_findSwap_33 : decode cX6_findSwap 33 = .ok (.if_icmp .ge 74, 3) := by decide +kernel
theorem dX6_findSwap_36 : decode cX6_findSwap 36 = .ok (.aload_n 0, 1) := by decide +kernel
theorem dX6_findSwap_37 : decode cX6_findSwap 37 = .ok (.getfield 41, 3) := by decide +kernel
theorem dX6_findSwap_40 : decode cX6_findSwap 40 = .ok (.iload_n 2, 1) := by decide +kernel
theorem dX6_findSwap_41 : decode cX6_findSwap 41 = .ok (.baload, 1) := by decide +kernel
theorem dX6_findSwap_42 : decode cX6_findSwap 42 = .ok (.ifCond .ne 27, 3) := by decide +kernel
theorem dX6_findSwap_45 : decode cX6_findSwap 45 = .ok (.aload_n 0, 1) := by decide +kernel
theorem dX6_findSwap_46 : decode cX6_findSwap 46 = .ok (.getfield 41, 3) := by decide +kernel
theorem dX6_findSwap_49 : decode cX6_findSwap 49 = .ok (.iload_n 3, 1) := by decide +kernel
theorem dX6_findSwap_50 : decode cX6_findSwap 50 = .ok (.baload, 1) := by decide +kernel
theorem dX6_findSwap_51 : decode cX6_findSwap 51 = .ok (.ifCond .ne 18, 3) := by decide +kernel
theorem dX6_findSwap_54 : decode cX6_findSwap 54 = .ok (.aload_n 0, 1) := by decide +kernel
theorem dX6_findSwap_55 : decode cX6_findSwap 55 = .ok (.getfield 32, 3) := by decide +kernel
theorem dX6_findSwap_58 : decode cX6_findSwap 58 = .ok (.iload_n 2, 1) := by decide +kernel
theorem dX6_findSwap_59 : decode cX6_findSwap 59 = .ok (.iaload, 1) := by decide +kernel
theorem dX6_findSwap_60 : decode cX6_findSwap 60 = .ok (.aload_n 0, 1) := by decide +kernel
theorem dX6_findSwap_61 : decode cX6_findSwap 61 = .ok (.getfield 32, 3) := by decide +kernel
theorem dX6_findSwap_64 : decode cX6_findSwap 64 = .ok (.iload_n 3, 1) := by decide +kernel
theorem dX6_findSwap_65 : decode cX6_findSwap 65 = .ok (.iaload, 1) := by decide +kernel
theorem dX6_findSwap_66 : decode cX6_findSwap 66 = .ok (.if_icmp .ne 8, 3) := by decide +kernel
theorem dX6_findSwap_69 : decode cX6_findSwap 69 = .ok (.bipush (-9), 2) := by decide +kernel
theorem dX6_findSwap_71 : decode cX6_findSwap 71 = .ok (.goto 9, 3) := by decide +kernel
theorem dX6_findSwap_74 : decode cX6_findSwap 74 = .ok (.aload_n 0, 1) := by decide +kernel
theorem dX6_findSwap_75 : decode cX6_findSwap 75 = .ok (.iload_n 2, 1) := by decide +kernel
theorem dX6_findSwap_76 : decode cX6_findSwap 76 = .ok (.iload_n 3, 1) := by decide +kernel
theorem dX6_findSwap_77 : decode cX6_findSwap 77 = .ok (.invokevirtual 228, 3) := by decide +kernel
theorem dX6_findSwap_80 : decode cX6_findSwap 80 = .ok (.istore 4, 2) := by decide +kernel
theorem dX6_findSwap_82 : decode cX6_findSwap 82 = .ok (.iload 4, 2) := by decide +kernel
theorem dX6_findSwap_84 : decode cX6_findSwap 84 = .ok (.iload_n 1, 1) := by decide +kernel
theorem dX6_findSwap_85 : decode cX6_findSwap 85 = .ok (.if_icmp .le 16, 3) := by decide +kernel
theorem dX6_findSwap_88 : decode cX6_findSwap 88 = .ok (.iload 4, 2) := by decide +kernel
theorem dX6_findSwap_90 : decode cX6_findSwap 90 = .ok (.istore_n 1, 1) := by decide +kernel
theorem dX6_findSwap_91 : decode cX6_findSwap 91 = .ok (.aload_n 0, 1) := by decide +kernel
theorem dX6_findSwap_92 : decode cX6_findSwap 92 = .ok (.iload_n 2, 1) := by decide +kernel
theorem dX6_findSwap_93 : decode cX6_findSwap 93 = .ok (.putfield 222, 3) := by decide +kernel
theorem dX6_findSwap_96 : decode cX6_findSwap 96 = .ok (.aload_n 0, 1) := by decide +kernel
theorem dX6_findSwap_97 : decode cX6_findSwap 97 = .ok (.iload_n 3, 1) := by decide +kernel
theorem dX6_findSwap_98 : decode cX6_findSwap 98 = .ok (.putfield 225, 3) := by decide +kernel
theorem dX6_findSwap_101 : decode cX6_findSwap 101 = .ok (.iinc 3 1, 3) := by decide +kernel
theorem dX6_findSwap_104 : decode cX6_findSwap 104 = .ok (.goto (-76), 3) := by decide +kernel
theorem dX6_findSwap_107 : decode cX6_findSwap 107 = .ok (.iinc 2 1, 3) := by decide +kernel
theorem dX6_findSwap_110 : decode cX6_findSwap 110 = .ok (.goto (-94), 3) := by decide +kernel
theorem dX6_findSwap_113 : decode cX6_findSwap 113 = .ok (.iload_n 1, 1) := by decide +kernel
theorem dX6_findSwap_114 : decode cX6_findSwap 114 = .ok (.ifCond .ne 8, 3) := by decide +kernel
theorem dX6_findSwap_117 : decode cX6_findSwap 117 = .ok (.bipush (-9), 2) := by decide +kernel
theorem dX6_findSwap_119 : decode cX6_findSwap 119 = .ok (.goto 4, 3) := by decide +kernel
theorem dX6_findSwap_122 : decode cX6_findSwap 122 = .ok (.iload_n 1, 1) := by decide +kernel
theorem dX6_findSwap_123 : decode cX6_findSwap 123 = .ok (.ireturn, 1) := by decide +kernel
theorem dX6_gainBy_0 : decode cX6_gainBy 0 = .ok (.aload_n 0, 1) := by decide +kernel
theorem dX6_gainBy_1 : decode cX6_gainBy 1 = .ok (.getfield 32, 3) := by decide +kernel
theorem dX6_gainBy_4 : decode cX6_gainBy 4 = .ok (.iload_n 1, 1) := by decide +kernel
theorem dX6_gainBy_5 : decode cX6_gainBy 5 = .ok (.iaload, 1) := by decide +kernel
theorem dX6_gainBy_6 : decode cX6_gainBy 6 = .ok (.istore_n 3, 1) := by decide +kernel
theorem dX6_gainBy_7 : decode cX6_gainBy 7 = .ok (.aload_n 0, 1) := by decide +kernel
theorem dX6_gainBy_8 : decode cX6_gainBy 8 = .ok (.getfield 32, 3) := by decide +kernel
theorem dX6_gainBy_11 : decode cX6_gainBy 11 = .ok (.iload_n 2, 1) := by decide +kernel
theorem dX6_gainBy_12 : decode cX6_gainBy 12 = .ok (.iaload, 1) := by decide +kernel
theorem dX6_gainBy_13 : decode cX6_gainBy 13 = .ok (.istore 4, 2) := by decide +kernel
theorem dX6_gainBy_15 : decode cX6_gainBy 15 = .ok (.iconst 1, 1) := by decide +kernel
theorem dX6_gainBy_16 : decode cX6_gainBy 16 = .ok (.iload_n 1, 1) := by decide +kernel
theorem dX6_gainBy_17 : decode cX6_gainBy 17 = .ok (.ishl, 1) := by decide +kernel
theorem dX6_gainBy_18 : decode cX6_gainBy 18 = .ok (.iconst 1, 1) := by decide +kernel
theorem dX6_gainBy_19 : decode cX6_gainBy 19 = .ok (.iload_n 2, 1) := by decide +kernel
theorem dX6_gainBy_20 : decode cX6_gainBy 20 = .ok (.ishl, 1) := by decide +kernel
theorem dX6_gainBy_21 : decode cX6_gainBy 21 = .ok (.ior, 1) := by decide +kernel
theorem dX6_gainBy_22 : decode cX6_gainBy 22 = .ok (.istore 5, 2) := by decide +kernel
theorem dX6_gainBy_24 : decode cX6_gainBy 24 = .ok (.aload_n 0, 1) := by decide +kernel
theorem dX6_gainBy_25 : decode cX6_gainBy 25 = .ok (.iload_n 3, 1) := by decide +kernel
theorem dX6_gainBy_26 : decode cX6_gainBy 26 = .ok (.aload_n 0, 1) := by decide +kernel
theorem dX6_gainBy_27 : decode cX6_gainBy 27 = .ok (.iload_n 3, 1) := by decide +kernel
theorem dX6_gainBy_28 : decode cX6_gainBy 28 = .ok (.invokevirtual 162, 3) := by decide +kernel
theorem dX6_gainBy_31 : decode cX6_gainBy 31 = .ok (.iload 5, 2) := by decide +kernel
theorem dX6_gainBy_33 : decode cX6_gainBy 33 = .ok (.ixor, 1) := by decide +kernel
theorem dX6_gainBy_34 : decode cX6_gainBy 34 = .ok (.invokevirtual 207, 3) := by decide +kernel
theorem dX6_gainBy_37 : decode cX6_gainBy 37 = .ok (.aload_n 0, 1) := by decide +kernel
theorem dX6_gainBy_38 : decode cX6_gainBy 38 = .ok (.iload_n 3, 1) := by decide +kernel
theorem dX6_gainBy_39 : decode cX6_gainBy 39 = .ok (.aload_n 0, 1) := by decide +kernel
theorem dX6_gainBy_40 : decode cX6_gainBy 40 = .ok (.iload_n 3, 1) := by decide +kernel
theorem dX6_gainBy_41 : decode cX6_gainBy 41 = .ok (.invokevirtual 162, 3) := by decide +kernel
theorem dX6_gainBy_44 : decode cX6_gainBy 44 = .ok (.invokevirtual 207, 3) := by decide +kernel
theorem dX6_gainBy_47 : decode cX6_gainBy 47 = .ok (.isub, 1) := by decide +kernel
theorem dX6_gainBy_48 : decode cX6_gainBy 48 = .ok (.istore 6, 2) := by decide +kernel
theorem dX6_gainBy_50 : decode cX6_gainBy 50 = .ok (.aload_n 0, 1) := by decide +kernel
theorem dX6_gainBy_51 : decode cX6_gainBy 51 = .ok (.iload 4, 2) := by decide +kernel
theorem dX6_gainBy_53 : decode cX6_gainBy 53 = .ok (.aload_n 0, 1) := by decide +kernel
theorem dX6_gainBy_54 : decode cX6_gainBy 54 = .ok (.iload 4, 2) := by decide +kernel
theorem dX6_gainBy_56 : decode cX6_gainBy 56 = .ok (.invokevirtual 162, 3) := by decide +kernel
theorem dX6_gainBy_59 : decode cX6_gainBy 59 = .ok (.iload 5, 2) := by decide +kernel
theorem dX6_gainBy_61 : decode cX6_gainBy 61 = .ok (.ixor, 1) := by decide +kernel
theorem dX6_gainBy_62 : decode cX6_gainBy 62 = .ok (.invokevirtual 207, 3) := by decide +kernel
theorem dX6_gainBy_65 : decode cX6_gainBy 65 = .ok (.aload_n 0, 1) := by decide +kernel
theorem dX6_gainBy_66 : decode cX6_gainBy 66 = .ok (.iload 4, 2) := by decide +kernel
theorem dX6_gainBy_68 : decode cX6_gainBy 68 = .ok (.aload_n 0, 1) := by decide +kernel
theorem dX6_gainBy_69 : decode cX6_gainBy 69 = .ok (.iload 4, 2) := by decide +kernel
theorem dX6_gainBy_71 : decode cX6_gainBy 71 = .ok (.invokevirtual 162, 3) := by decide +kernel
theorem dX6_gainBy_74 : decode cX6_gainBy 74 = .ok (.invokevirtual 207, 3) := by decide +kernel
theorem dX6_gainBy_77 : decode cX6_gainBy 77 = .ok (.isub, 1) := by decide +kernel
theorem dX6_gainBy_78 : decode cX6_gainBy 78 = .ok (.istore 7, 2) := by decide +kernel
theorem dX6_gainBy_80 : decode cX6_gainBy 80 = .ok (.iload 6, 2) := by decide +kernel
theorem dX6_gainBy_82 : decode cX6_gainBy 82 = .ok (.ifCond .lt 8, 3) := by decide +kernel
theorem dX6_gainBy_85 : decode cX6_gainBy 85 = .ok (.iload 7, 2) := by decide +kernel
theorem dX6_gainBy_87 : decode cX6_gainBy 87 = .ok (.ifCond .ge 8, 3) := by decide +kernel
theorem dX6_gainBy_90 : decode cX6_gainBy 90 = .ok (.bipush (-9), 2) := by decide +kernel
theorem dX6_gainBy_92 : decode cX6_gainBy 92 = .ok (.goto 8, 3) := by decide +kernel
theorem dX6_gainBy_95 : decode cX6_gainBy 95 = .ok (.iload 6, 2) := by decide +kernel
theorem dX6_gainBy_97 : decode cX6_gainBy 97 = .ok (.iload 7, 2) := by decide +kernel
theorem dX6_gainBy_99 : decode cX6_gainBy 99 = .ok (.iadd, 1) := by decide +kernel
theorem dX6_gainBy_100 : decode cX6_gainBy 100 = .ok (.ireturn, 1) := by decide +kernel
theorem dX6_swap_0 : decode cX6_swap 0 = .ok (.iload_n 1, 1) := by decide +kernel
theorem dX6_swap_1 : decode cX6_swap 1 = .ok (.iconst 0, 1) := by decide +kernel
theorem dX6_swap_2 : decode cX6_swap 2 = .ok (.iconst 2, 1) := by decide +kernel
theorem dX6_swap_3 : decode cX6_swap 3 = .ok (.invokestatic 86, 3) := by decide +kernel
theorem dX6_swap_6 : decode cX6_swap 6 = .ok (.ifCond .ne 6, 3) := by decide +kernel
theorem dX6_swap_9 : decode cX6_swap 9 = .ok (.bipush (-2), 2) := by decide +kernel
theorem dX6_swap_11 : decode cX6_swap 11 = .ok (.ireturn, 1) := by decide +kernel
theorem dX6_swap_12 : decode cX6_swap 12 = .ok (.aload_n 0, 1) := by decide +kernel
theorem dX6_swap_13 : decode cX6_swap 13 = .ok (.getfield 90, 3) := by decide +kernel
theorem dX6_swap_16 : decode cX6_swap 16 = .ok (.ifCond .ne 6, 3) := by decide +kernel
theorem dX6_swap_19 : decode cX6_swap 19 = .ok (.bipush (-3), 2) := by decide +kernel
theorem dX6_swap_21 : decode cX6_swap 21 = .ok (.ireturn, 1) := by decide +kernel
theorem dX6_swap_22 : decode cX6_swap 22 = .ok (.aload_n 0, 1) := by decide +kernel
theorem dX6_swap_23 : decode cX6_swap 23 = .ok (.invokevirtual 231, 3) := by decide +kernel
theorem dX6_swap_26 : decode cX6_swap 26 = .ok (.istore_n 2, 1) := by decide +kernel
theorem dX6_swap_27 : decode cX6_swap 27 = .ok (.iload_n 1, 1) := by decide +kernel
theorem dX6_swap_28 : decode cX6_swap 28 = .ok (.ifCond .ne 7, 3) := by decide +kernel
theorem dX6_swap_31 : decode cX6_swap 31 = .ok (.iload_n 2, 1) := by decide +kernel
theorem dX6_swap_32 : decode cX6_swap 32 = .ok (.goto 19, 3) := by decide +kernel
theorem dX6_swap_35 : decode cX6_swap 35 = .ok (.iload_n 1, 1) := by decide +kernel
theorem dX6_swap_36 : decode cX6_swap 36 = .ok (.iconst 1, 1) := by decide +kernel
theorem dX6_swap_37 : decode cX6_swap 37 = .ok (.if_icmp .ne 10, 3) := by decide +kernel
theorem dX6_swap_40 : decode cX6_swap 40 = .ok (.aload_n 0, 1) := by decide +kernel
theorem dX6_swap_41 : decode cX6_swap 41 = .ok (.getfield 222, 3) := by decide +kernel
theorem dX6_swap_44 : decode cX6_swap 44 = .ok (.goto 7, 3) := by decide +kernel
theorem dX6_swap_47 : decode cX6_swap 47 = .ok (.aload_n 0, 1) := by decide +kernel
theorem dX6_swap_48 : decode cX6_swap 48 = .ok (.getfield 225, 3) := by decide +kernel
theorem dX6_swap_51 : decode cX6_swap 51 = .ok (.ireturn, 1) := by decide +kernel
theorem dX6_reading_0 : decode cX6_reading 0 = .ok (.aload_n 0, 1) := by decide +kernel
theorem dX6_reading_1 : decode cX6_reading 1 = .ok (.iload_n 1, 1) := by decide +kernel
theorem dX6_reading_2 : decode cX6_reading 2 = .ok (.invokevirtual 156, 3) := by decide +kernel
theorem dX6_reading_5 : decode cX6_reading 5 = .ok (.ifCond .ne 5, 3) := by decide +kernel
theorem dX6_reading_8 : decode cX6_reading 8 = .ok (.iconst (-1), 1) := by decide +kernel
theorem dX6_reading_9 : decode cX6_reading 9 = .ok (.ireturn, 1) := by decide +kernel
theorem dX6_reading_10 : decode cX6_reading 10 = .ok (.iload_n 2, 1) := by decide +kernel
theorem dX6_reading_11 : decode cX6_reading 11 = .ok (.iconst 0, 1) := by decide +kernel
theorem dX6_reading_12 : decode cX6_reading 12 = .ok (.bipush 99, 2) := by decide +kernel
theorem dX6_reading_14 : decode cX6_reading 14 = .ok (.invokestatic 86, 3) := by decide +kernel
theorem dX6_reading_17 : decode cX6_reading 17 = .ok (.ifCond .eq 13, 3) := by decide +kernel
theorem dX6_reading_20 : decode cX6_reading 20 = .ok (.iload_n 3, 1) := by decide +kernel
theorem dX6_reading_21 : decode cX6_reading 21 = .ok (.iconst 0, 1) := by decide +kernel
theorem dX6_reading_22 : decode cX6_reading 22 = .ok (.bipush 9, 2) := by decide +kernel
theorem dX6_reading_24 : decode cX6_reading 24 = .ok (.invokestatic 86, 3) := by decide +kernel
theorem dX6_reading_27 : decode cX6_reading 27 = .ok (.ifCond .ne 6, 3) := by decide +kernel
theorem dX6_reading_30 : decode cX6_reading 30 = .ok (.bipush (-2), 2) := by decide +kernel
theorem dX6_reading_32 : decode cX6_reading 32 = .ok (.ireturn, 1) := by decide +kernel
theorem dX6_reading_33 : decode cX6_reading 33 = .ok (.aload_n 0, 1) := by decide +kernel
theorem dX6_reading_34 : decode cX6_reading 34 = .ok (.getfield 135, 3) := by decide +kernel
theorem dX6_reading_37 : decode cX6_reading 37 = .ok (.bipush 8, 2) := by decide +kernel
theorem dX6_reading_39 : decode cX6_reading 39 = .ok (.if_icmp .ne 6, 3) := by decide +kernel
theorem dX6_reading_42 : decode cX6_reading 42 = .ok (.bipush (-4), 2) := by decide +kernel
theorem dX6_reading_44 : decode cX6_reading 44 = .ok (.ireturn, 1) := by decide +kernel
theorem dX6_reading_45 : decode cX6_reading 45 = .ok (.aload_n 0, 1) := by decide +kernel
theorem dX6_reading_46 : decode cX6_reading 46 = .ok (.getfield 71, 3) := by decide +kernel
theorem dX6_reading_49 : decode cX6_reading 49 = .ok (.aload_n 0, 1) := by decide +kernel
theorem dX6_reading_50 : decode cX6_reading 50 = .ok (.getfield 135, 3) := by decide +kernel
theorem dX6_reading_53 : decode cX6_reading 53 = .ok (.iload_n 1, 1) := by decide +kernel
theorem dX6_reading_54 : decode cX6_reading 54 = .ok (.iastore, 1) := by decide +kernel
theorem dX6_reading_55 : decode cX6_reading 55 = .ok (.aload_n 0, 1) := by decide +kernel
theorem dX6_reading_56 : decode cX6_reading 56 = .ok (.getfield 74, 3) := by decide +kernel
theorem dX6_reading_59 : decode cX6_reading 59 = .ok (.aload_n 0, 1) := by decide +kernel
theorem dX6_reading_60 : decode cX6_reading 60 = .ok (.getfield 135, 3) := by decide +kernel
theorem dX6_reading_63 : decode cX6_reading 63 = .ok (.iload_n 2, 1) := by decide +kernel
theorem dX6_reading_64 : decode cX6_reading 64 = .ok (.iastore, 1) := by decide +kernel
theorem dX6_reading_65 : decode cX6_reading 65 = .ok (.aload_n 0, 1) := by decide +kernel
theorem dX6_reading_66 : decode cX6_reading 66 = .ok (.getfield 77, 3) := by decide +kernel
theorem dX6_reading_69 : decode cX6_reading 69 = .ok (.aload_n 0, 1) := by decide +kernel
theorem dX6_reading_70 : decode cX6_reading 70 = .ok (.getfield 135, 3) := by decide +kernel
theorem dX6_reading_73 : decode cX6_reading 73 = .ok (.iload_n 3, 1) := by decide +kernel
theorem dX6_reading_74 : decode cX6_reading 74 = .ok (.iastore, 1) := by decide +kernel
theorem dX6_reading_75 : decode cX6_reading 75 = .ok (.aload_n 0, 1) := by decide +kernel
theorem dX6_reading_76 : decode cX6_reading 76 = .ok (.dup, 1) := by decide +kernel
theorem dX6_reading_77 : decode cX6_reading 77 = .ok (.getfield 135, 3) := by decide +kernel
theorem dX6_reading_80 : decode cX6_reading 80 = .ok (.iconst 1, 1) := by decide +kernel
theorem dX6_reading_81 : decode cX6_reading 81 = .ok (.iadd, 1) := by decide +kernel
theorem dX6_reading_82 : decode cX6_reading 82 = .ok (.putfield 135, 3) := by decide +kernel
theorem dX6_reading_85 : decode cX6_reading 85 = .ok (.aload_n 0, 1) := by decide +kernel
theorem dX6_reading_86 : decode cX6_reading 86 = .ok (.getfield 135, 3) := by decide +kernel
theorem dX6_reading_89 : decode cX6_reading 89 = .ok (.iconst 1, 1) := by decide +kernel
theorem dX6_reading_90 : decode cX6_reading 90 = .ok (.isub, 1) := by decide +kernel
theorem dX6_reading_91 : decode cX6_reading 91 = .ok (.ireturn, 1) := by decide +kernel
theorem dX6_back_0 : decode cX6_back 0 = .ok (.iload_n 1, 1) := by decide +kernel
theorem dX6_back_1 : decode cX6_back 1 = .ok (.iconst 0, 1) := by decide +kernel
theorem dX6_back_2 : decode cX6_back 2 = .ok (.aload_n 0, 1) := by decide +kernel
theorem dX6_back_3 : decode cX6_back 3 = .ok (.getfield 135, 3) := by decide +kernel
theorem dX6_back_6 : decode cX6_back 6 = .ok (.invokestatic 86, 3) := by decide +kernel
theorem dX6_back_9 : decode cX6_back 9 = .ok (.ifCond .ne 6, 3) := by decide +kernel
theorem dX6_back_12 : decode cX6_back 12 = .ok (.bipush (-2), 2) := by decide +kernel
theorem dX6_back_14 : decode cX6_back 14 = .ok (.ireturn, 1) := by decide +kernel
theorem dX6_back_15 : decode cX6_back 15 = .ok (.aload_n 0, 1) := by decide +kernel
theorem dX6_back_16 : decode cX6_back 16 = .ok (.dup, 1) := by decide +kernel
theorem dX6_back_17 : decode cX6_back 17 = .ok (.getfield 135, 3) := by decide +kernel
theorem dX6_back_20 : decode cX6_back 20 = .ok (.iload_n 1, 1) := by decide +kernel
theorem dX6_back_21 : decode cX6_back 21 = .ok (.isub, 1) := by decide +kernel
theorem dX6_back_22 : decode cX6_back 22 = .ok (.putfield 135, 3) := by decide +kernel
theorem dX6_back_25 : decode cX6_back 25 = .ok (.aload_n 0, 1) := by decide +kernel
theorem dX6_back_26 : decode cX6_back 26 = .ok (.getfield 135, 3) := by decide +kernel
theorem dX6_back_29 : decode cX6_back 29 = .ok (.ireturn, 1) := by decide +kernel
theorem dX6_areSo_0 : decode cX6_areSo 0 = .ok (.iconst 0, 1) := by decide +kernel
theorem dX6_areSo_1 : decode cX6_areSo 1 = .ok (.istore_n 1, 1) := by decide +kernel
theorem dX6_areSo_2 : decode cX6_areSo 2 = .ok (.iload_n 1, 1) := by decide +kernel
theorem dX6_areSo_3 : decode cX6_areSo 3 = .ok (.aload_n 0, 1) := by decide +kernel
theorem dX6_areSo_4 : decode cX6_areSo 4 = .ok (.getfield 135, 3) := by decide +kernel
theorem dX6_areSo_7 : decode cX6_areSo 7 = .ok (.if_icmp .ge 36, 3) := by decide +kernel
theorem dX6_areSo_10 : decode cX6_areSo 10 = .ok (.aload_n 0, 1) := by decide +kernel
theorem dX6_areSo_11 : decode cX6_areSo 11 = .ok (.aload_n 0, 1) := by decide +kernel
theorem dX6_areSo_12 : decode cX6_areSo 12 = .ok (.getfield 71, 3) := by decide +kernel
theorem dX6_areSo_15 : decode cX6_areSo 15 = .ok (.iload_n 1, 1) := by decide +kernel
theorem dX6_areSo_16 : decode cX6_areSo 16 = .ok (.iaload, 1) := by decide +kernel
theorem dX6_areSo_17 : decode cX6_areSo 17 = .ok (.aload_n 0, 1) := by decide +kernel
theorem dX6_areSo_18 : decode cX6_areSo 18 = .ok (.getfield 74, 3) := by decide +kernel
theorem dX6_areSo_21 : decode cX6_areSo 21 = .ok (.iload_n 1, 1) := by decide +kernel
theorem dX6_areSo_22 : decode cX6_areSo 22 = .ok (.iaload, 1) := by decide +kernel
theorem dX6_areSo_23 : decode cX6_areSo 23 = .ok (.invokevirtual 152, 3) := by decide +kernel
theorem dX6_areSo_26 : decode cX6_areSo 26 = .ok (.aload_n 0, 1) := by decide +kernel
theorem dX6_areSo_27 : decode cX6_areSo 27 = .ok (.getfield 77, 3) := by decide +kernel
theorem dX6_areSo_30 : decode cX6_areSo 30 = .ok (.iload_n 1, 1) := by decide +kernel
theorem dX6_areSo_31 : decode cX6_areSo 31 = .ok (.iaload, 1) := by decide +kernel
theorem dX6_areSo_32 : decode cX6_areSo 32 = .ok (.if_icmp .eq 5, 3) := by decide +kernel
theorem dX6_areSo_35 : decode cX6_areSo 35 = .ok (.iconst 0, 1) := by decide +kernel
theorem dX6_areSo_36 : decode cX6_areSo 36 = .ok (.ireturn, 1) := by decide +kernel
theorem dX6_areSo_37 : decode cX6_areSo 37 = .ok (.iinc 1 1, 3) := by decide +kernel
theorem dX6_areSo_40 : decode cX6_areSo 40 = .ok (.goto (-38), 3) := by decide +kernel
theorem dX6_areSo_43 : decode cX6_areSo 43 = .ok (.iconst 1, 1) := by decide +kernel
theorem dX6_areSo_44 : decode cX6_areSo 44 = .ok (.ireturn, 1) := by decide +kernel
theorem dX6_dews_0 : decode cX6_dews 0 = .ok (.aload_n 0, 1) := by decide +kernel
theorem dX6_dews_1 : decode cX6_dews 1 = .ok (.iload_n 1, 1) := by decide +kernel
theorem dX6_dews_2 : decode cX6_dews 2 = .ok (.invokevirtual 156, 3) := by decide +kernel
theorem dX6_dews_5 : decode cX6_dews 5 = .ok (.ifCond .ne 5, 3) := by decide +kernel
theorem dX6_dews_8 : decode cX6_dews 8 = .ok (.iconst (-1), 1) := by decide +kernel
theorem dX6_dews_9 : decode cX6_dews 9 = .ok (.ireturn, 1) := by decide +kernel
theorem dX6_dews_10 : decode cX6_dews 10 = .ok (.aload_n 0, 1) := by decide +kernel
theorem dX6_dews_11 : decode cX6_dews 11 = .ok (.getfield 38, 3) := by decide +kernel
theorem dX6_dews_14 : decode cX6_dews 14 = .ok (.iload_n 1, 1) := by decide +kernel
theorem dX6_dews_15 : decode cX6_dews 15 = .ok (.iaload, 1) := by decide +kernel
theorem dX6_dews_16 : decode cX6_dews 16 = .ok (.istore_n 2, 1) := by decide +kernel
theorem dX6_dews_17 : decode cX6_dews 17 = .ok (.iconst 0, 1) := by decide +kernel
theorem dX6_dews_18 : decode cX6_dews 18 = .ok (.istore_n 3, 1) := by decide +kernel
theorem dX6_dews_19 : decode cX6_dews 19 = .ok (.iconst 0, 1) := by decide +kernel
theorem dX6_dews_20 : decode cX6_dews 20 = .ok (.istore 4, 2) := by decide +kernel
theorem dX6_dews_22 : decode cX6_dews 22 = .ok (.iload 4, 2) := by decide +kernel
theorem dX6_dews_24 : decode cX6_dews 24 = .ok (.bipush 9, 2) := by decide +kernel
theorem dX6_dews_26 : decode cX6_dews 26 = .ok (.if_icmp .gt 35, 3) := by decide +kernel
theorem dX6_dews_29 : decode cX6_dews 29 = .ok (.aload_n 0, 1) := by decide +kernel
theorem dX6_dews_30 : decode cX6_dews 30 = .ok (.getfield 38, 3) := by decide +kernel
theorem dX6_dews_33 : decode cX6_dews 33 = .ok (.iload_n 1, 1) := by decide +kernel
theorem dX6_dews_34 : decode cX6_dews 34 = .ok (.iload 4, 2) := by decide +kernel
theorem dX6_dews_36 : decode cX6_dews 36 = .ok (.iastore, 1) := by decide +kernel
theorem dX6_dews_37 : decode cX6_dews 37 = .ok (.iload_n 3, 1) := by decide +kernel
theorem dX6_dews_38 : decode cX6_dews 38 = .ok (.aload_n 0, 1) := by decide +kernel
theorem dX6_dews_39 : decode cX6_dews 39 = .ok (.invokevirtual 235, 3) := by decide +kernel
theorem dX6_dews_42 : decode cX6_dews 42 = .ok (.ifCond .eq 10, 3) := by decide +kernel
theorem dX6_dews_45 : decode cX6_dews 45 = .ok (.iconst 1, 1) := by decide +kernel
theorem dX6_dews_46 : decode cX6_dews 46 = .ok (.iload 4, 2) := by decide +kernel
theorem dX6_dews_48 : decode cX6_dews 48 = .ok (.ishl, 1) := by decide +kernel
theorem dX6_dews_49 : decode cX6_dews 49 = .ok (.goto 4, 3) := by decide +kernel
theorem dX6_dews_52 : decode cX6_dews 52 = .ok (.iconst 0, 1) := by decide +kernel
theorem dX6_dews_53 : decode cX6_dews 53 = .ok (.ior, 1) := by decide +kernel
theorem dX6_dews_54 : decode cX6_dews 54 = .ok (.istore_n 3, 1) := by decide +kernel
theorem dX6_dews_55 : decode cX6_dews 55 = .ok (.iinc 4 1, 3) := by decide +kernel
theorem dX6_dews_58 : decode cX6_dews 58 = .ok (.goto (-36), 3) := by decide +kernel
theorem dX6_dews_61 : decode cX6_dews 61 = .ok (.aload_n 0, 1) := by decide +kernel
theorem dX6_dews_62 : decode cX6_dews 62 = .ok (.getfield 38, 3) := by decide +kernel
theorem dX6_dews_65 : decode cX6_dews 65 = .ok (.iload_n 1, 1) := by decide +kernel
theorem dX6_dews_66 : decode cX6_dews 66 = .ok (.iload_n 2, 1) := by decide +kernel
theorem dX6_dews_67 : decode cX6_dews 67 = .ok (.iastore, 1) := by decide +kernel
theorem dX6_dews_68 : decode cX6_dews 68 = .ok (.iload_n 3, 1) := by decide +kernel
theorem dX6_dews_69 : decode cX6_dews 69 = .ok (.ireturn, 1) := by decide +kernel
theorem dX6_kinds_0 : decode cX6_kinds 0 = .ok (.aload_n 0, 1) := by decide +kernel
theorem dX6_kinds_1 : decode cX6_kinds 1 = .ok (.iload_n 1, 1) := by decide +kernel
theorem dX6_kinds_2 : decode cX6_kinds 2 = .ok (.invokevirtual 156, 3) := by decide +kernel
theorem dX6_kinds_5 : decode cX6_kinds 5 = .ok (.ifCond .ne 5, 3) := by decide +kernel
theorem dX6_kinds_8 : decode cX6_kinds 8 = .ok (.iconst (-1), 1) := by decide +kernel
theorem dX6_kinds_9 : decode cX6_kinds 9 = .ok (.ireturn, 1) := by decide +kernel
theorem dX6_kinds_10 : decode cX6_kinds 10 = .ok (.aload_n 0, 1) := by decide +kernel
theorem dX6_kinds_11 : decode cX6_kinds 11 = .ok (.getfield 29, 3) := by decide +kernel
theorem dX6_kinds_14 : decode cX6_kinds 14 = .ok (.iload_n 1, 1) := by decide +kernel
theorem dX6_kinds_15 : decode cX6_kinds 15 = .ok (.iaload, 1) := by decide +kernel
theorem dX6_kinds_16 : decode cX6_kinds 16 = .ok (.istore_n 2, 1) := by decide +kernel
theorem dX6_kinds_17 : decode cX6_kinds 17 = .ok (.iconst 0, 1) := by decide +kernel
theorem dX6_kinds_18 : decode cX6_kinds 18 = .ok (.istore_n 3, 1) := by decide +kernel
theorem dX6_kinds_19 : decode cX6_kinds 19 = .ok (.iconst 0, 1) := by decide +kernel
theorem dX6_kinds_20 : decode cX6_kinds 20 = .ok (.istore 4, 2) := by decide +kernel
theorem dX6_kinds_22 : decode cX6_kinds 22 = .ok (.iload 4, 2) := by decide +kernel
theorem dX6_kinds_24 : decode cX6_kinds 24 = .ok (.iconst 3, 1) := by decide +kernel
theorem dX6_kinds_25 : decode cX6_kinds 25 = .ok (.if_icmp .ge 35, 3) := by decide +kernel
theorem dX6_kinds_28 : decode cX6_kinds 28 = .ok (.aload_n 0, 1) := by decide +kernel
theorem dX6_kinds_29 : decode cX6_kinds 29 = .ok (.getfield 29, 3) := by decide +kernel
theorem dX6_kinds_32 : decode cX6_kinds 32 = .ok (.iload_n 1, 1) := by decide +kernel
theorem dX6_kinds_33 : decode cX6_kinds 33 = .ok (.iload 4, 2) := by decide +kernel
theorem dX6_kinds_35 : decode cX6_kinds 35 = .ok (.iastore, 1) := by decide +kernel
theorem dX6_kinds_36 : decode cX6_kinds 36 = .ok (.iload_n 3, 1) := by decide +kernel
theorem dX6_kinds_37 : decode cX6_kinds 37 = .ok (.aload_n 0, 1) := by decide +kernel
theorem dX6_kinds_38 : decode cX6_kinds 38 = .ok (.invokevirtual 235, 3) := by decide +kernel
theorem dX6_kinds_41 : decode cX6_kinds 41 = .ok (.ifCond .eq 10, 3) := by decide +kernel
theorem dX6_kinds_44 : decode cX6_kinds 44 = .ok (.iconst 1, 1) := by decide +kernel
theorem dX6_kinds_45 : decode cX6_kinds 45 = .ok (.iload 4, 2) := by decide +kernel
theorem dX6_kinds_47 : decode cX6_kinds 47 = .ok (.ishl, 1) := by decide +kernel
theorem dX6_kinds_48 : decode cX6_kinds 48 = .ok (.goto 4, 3) := by decide +kernel
theorem dX6_kinds_51 : decode cX6_kinds 51 = .ok (.iconst 0, 1) := by decide +kernel
theorem dX6_kinds_52 : decode cX6_kinds 52 = .ok (.ior, 1) := by decide +kernel
theorem dX6_kinds_53 : decode cX6_kinds 53 = .ok (.istore_n 3, 1) := by decide +kernel
theorem dX6_kinds_54 : decode cX6_kinds 54 = .ok (.iinc 4 1, 3) := by decide +kernel
theorem dX6_kinds_57 : decode cX6_kinds 57 = .ok (.goto (-35), 3) := by decide +kernel
theorem dX6_kinds_60 : decode cX6_kinds 60 = .ok (.aload_n 0, 1) := by decide +kernel
theorem dX6_kinds_61 : decode cX6_kinds 61 = .ok (.getfield 29, 3) := by decide +kernel
theorem dX6_kinds_64 : decode cX6_kinds 64 = .ok (.iload_n 1, 1) := by decide +kernel
theorem dX6_kinds_65 : decode cX6_kinds 65 = .ok (.iload_n 2, 1) := by decide +kernel
theorem dX6_kinds_66 : decode cX6_kinds 66 = .ok (.iastore, 1) := by decide +kernel
theorem dX6_kinds_67 : decode cX6_kinds 67 = .ok (.iload_n 3, 1) := by decide +kernel
theorem dX6_kinds_68 : decode cX6_kinds 68 = .ok (.ireturn, 1) := by decide +kernel
theorem dX6_takens_0 : decode cX6_takens 0 = .ok (.aload_n 0, 1) := by decide +kernel
theorem dX6_takens_1 : decode cX6_takens 1 = .ok (.iload_n 1, 1) := by decide +kernel
theorem dX6_takens_2 : decode cX6_takens 2 = .ok (.invokevirtual 156, 3) := by decide +kernel
theorem dX6_takens_5 : decode cX6_takens 5 = .ok (.ifCond .ne 5, 3) := by decide +kernel
theorem dX6_takens_8 : decode cX6_takens 8 = .ok (.iconst (-1), 1) := by decide +kernel
theorem dX6_takens_9 : decode cX6_takens 9 = .ok (.ireturn, 1) := by decide +kernel
theorem dX6_takens_10 : decode cX6_takens 10 = .ok (.aload_n 0, 1) := by decide +kernel
theorem dX6_takens_11 : decode cX6_takens 11 = .ok (.getfield 35, 3) := by decide +kernel
theorem dX6_takens_14 : decode cX6_takens 14 = .ok (.iload_n 1, 1) := by decide +kernel
theorem dX6_takens_15 : decode cX6_takens 15 = .ok (.iaload, 1) := by decide +kernel
theorem dX6_takens_16 : decode cX6_takens 16 = .ok (.istore_n 2, 1) := by decide +kernel
theorem dX6_takens_17 : decode cX6_takens 17 = .ok (.iconst 0, 1) := by decide +kernel
theorem dX6_takens_18 : decode cX6_takens 18 = .ok (.istore_n 3, 1) := by decide +kernel
theorem dX6_takens_19 : decode cX6_takens 19 = .ok (.iconst 0, 1) := by decide +kernel
theorem dX6_takens_20 : decode cX6_takens 20 = .ok (.istore 4, 2) := by decide +kernel
theorem dX6_takens_22 : decode cX6_takens 22 = .ok (.iload 4, 2) := by decide +kernel
theorem dX6_takens_24 : decode cX6_takens 24 = .ok (.bipush 9, 2) := by decide +kernel
theorem dX6_takens_26 : decode cX6_takens 26 = .ok (.if_icmp .gt 35, 3) := by decide +kernel
theorem dX6_takens_29 : decode cX6_takens 29 = .ok (.aload_n 0, 1) := by decide +kernel
theorem dX6_takens_30 : decode cX6_takens 30 = .ok (.getfield 35, 3) := by decide +kernel
theorem dX6_takens_33 : decode cX6_takens 33 = .ok (.iload_n 1, 1) := by decide +kernel
theorem dX6_takens_34 : decode cX6_takens 34 = .ok (.iload 4, 2) := by decide +kernel
theorem dX6_takens_36 : decode cX6_takens 36 = .ok (.iastore, 1) := by decide +kernel
theorem dX6_takens_37 : decode cX6_takens 37 = .ok (.iload_n 3, 1) := by decide +kernel
theorem dX6_takens_38 : decode cX6_takens 38 = .ok (.aload_n 0, 1) := by decide +kernel
theorem dX6_takens_39 : decode cX6_takens 39 = .ok (.invokevirtual 235, 3) := by decide +kernel
theorem dX6_takens_42 : decode cX6_takens 42 = .ok (.ifCond .eq 10, 3) := by decide +kernel
theorem dX6_takens_45 : decode cX6_takens 45 = .ok (.iconst 1, 1) := by decide +kernel
theorem dX6_takens_46 : decode cX6_takens 46 = .ok (.iload 4, 2) := by decide +kernel
theorem dX6_takens_48 : decode cX6_takens 48 = .ok (.ishl, 1) := by decide +kernel
theorem dX6_takens_49 : decode cX6_takens 49 = .ok (.goto 4, 3) := by decide +kernel
theorem dX6_takens_52 : decode cX6_takens 52 = .ok (.iconst 0, 1) := by decide +kernel
theorem dX6_takens_53 : decode cX6_takens 53 = .ok (.ior, 1) := by decide +kernel
theorem dX6_takens_54 : decode cX6_takens 54 = .ok (.istore_n 3, 1) := by decide +kernel
theorem dX6_takens_55 : decode cX6_takens 55 = .ok (.iinc 4 1, 3) := by decide +kernel
theorem dX6_takens_58 : decode cX6_takens 58 = .ok (.goto (-36), 3) := by decide +kernel
theorem dX6_takens_61 : decode cX6_takens 61 = .ok (.aload_n 0, 1) := by decide +kernel
theorem dX6_takens_62 : decode cX6_takens 62 = .ok (.getfield 35, 3) := by decide +kernel
theorem dX6_takens_65 : decode cX6_takens 65 = .ok (.iload_n 1, 1) := by decide +kernel
theorem dX6_takens_66 : decode cX6_takens 66 = .ok (.iload_n 2, 1) := by decide +kernel
theorem dX6_takens_67 : decode cX6_takens 67 = .ok (.iastore, 1) := by decide +kernel
theorem dX6_takens_68 : decode cX6_takens 68 = .ok (.iload_n 3, 1) := by decide +kernel
theorem dX6_takens_69 : decode cX6_takens 69 = .ok (.ireturn, 1) := by decide +kernel
theorem dX6_inLeastTerms_0 : decode cX6_inLeastTerms 0 = .ok (.lload_n 0, 1) := by decide +kernel
theorem dX6_inLeastTerms_1 : decode cX6_inLeastTerms 1 = .ok (.lstore 5, 2) := by decide +kernel
theorem dX6_inLeastTerms_3 : decode cX6_inLeastTerms 3 = .ok (.lload_n 2, 1) := by decide +kernel
theorem dX6_inLeastTerms_4 : decode cX6_inLeastTerms 4 = .ok (.lstore 7, 2) := by decide +kernel
theorem dX6_inLeastTerms_6 : decode cX6_inLeastTerms 6 = .ok (.lload 7, 2) := by decide +kernel
theorem dX6_inLeastTerms_8 : decode cX6_inLeastTerms 8 = .ok (.lconst 0, 1) := by decide +kernel
theorem dX6_inLeastTerms_9 : decode cX6_inLeastTerms 9 = .ok (.lcmp, 1) := by decide +kernel
theorem dX6_inLeastTerms_10 : decode cX6_inLeastTerms 10 = .ok (.ifCond .eq 21, 3) := by decide +kernel
theorem dX6_inLeastTerms_13 : decode cX6_inLeastTerms 13 = .ok (.lload 5, 2) := by decide +kernel
theorem dX6_inLeastTerms_15 : decode cX6_inLeastTerms 15 = .ok (.lload 7, 2) := by decide +kernel
theorem dX6_inLeastTerms_17 : decode cX6_inLeastTerms 17 = .ok (.lrem, 1) := by decide +kernel
theorem dX6_inLeastTerms_18 : decode cX6_inLeastTerms 18 = .ok (.lstore 9, 2) := by decide +kernel
theorem dX6_inLeastTerms_20 : decode cX6_inLeastTerms 20 = .ok (.lload 7, 2) := by decide +kernel
theorem dX6_inLeastTerms_22 : decode cX6_inLeastTerms 22 = .ok (.lstore 5, 2) := by decide +kernel
theorem dX6_inLeastTerms_24 : decode cX6_inLeastTerms 24 = .ok (.lload 9, 2) := by decide +kernel
theorem dX6_inLeastTerms_26 : decode cX6_inLeastTerms 26 = .ok (.lstore 7, 2) := by decide +kernel
theorem dX6_inLeastTerms_28 : decode cX6_inLeastTerms 28 = .ok (.goto (-22), 3) := by decide +kernel
theorem dX6_inLeastTerms_31 : decode cX6_inLeastTerms 31 = .ok (.iload 4, 2) := by decide +kernel
theorem dX6_inLeastTerms_33 : decode cX6_inLeastTerms 33 = .ok (.ifCond .ne 10, 3) := by decide +kernel
theorem dX6_inLeastTerms_36 : decode cX6_inLeastTerms 36 = .ok (.lload_n 0, 1) := by decide +kernel
theorem dX6_inLeastTerms_37 : decode cX6_inLeastTerms 37 = .ok (.lload 5, 2) := by decide +kernel
theorem dX6_inLeastTerms_39 : decode cX6_inLeastTerms 39 = .ok (.ldiv, 1) := by decide +kernel
theorem dX6_inLeastTerms_40 : decode cX6_inLeastTerms 40 = .ok (.goto 7, 3) := by decide +kernel
theorem dX6_inLeastTerms_43 : decode cX6_inLeastTerms 43 = .ok (.lload_n 2, 1) := by decide +kernel
theorem dX6_inLeastTerms_44 : decode cX6_inLeastTerms 44 = .ok (.lload 5, 2) := by decide +kernel
theorem dX6_inLeastTerms_46 : decode cX6_inLeastTerms 46 = .ok (.ldiv, 1) := by decide +kernel
theorem dX6_inLeastTerms_47 : decode cX6_inLeastTerms 47 = .ok (.lreturn, 1) := by decide +kernel
theorem dX6_odds_0 : decode cX6_odds 0 = .ok (.aload_n 0, 1) := by decide +kernel
theorem dX6_odds_1 : decode cX6_odds 1 = .ok (.iload_n 1, 1) := by decide +kernel
theorem dX6_odds_2 : decode cX6_odds 2 = .ok (.invokevirtual 159, 3) := by decide +kernel
theorem dX6_odds_5 : decode cX6_odds 5 = .ok (.ifCond .eq 22, 3) := by decide +kernel
theorem dX6_odds_8 : decode cX6_odds 8 = .ok (.iload_n 2, 1) := by decide +kernel
theorem dX6_odds_9 : decode cX6_odds 9 = .ok (.iconst 0, 1) := by decide +kernel
theorem dX6_odds_10 : decode cX6_odds 10 = .ok (.bipush 99, 2) := by decide +kernel
theorem dX6_odds_12 : decode cX6_odds 12 = .ok (.invokestatic 86, 3) := by decide +kernel
theorem dX6_odds_15 : decode cX6_odds 15 = .ok (.ifCond .eq 12, 3) := by decide +kernel
theorem dX6_odds_18 : decode cX6_odds 18 = .ok (.iload_n 3, 1) := by decide +kernel
theorem dX6_odds_19 : decode cX6_odds 19 = .ok (.iconst 0, 1) := by decide +kernel
theorem dX6_odds_20 : decode cX6_odds 20 = .ok (.iconst 1, 1) := by decide +kernel
theorem dX6_odds_21 : decode cX6_odds 21 = .ok (.invokestatic 86, 3) := by decide +kernel
theorem dX6_odds_24 : decode cX6_odds 24 = .ok (.ifCond .ne 7, 3) := by decide +kernel
theorem dX6_odds_27 : decode cX6_odds 27 = .ok (.ldc2_w 84, 3) := by decide +kernel
theorem dX6_odds_30 : decode cX6_odds 30 = .ok (.lreturn, 1) := by decide +kernel
theorem dX6_odds_31 : decode cX6_odds 31 = .ok (.aload_n 0, 1) := by decide +kernel
theorem dX6_odds_32 : decode cX6_odds 32 = .ok (.iload_n 1, 1) := by decide +kernel
theorem dX6_odds_33 : decode cX6_odds 33 = .ok (.invokevirtual 162, 3) := by decide +kernel
theorem dX6_odds_36 : decode cX6_odds 36 = .ok (.istore 4, 2) := by decide +kernel
theorem dX6_odds_38 : decode cX6_odds 38 = .ok (.iconst 0, 1) := by decide +kernel
theorem dX6_odds_39 : decode cX6_odds 39 = .ok (.istore 5, 2) := by decide +kernel
theorem dX6_odds_41 : decode cX6_odds 41 = .ok (.iconst 0, 1) := by decide +kernel
theorem dX6_odds_42 : decode cX6_odds 42 = .ok (.istore 6, 2) := by decide +kernel
theorem dX6_odds_44 : decode cX6_odds 44 = .ok (.iconst 0, 1) := by decide +kernel
theorem dX6_odds_45 : decode cX6_odds 45 = .ok (.istore 7, 2) := by decide +kernel
theorem dX6_odds_47 : decode cX6_odds 47 = .ok (.iload 7, 2) := by decide +kernel
theorem dX6_odds_49 : decode cX6_odds 49 = .ok (.iconst 1, 1) := by decide +kernel
theorem dX6_odds_50 : decode cX6_odds 50 = .ok (.aload_n 0, 1) := by decide +kernel
theorem dX6_odds_51 : decode cX6_odds 51 = .ok (.getfield 93, 3) := by decide +kernel
theorem dX6_odds_54 : decode cX6_odds 54 = .ok (.ishl, 1) := by decide +kernel
theorem dX6_odds_55 : decode cX6_odds 55 = .ok (.if_icmp .ge 43, 3) := by decide +kernel
theorem dX6_odds_58 : decode cX6_odds 58 = .ok (.iload 7, 2) := by decide +kernel
theorem dX6_odds_60 : decode cX6_odds 60 = .ok (.iload 4, 2) := by decide +kernel
theorem dX6_odds_62 : decode cX6_odds 62 = .ok (.iconst (-1), 1) := by decide +kernel
theorem dX6_odds_63 : decode cX6_odds 63 = .ok (.ixor, 1) := by decide +kernel
theorem dX6_odds_64 : decode cX6_odds 64 = .ok (.iand, 1) := by decide +kernel
theorem dX6_odds_65 : decode cX6_odds 65 = .ok (.ifCond .ne 27, 3) := by decide +kernel
theorem dX6_odds_68 : decode cX6_odds 68 = .ok (.iinc 6 1, 3) := by decide +kernel
theorem dX6_odds_71 : decode cX6_odds 71 = .ok (.iload 5, 2) := by decide +kernel
theorem dX6_odds_73 : decode cX6_odds 73 = .ok (.aload_n 0, 1) := by decide +kernel
theorem dX6_odds_74 : decode cX6_odds 74 = .ok (.iload_n 1, 1) := by decide +kernel
theorem dX6_odds_75 : decode cX6_odds 75 = .ok (.iload 7, 2) := by decide +kernel
theorem dX6_odds_77 : decode cX6_odds 77 = .ok (.invokevirtual 207, 3) := by decide +kernel
theorem dX6_odds_80 : decode cX6_odds 80 = .ok (.iload_n 2, 1) := by decide +kernel
theorem dX6_odds_81 : decode cX6_odds 81 = .ok (.if_icmp .lt 7, 3) := by decide +kernel
theorem dX6_odds_84 : decode cX6_odds 84 = .ok (.iconst 1, 1) := by decide +kernel
theorem dX6_odds_85 : decode cX6_odds 85 = .ok (.goto 4, 3) := by decide +kernel
theorem dX6_odds_88 : decode cX6_odds 88 = .ok (.iconst 0, 1) := by decide +kernel
theorem dX6_odds_89 : decode cX6_odds 89 = .ok (.iadd, 1) := by decide +kernel
theorem dX6_odds_90 : decode cX6_odds 90 = .ok (.istore 5, 2) := by decide +kernel
theorem dX6_odds_92 : decode cX6_odds 92 = .ok (.iinc 7 1, 3) := by decide +kernel
theorem dX6_odds_95 : decode cX6_odds 95 = .ok (.goto (-48), 3) := by decide +kernel
theorem dX6_odds_98 : decode cX6_odds 98 = .ok (.iload 5, 2) := by decide +kernel
theorem dX6_odds_100 : decode cX6_odds 100 = .ok (.i2l, 1) := by decide +kernel
theorem dX6_odds_101 : decode cX6_odds 101 = .ok (.iload 6, 2) := by decide +kernel
theorem dX6_odds_103 : decode cX6_odds 103 = .ok (.i2l, 1) := by decide +kernel
theorem dX6_odds_104 : decode cX6_odds 104 = .ok (.iload_n 3, 1) := by decide +kernel
theorem dX6_odds_105 : decode cX6_odds 105 = .ok (.invokestatic 239, 3) := by decide +kernel
theorem dX6_odds_108 : decode cX6_odds 108 = .ok (.lreturn, 1) := by decide +kernel
theorem dX6_sheet_0 : decode cX6_sheet 0 = .ok (.aload_n 0, 1) := by decide +kernel
theorem dX6_sheet_1 : decode cX6_sheet 1 = .ok (.iconst 0, 1) := by decide +kernel
theorem dX6_sheet_2 : decode cX6_sheet 2 = .ok (.putfield 80, 3) := by decide +kernel
theorem dX6_sheet_5 : decode cX6_sheet 5 = .ok (.iload_n 1, 1) := by decide +kernel
theorem dX6_sheet_6 : decode cX6_sheet 6 = .ok (.invokestatic 99, 3) := by decide +kernel
theorem dX6_sheet_9 : decode cX6_sheet 9 = .ok (.ifCond .ne 5, 3) := by decide +kernel
theorem dX6_sheet_12 : decode cX6_sheet 12 = .ok (.iconst (-1), 1) := by decide +kernel
theorem dX6_sheet_13 : decode cX6_sheet 13 = .ok (.ireturn, 1) := by decide +kernel
theorem dX6_sheet_14 : decode cX6_sheet 14 = .ok (.iload_n 2, 1) := by decide +kernel
theorem dX6_sheet_15 : decode cX6_sheet 15 = .ok (.invokestatic 103, 3) := by decide +kernel
theorem dX6_sheet_18 : decode cX6_sheet 18 = .ok (.ifCond .eq 9, 3) := by decide +kernel
theorem dX6_sheet_21 : decode cX6_sheet 21 = .ok (.iload_n 3, 1) := by decide +kernel
theorem dX6_sheet_22 : decode cX6_sheet 22 = .ok (.bipush 60, 2) := by decide +kernel
theorem dX6_sheet_24 : decode cX6_sheet 24 = .ok (.if_icmp .le 6, 3) := by decide +kernel
theorem dX6_sheet_27 : decode cX6_sheet 27 = .ok (.bipush (-2), 2) := by decide +kernel
theorem dX6_sheet_29 : decode cX6_sheet 29 = .ok (.ireturn, 1) := by decide +kernel
theorem dX6_sheet_30 : decode cX6_sheet 30 = .ok (.iload_n 3, 1) := by decide +kernel
theorem dX6_sheet_31 : decode cX6_sheet 31 = .ok (.ifCond .ge 9, 3) := by decide +kernel
theorem dX6_sheet_34 : decode cX6_sheet 34 = .ok (.aload_n 0, 1) := by decide +kernel
theorem dX6_sheet_35 : decode cX6_sheet 35 = .ok (.iconst 4, 1) := by decide +kernel
theorem dX6_sheet_36 : decode cX6_sheet 36 = .ok (.invokevirtual 110, 3) := by decide +kernel
theorem dX6_sheet_39 : decode cX6_sheet 39 = .ok (.ireturn, 1) := by decide +kernel
theorem dX6_sheet_40 : decode cX6_sheet 40 = .ok (.aload_n 0, 1) := by decide +kernel
theorem dX6_sheet_41 : decode cX6_sheet 41 = .ok (.getfield 9, 3) := by decide +kernel
theorem dX6_sheet_44 : decode cX6_sheet 44 = .ok (.iload_n 1, 1) := by decide +kernel
theorem dX6_sheet_45 : decode cX6_sheet 45 = .ok (.iload_n 2, 1) := by decide +kernel
theorem dX6_sheet_46 : decode cX6_sheet 46 = .ok (.iastore, 1) := by decide +kernel
theorem dX6_sheet_47 : decode cX6_sheet 47 = .ok (.aload_n 0, 1) := by decide +kernel
theorem dX6_sheet_48 : decode cX6_sheet 48 = .ok (.getfield 13, 3) := by decide +kernel
theorem dX6_sheet_51 : decode cX6_sheet 51 = .ok (.iload_n 1, 1) := by decide +kernel
theorem dX6_sheet_52 : decode cX6_sheet 52 = .ok (.iload_n 3, 1) := by decide +kernel
theorem dX6_sheet_53 : decode cX6_sheet 53 = .ok (.iastore, 1) := by decide +kernel
theorem dX6_sheet_54 : decode cX6_sheet 54 = .ok (.iconst 0, 1) := by decide +kernel
theorem dX6_sheet_55 : decode cX6_sheet 55 = .ok (.istore 4, 2) := by decide +kernel
theorem dX6_sheet_57 : decode cX6_sheet 57 = .ok (.iload 4, 2) := by decide +kernel
theorem dX6_sheet_59 : decode cX6_sheet 59 = .ok (.bipush 60, 2) := by decide +kernel
theorem dX6_sheet_61 : decode cX6_sheet 61 = .ok (.if_icmp .ge 22, 3) := by decide +kernel
theorem dX6_sheet_64 : decode cX6_sheet 64 = .ok (.aload_n 0, 1) := by decide +kernel
theorem dX6_sheet_65 : decode cX6_sheet 65 = .ok (.getfield 16, 3) := by decide +kernel
theorem dX6_sheet_68 : decode cX6_sheet 68 = .ok (.bipush 60, 2) := by decide +kernel
theorem dX6_sheet_70 : decode cX6_sheet 70 = .ok (.iload_n 1, 1) := by decide +kernel
theorem dX6_sheet_71 : decode cX6_sheet 71 = .ok (.imul, 1) := by decide +kernel
theorem dX6_sheet_72 : decode cX6_sheet 72 = .ok (.iload 4, 2) := by decide +kernel
theorem dX6_sheet_74 : decode cX6_sheet 74 = .ok (.iadd, 1) := by decide +kernel
theorem dX6_sheet_75 : decode cX6_sheet 75 = .ok (.iconst 0, 1) := by decide +kernel
theorem dX6_sheet_76 : decode cX6_sheet 76 = .ok (.iastore, 1) := by decide +kernel
theorem dX6_sheet_77 : decode cX6_sheet 77 = .ok (.iinc 4 1, 3) := by decide +kernel
theorem dX6_sheet_80 : decode cX6_sheet 80 = .ok (.goto (-23), 3) := by decide +kernel
theorem dX6_sheet_83 : decode cX6_sheet 83 = .ok (.iconst 1, 1) := by decide +kernel
theorem dX6_sheet_84 : decode cX6_sheet 84 = .ok (.ireturn, 1) := by decide +kernel
theorem dX6_lose_0 : decode cX6_lose 0 = .ok (.iload_n 1, 1) := by decide +kernel
theorem dX6_lose_1 : decode cX6_lose 1 = .ok (.invokestatic 99, 3) := by decide +kernel
theorem dX6_lose_4 : decode cX6_lose 4 = .ok (.ifCond .ne 5, 3) := by decide +kernel
theorem dX6_lose_7 : decode cX6_lose 7 = .ok (.iconst (-1), 1) := by decide +kernel
theorem dX6_lose_8 : decode cX6_lose 8 = .ok (.ireturn, 1) := by decide +kernel
theorem dX6_lose_9 : decode cX6_lose 9 = .ok (.aload_n 0, 1) := by decide +kernel
theorem dX6_lose_10 : decode cX6_lose 10 = .ok (.getfield 9, 3) := by decide +kernel
theorem dX6_lose_13 : decode cX6_lose 13 = .ok (.iload_n 1, 1) := by decide +kernel
theorem dX6_lose_14 : decode cX6_lose 14 = .ok (.iaload, 1) := by decide +kernel
theorem dX6_lose_15 : decode cX6_lose 15 = .ok (.bipush (-9), 2) := by decide +kernel
theorem dX6_lose_17 : decode cX6_lose 17 = .ok (.if_icmp .ne 7, 3) := by decide +kernel
theorem dX6_lose_20 : decode cX6_lose 20 = .ok (.iconst 0, 1) := by decide +kernel
theorem dX6_lose_21 : decode cX6_lose 21 = .ok (.goto 4, 3) := by decide +kernel
theorem dX6_lose_24 : decode cX6_lose 24 = .ok (.iconst 1, 1) := by decide +kernel
theorem dX6_lose_25 : decode cX6_lose 25 = .ok (.istore_n 2, 1) := by decide +kernel
theorem dX6_lose_26 : decode cX6_lose 26 = .ok (.aload_n 0, 1) := by decide +kernel
theorem dX6_lose_27 : decode cX6_lose 27 = .ok (.getfield 9, 3) := by decide +kernel
theorem dX6_lose_30 : decode cX6_lose 30 = .ok (.iload_n 1, 1) := by decide +kernel
theorem dX6_lose_31 : decode cX6_lose 31 = .ok (.bipush (-9), 2) := by decide +kernel
theorem dX6_lose_33 : decode cX6_lose 33 = .ok (.iastore, 1) := by decide +kernel
theorem dX6_lose_34 : decode cX6_lose 34 = .ok (.iload_n 2, 1) := by decide +kernel
theorem dX6_lose_35 : decode cX6_lose 35 = .ok (.ireturn, 1) := by decide +kernel
theorem dX6_put_0 : decode cX6_put 0 = .ok (.aload_n 0, 1) := by decide +kernel
theorem dX6_put_1 : decode cX6_put 1 = .ok (.iconst 0, 1) := by decide +kernel
theorem dX6_put_2 : decode cX6_put 2 = .ok (.putfield 80, 3) := by decide +kernel
theorem dX6_put_5 : decode cX6_put 5 = .ok (.iload_n 1, 1) := by decide +kernel
theorem dX6_put_6 : decode cX6_put 6 = .ok (.invokestatic 99, 3) := by decide +kernel
theorem dX6_put_9 : decode cX6_put 9 = .ok (.ifCond .ne 5, 3) := by decide +kernel
theorem dX6_put_12 : decode cX6_put 12 = .ok (.iconst (-1), 1) := by decide +kernel
theorem dX6_put_13 : decode cX6_put 13 = .ok (.ireturn, 1) := by decide +kernel
theorem dX6_put_14 : decode cX6_put 14 = .ok (.aload_n 0, 1) := by decide +kernel
theorem dX6_put_15 : decode cX6_put 15 = .ok (.getfield 9, 3) := by decide +kernel
theorem dX6_put_18 : decode cX6_put 18 = .ok (.iload_n 1, 1) := by decide +kernel
theorem dX6_put_19 : decode cX6_put 19 = .ok (.iaload, 1) := by decide +kernel
theorem dX6_put_20 : decode cX6_put 20 = .ok (.bipush (-9), 2) := by decide +kernel
theorem dX6_put_22 : decode cX6_put 22 = .ok (.if_icmp .ne 9, 3) := by decide +kernel
theorem dX6_put_25 : decode cX6_put 25 = .ok (.aload_n 0, 1) := by decide +kernel
theorem dX6_put_26 : decode cX6_put 26 = .ok (.iconst 1, 1) := by decide +kernel
theorem dX6_put_27 : decode cX6_put 27 = .ok (.invokevirtual 110, 3) := by decide +kernel
theorem dX6_put_30 : decode cX6_put 30 = .ok (.ireturn, 1) := by decide +kernel
theorem dX6_put_31 : decode cX6_put 31 = .ok (.iload_n 2, 1) := by decide +kernel
theorem dX6_put_32 : decode cX6_put 32 = .ok (.iconst 0, 1) := by decide +kernel
theorem dX6_put_33 : decode cX6_put 33 = .ok (.aload_n 0, 1) := by decide +kernel
theorem dX6_put_34 : decode cX6_put 34 = .ok (.getfield 13, 3) := by decide +kernel
theorem dX6_put_37 : decode cX6_put 37 = .ok (.iload_n 1, 1) := by decide +kernel
theorem dX6_put_38 : decode cX6_put 38 = .ok (.iaload, 1) := by decide +kernel
theorem dX6_put_39 : decode cX6_put 39 = .ok (.iconst 1, 1) := by decide +kernel
theorem dX6_put_40 : decode cX6_put 40 = .ok (.isub, 1) := by decide +kernel
theorem dX6_put_41 : decode cX6_put 41 = .ok (.invokestatic 86, 3) := by decide +kernel
theorem dX6_put_44 : decode cX6_put 44 = .ok (.ifCond .ne 9, 3) := by decide +kernel
theorem dX6_put_47 : decode cX6_put 47 = .ok (.aload_n 0, 1) := by decide +kernel
theorem dX6_put_48 : decode cX6_put 48 = .ok (.iconst 3, 1) := by decide +kernel
theorem dX6_put_49 : decode cX6_put 49 = .ok (.invokevirtual 110, 3) := by decide +kernel
theorem dX6_put_52 : decode cX6_put 52 = .ok (.ireturn, 1) := by decide +kernel
theorem dX6_put_53 : decode cX6_put 53 = .ok (.aload_n 0, 1) := by decide +kernel
theorem dX6_put_54 : decode cX6_put 54 = .ok (.getfield 16, 3) := by decide +kernel
theorem dX6_put_57 : decode cX6_put 57 = .ok (.bipush 60, 2) := by decide +kernel
theorem dX6_put_59 : decode cX6_put 59 = .ok (.iload_n 1, 1) := by decide +kernel
theorem dX6_put_60 : decode cX6_put 60 = .ok (.imul, 1) := by decide +kernel
theorem dX6_put_61 : decode cX6_put 61 = .ok (.iload_n 2, 1) := by decide +kernel
theorem dX6_put_62 : decode cX6_put 62 = .ok (.iadd, 1) := by decide +kernel
theorem dX6_put_63 : decode cX6_put 63 = .ok (.aload_n 0, 1) := by decide +kernel
theorem dX6_put_64 : decode cX6_put 64 = .ok (.getfield 9, 3) := by decide +kernel
theorem dX6_put_67 : decode cX6_put 67 = .ok (.iload_n 1, 1) := by decide +kernel
theorem dX6_put_68 : decode cX6_put 68 = .ok (.iaload, 1) := by decide +kernel
theorem dX6_put_69 : decode cX6_put 69 = .ok (.ifCond .ne 8, 3) := by decide +kernel
theorem dX6_put_72 : decode cX6_put 72 = .ok (.iload_n 3, 1) := by decide +kernel
theorem dX6_put_73 : decode cX6_put 73 = .ok (.i2b, 1) := by decide +kernel
theorem dX6_put_74 : decode cX6_put 74 = .ok (.goto 19, 3) := by decide +kernel
theorem dX6_put_77 : decode cX6_put 77 = .ok (.aload_n 0, 1) := by decide +kernel
theorem dX6_put_78 : decode cX6_put 78 = .ok (.getfield 9, 3) := by decide +kernel
theorem dX6_put_81 : decode cX6_put 81 = .ok (.iload_n 1, 1) := by decide +kernel
theorem dX6_put_82 : decode cX6_put 82 = .ok (.iaload, 1) := by decide +kernel
theorem dX6_put_83 : decode cX6_put 83 = .ok (.iconst 1, 1) := by decide +kernel
theorem dX6_put_84 : decode cX6_put 84 = .ok (.if_icmp .ne 8, 3) := by decide +kernel
theorem dX6_put_87 : decode cX6_put 87 = .ok (.iload_n 3, 1) := by decide +kernel
theorem dX6_put_88 : decode cX6_put 88 = .ok (.i2s, 1) := by decide +kernel
theorem dX6_put_89 : decode cX6_put 89 = .ok (.goto 4, 3) := by decide +kernel
theorem dX6_put_92 : decode cX6_put 92 = .ok (.iload_n 3, 1) := by decide +kernel
theorem dX6_put_93 : decode cX6_put 93 = .ok (.iastore, 1) := by decide +kernel
theorem dX6_put_94 : decode cX6_put 94 = .ok (.iconst 1, 1) := by decide +kernel
theorem dX6_put_95 : decode cX6_put 95 = .ok (.ireturn, 1) := by decide +kernel
theorem dX6_cell_0 : decode cX6_cell 0 = .ok (.aload_n 0, 1) := by decide +kernel
theorem dX6_cell_1 : decode cX6_cell 1 = .ok (.iconst 0, 1) := by decide +kernel
theorem dX6_cell_2 : decode cX6_cell 2 = .ok (.putfield 80, 3) := by decide +kernel
theorem dX6_cell_5 : decode cX6_cell 5 = .ok (.iload_n 1, 1) := by decide +kernel
theorem dX6_cell_6 : decode cX6_cell 6 = .ok (.invokestatic 99, 3) := by decide +kernel
theorem dX6_cell_9 : decode cX6_cell 9 = .ok (.ifCond .eq 10, 3) := by decide +kernel
theorem dX6_cell_12 : decode cX6_cell 12 = .ok (.iload_n 3, 1) := by decide +kernel
theorem dX6_cell_13 : decode cX6_cell 13 = .ok (.invokestatic 103, 3) := by decide +kernel
theorem dX6_cell_16 : decode cX6_cell 16 = .ok (.ifCond .ne 7, 3) := by decide +kernel
theorem dX6_cell_19 : decode cX6_cell 19 = .ok (.ldc2_w 84, 3) := by decide +kernel
theorem dX6_cell_22 : decode cX6_cell 22 = .ok (.lreturn, 1) := by decide +kernel
theorem dX6_cell_23 : decode cX6_cell 23 = .ok (.aload_n 0, 1) := by decide +kernel
theorem dX6_cell_24 : decode cX6_cell 24 = .ok (.getfield 9, 3) := by decide +kernel
theorem dX6_cell_27 : decode cX6_cell 27 = .ok (.iload_n 1, 1) := by decide +kernel
theorem dX6_cell_28 : decode cX6_cell 28 = .ok (.iaload, 1) := by decide +kernel
theorem dX6_cell_29 : decode cX6_cell 29 = .ok (.bipush (-9), 2) := by decide +kernel
theorem dX6_cell_31 : decode cX6_cell 31 = .ok (.if_icmp .eq 19, 3) := by decide +kernel
theorem dX6_cell_34 : decode cX6_cell 34 = .ok (.aload_n 0, 1) := by decide +kernel
theorem dX6_cell_35 : decode cX6_cell 35 = .ok (.getfield 9, 3) := by decide +kernel
theorem dX6_cell_38 : decode cX6_cell 38 = .ok (.iload_n 1, 1) := by decide +kernel
theorem dX6_cell_39 : decode cX6_cell 39 = .ok (.iaload, 1) := by decide +kernel
theorem dX6_cell_40 : decode cX6_cell 40 = .ok (.iload_n 3, 1) := by decide +kernel
theorem dX6_cell_41 : decode cX6_cell 41 = .ok (.if_icmp .eq 9, 3) := by decide +kernel
theorem dX6_cell_44 : decode cX6_cell 44 = .ok (.aload_n 0, 1) := by decide +kernel
theorem dX6_cell_45 : decode cX6_cell 45 = .ok (.iconst 2, 1) := by decide +kernel
theorem dX6_cell_46 : decode cX6_cell 46 = .ok (.invokevirtual 243, 3) := by decide +kernel
theorem dX6_cell_49 : decode cX6_cell 49 = .ok (.lreturn, 1) := by decide +kernel
theorem dX6_cell_50 : decode cX6_cell 50 = .ok (.aload_n 0, 1) := by decide +kernel
theorem dX6_cell_51 : decode cX6_cell 51 = .ok (.getfield 9, 3) := by decide +kernel
theorem dX6_cell_54 : decode cX6_cell 54 = .ok (.iload_n 1, 1) := by decide +kernel
theorem dX6_cell_55 : decode cX6_cell 55 = .ok (.iaload, 1) := by decide +kernel
theorem dX6_cell_56 : decode cX6_cell 56 = .ok (.bipush (-9), 2) := by decide +kernel
theorem dX6_cell_58 : decode cX6_cell 58 = .ok (.if_icmp .ne 9, 3) := by decide +kernel
theorem dX6_cell_61 : decode cX6_cell 61 = .ok (.aload_n 0, 1) := by decide +kernel
theorem dX6_cell_62 : decode cX6_cell 62 = .ok (.iconst 1, 1) := by decide +kernel
theorem dX6_cell_63 : decode cX6_cell 63 = .ok (.invokevirtual 243, 3) := by decide +kernel
theorem dX6_cell_66 : decode cX6_cell 66 = .ok (.lreturn, 1) := by decide +kernel
theorem dX6_cell_67 : decode cX6_cell 67 = .ok (.iload_n 2, 1) := by decide +kernel
theorem dX6_cell_68 : decode cX6_cell 68 = .ok (.iconst 0, 1) := by decide +kernel
theorem dX6_cell_69 : decode cX6_cell 69 = .ok (.aload_n 0, 1) := by decide +kernel
theorem dX6_cell_70 : decode cX6_cell 70 = .ok (.getfield 13, 3) := by decide +kernel
theorem dX6_cell_73 : decode cX6_cell 73 = .ok (.iload_n 1, 1) := by decide +kernel
theorem dX6_cell_74 : decode cX6_cell 74 = .ok (.iaload, 1) := by decide +kernel
theorem dX6_cell_75 : decode cX6_cell 75 = .ok (.iconst 1, 1) := by decide +kernel
theorem dX6_cell_76 : decode cX6_cell 76 = .ok (.isub, 1) := by decide +kernel
theorem dX6_cell_77 : decode cX6_cell 77 = .ok (.invokestatic 86, 3) := by decide +kernel
theorem dX6_cell_80 : decode cX6_cell 80 = .ok (.ifCond .ne 9, 3) := by decide +kernel
theorem dX6_cell_83 : decode cX6_cell 83 = .ok (.aload_n 0, 1) := by decide +kernel
theorem dX6_cell_84 : decode cX6_cell 84 = .ok (.iconst 3, 1) := by decide +kernel
theorem dX6_cell_85 : decode cX6_cell 85 = .ok (.invokevirtual 243, 3) := by decide +kernel
theorem dX6_cell_88 : decode cX6_cell 88 = .ok (.lreturn, 1) := by decide +kernel
theorem dX6_cell_89 : decode cX6_cell 89 = .ok (.aload_n 0, 1) := by decide +kernel
theorem dX6_cell_90 : decode cX6_cell 90 = .ok (.getfield 16, 3) := by decide +kernel
theorem dX6_cell_93 : decode cX6_cell 93 = .ok (.bipush 60, 2) := by decide +kernel
theorem dX6_cell_95 : decode cX6_cell 95 = .ok (.iload_n 1, 1) := by decide +kernel
theorem dX6_cell_96 : decode cX6_cell 96 = .ok (.imul, 1) := by decide +kernel
theorem dX6_cell_97 : decode cX6_cell 97 = .ok (.iload_n 2, 1) := by decide +kernel
theorem dX6_cell_98 : decode cX6_cell 98 = .ok (.iadd, 1) := by decide +kernel
theorem dX6_cell_99 : decode cX6_cell 99 = .ok (.iaload, 1) := by decide +kernel
theorem dX6_cell_100 : decode cX6_cell 100 = .ok (.i2l, 1) := by decide +kernel
theorem dX6_cell_101 : decode cX6_cell 101 = .ok (.lreturn, 1) := by decide +kernel
theorem dX6_copy_0 : decode cX6_copy 0 = .ok (.aload_n 0, 1) := by decide +kernel
theorem dX6_copy_1 : decode cX6_copy 1 = .ok (.iconst 0, 1) := by decide +kernel
theorem dX6_copy_2 : decode cX6_copy 2 = .ok (.putfield 80, 3) := by decide +kernel
theorem dX6_copy_5 : decode cX6_copy 5 = .ok (.iload_n 1, 1) := by decide +kernel
theorem dX6_copy_6 : decode cX6_copy 6 = .ok (.invokestatic 99, 3) := by decide +kernel
theorem dX6_copy_9 : decode cX6_copy 9 = .ok (.ifCond .eq 10, 3) := by decide +kernel
theorem dX6_copy_12 : decode cX6_copy 12 = .ok (.iload_n 3, 1) := by decide +kernel
theorem dX6_copy_13 : decode cX6_copy 13 = .ok (.invokestatic 99, 3) := by decide +kernel
theorem dX6_copy_16 : decode cX6_copy 16 = .ok (.ifCond .ne 5, 3) := by decide +kernel
theorem dX6_copy_19 : decode cX6_copy 19 = .ok (.iconst (-1), 1) := by decide +kernel
theorem dX6_copy_20 : decode cX6_copy 20 = .ok (.ireturn, 1) := by decide +kernel
theorem dX6_copy_21 : decode cX6_copy 21 = .ok (.aload_n 0, 1) := by decide +kernel
theorem dX6_copy_22 : decode cX6_copy 22 = .ok (.getfield 9, 3) := by decide +kernel
theorem dX6_copy_25 : decode cX6_copy 25 = .ok (.iload_n 1, 1) := by decide +kernel
theorem dX6_copy_26 : decode cX6_copy 26 = .ok (.iaload, 1) := by decide +kernel
theorem dX6_copy_27 : decode cX6_copy 27 = .ok (.bipush (-9), 2) := by decide +kernel
theorem dX6_copy_29 : decode cX6_copy 29 = .ok (.if_icmp .eq 14, 3) := by decide +kernel
theorem dX6_copy_32 : decode cX6_copy 32 = .ok (.aload_n 0, 1) := by decide +kernel
theorem dX6_copy_33 : decode cX6_copy 33 = .ok (.getfield 9, 3) := by decide +kernel
theorem dX6_copy_36 : decode cX6_copy 36 = .ok (.iload_n 3, 1) := by decide +kernel
theorem dX6_copy_37 : decode cX6_copy 37 = .ok (.iaload, 1) := by decide +kernel
theorem dX6_copy_38 : decode cX6_copy 38 = .ok (.bipush (-9), 2) := by decide +kernel
theorem dX6_copy_40 : decode cX6_copy 40 = .ok (.if_icmp .ne 9, 3) := by decide +kernel
theorem dX6_copy_43 : decode cX6_copy 43 = .ok (.aload_n 0, 1) := by decide +kernel
theorem dX6_copy_44 : decode cX6_copy 44 = .ok (.iconst 1, 1) := by decide +kernel
theorem dX6_copy_45 : decode cX6_copy 45 = .ok (.invokevirtual 110, 3) := by decide +kernel
theorem dX6_copy_48 : decode cX6_copy 48 = .ok (.ireturn, 1) := by decide +kernel
theorem dX6_copy_49 : decode cX6_copy 49 = .ok (.aload_n 0, 1) := by decide +kernel
theorem dX6_copy_50 : decode cX6_copy 50 = .ok (.getfield 9, 3) := by decide +kernel
theorem dX6_copy_53 : decode cX6_copy 53 = .ok (.iload_n 1, 1) := by decide +kernel
theorem dX6_copy_54 : decode cX6_copy 54 = .ok (.iaload, 1) := by decide +kernel
theorem dX6_copy_55 : decode cX6_copy 55 = .ok (.aload_n 0, 1) := by decide +kernel
theorem dX6_copy_56 : decode cX6_copy 56 = .ok (.getfield 9, 3) := by decide +kernel
theorem dX6_copy_59 : decode cX6_copy 59 = .ok (.iload_n 3, 1) := by decide +kernel
theorem dX6_copy_60 : decode cX6_copy 60 = .ok (.iaload, 1) := by decide +kernel
theorem dX6_copy_61 : decode cX6_copy 61 = .ok (.if_icmp .eq 9, 3) := by decide +kernel
theorem dX6_copy_64 : decode cX6_copy 64 = .ok (.aload_n 0, 1) := by decide +kernel
theorem dX6_copy_65 : decode cX6_copy 65 = .ok (.iconst 2, 1) := by decide +kernel
theorem dX6_copy_66 : decode cX6_copy 66 = .ok (.invokevirtual 110, 3) := by decide +kernel
theorem dX6_copy_69 : decode cX6_copy 69 = .ok (.ireturn, 1) := by decide +kernel
theorem dX6_copy_70 : decode cX6_copy 70 = .ok (.iload_n 2, 1) := by decide +kernel
theorem dX6_copy_71 : decode cX6_copy 71 = .ok (.ifCond .lt 38, 3) := by decide +kernel
theorem dX6_copy_74 : decode cX6_copy 74 = .ok (.iload 4, 2) := by decide +kernel
theorem dX6_copy_76 : decode cX6_copy 76 = .ok (.ifCond .lt 33, 3) := by decide +kernel
theorem dX6_copy_79 : decode cX6_copy 79 = .ok (.iload 5, 2) := by decide +kernel
theorem dX6_copy_81 : decode cX6_copy 81 = .ok (.ifCond .lt 28, 3) := by decide +kernel
theorem dX6_copy_84 : decode cX6_copy 84 = .ok (.iload_n 2, 1) := by decide +kernel
theorem dX6_copy_85 : decode cX6_copy 85 = .ok (.aload_n 0, 1) := by decide +kernel
theorem dX6_copy_86 : decode cX6_copy 86 = .ok (.getfield 13, 3) := by decide +kernel
theorem dX6_copy_89 : decode cX6_copy 89 = .ok (.iload_n 1, 1) := by decide +kernel
theorem dX6_copy_90 : decode cX6_copy 90 = .ok (.iaload, 1) := by decide +kernel
theorem dX6_copy_91 : decode cX6_copy 91 = .ok (.if_icmp .gt 18, 3) := by decide +kernel
theorem dX6_copy_94 : decode cX6_copy 94 = .ok (.iload 4, 2) := by decide +kernel
theorem dX6_copy_96 : decode cX6_copy 96 = .ok (.aload_n 0, 1) := by decide +kernel
theorem dX6_copy_97 : decode cX6_copy 97 = .ok (.getfield 13, 3) := by decide +kernel
theorem dX6_copy_100 : decode cX6_copy 100 = .ok (.iload_n 3, 1) := by decide +kernel
theorem dX6_copy_101 : decode cX6_copy 101 = .ok (.iaload, 1) := by decide +kernel
theorem dX6_copy_102 : decode cX6_copy 102 = .ok (.if_icmp .gt 7, 3) := by decide +kernel
theorem dX6_copy_105 : decode cX6_copy 105 = .ok (.iconst 1, 1) := by decide +kernel
theorem dX6_copy_106 : decode cX6_copy 106 = .ok (.goto 4, 3) := by decide +kernel
theorem dX6_copy_109 : decode cX6_copy 109 = .ok (.iconst 0, 1) := by decide +kernel
theorem dX6_copy_110 : decode cX6_copy 110 = .ok (.istore 6, 2) := by decide +kernel
theorem dX6_copy_112 : decode cX6_copy 112 = .ok (.iload 6, 2) := by decide +kernel
theorem dX6_copy_114 : decode cX6_copy 114 = .ok (.ifCond .eq 30, 3) := by decide +kernel
theorem dX6_copy_117 : decode cX6_copy 117 = .ok (.iload 5, 2) := by decide +kernel
theorem dX6_copy_119 : decode cX6_copy 119 = .ok (.aload_n 0, 1) := by decide +kernel
theorem dX6_copy_120 : decode cX6_copy 120 = .ok (.getfield 13, 3) := by decide +kernel
theorem dX6_copy_123 : decode cX6_copy 123 = .ok (.iload_n 1, 1) := by decide +kernel
theorem dX6_copy_124 : decode cX6_copy 124 = .ok (.iaload, 1) := by decide +kernel
theorem dX6_copy_125 : decode cX6_copy 125 = .ok (.iload_n 2, 1) := by decide +kernel
theorem dX6_copy_126 : decode cX6_copy 126 = .ok (.isub, 1) := by decide +kernel
theorem dX6_copy_127 : decode cX6_copy 127 = .ok (.if_icmp .gt 17, 3) := by decide +kernel
theorem dX6_copy_130 : decode cX6_copy 130 = .ok (.iload 5, 2) := by decide +kernel
theorem dX6_copy_132 : decode cX6_copy 132 = .ok (.aload_n 0, 1) := by decide +kernel
theorem dX6_copy_133 : decode cX6_copy 133 = .ok (.getfield 13, 3) := by decide +kernel
theorem dX6_copy_136 : decode cX6_copy 136 = .ok (.iload_n 3, 1) := by decide +kernel
theorem dX6_copy_137 : decode cX6_copy 137 = .ok (.iaload, 1) := by decide +kernel
theorem dX6_copy_138 : decode cX6_copy 138 = .ok (.iload 4, 2) := by decide +kernel
theorem dX6_copy_140 : decode cX6_copy 140 = .ok (.isub, 1) := by decide +kernel
theorem dX6_copy_141 : decode cX6_copy 141 = .ok (.if_icmp .le 9, 3) := by decide +kernel
theorem dX6_copy_144 : decode cX6_copy 144 = .ok (.aload_n 0, 1) := by decide +kernel
theorem dX6_copy_145 : decode cX6_copy 145 = .ok (.iconst 3, 1) := by decide +kernel
theorem dX6_copy_146 : decode cX6_copy 146 = .ok (.invokevirtual 110, 3) := by decide +kernel
theorem dX6_copy_149 : decode cX6_copy 149 = .ok (.ireturn, 1) := by decide +kernel
theorem dX6_copy_150 : decode cX6_copy 150 = .ok (.iload_n 2, 1) := by decide +kernel
theorem dX6_copy_151 : decode cX6_copy 151 = .ok (.iload 4, 2) := by decide +kernel
theorem dX6_copy_153 : decode cX6_copy 153 = .ok (.if_icmp .ge 7, 3) := by decide +kernel
theorem dX6_copy_156 : decode cX6_copy 156 = .ok (.iconst 1, 1) := by decide +kernel
theorem dX6_copy_157 : decode cX6_copy 157 = .ok (.goto 4, 3) := by decide +kernel
theorem dX6_copy_160 : decode cX6_copy 160 = .ok (.iconst 0, 1) := by decide +kernel
theorem dX6_copy_161 : decode cX6_copy 161 = .ok (.istore 7, 2) := by decide +kernel
theorem dX6_copy_163 : decode cX6_copy 163 = .ok (.iconst 0, 1) := by decide +kernel
theorem dX6_copy_164 : decode cX6_copy 164 = .ok (.istore 8, 2) := by decide +kernel
theorem dX6_copy_166 : decode cX6_copy 166 = .ok (.iload 8, 2) := by decide +kernel
theorem dX6_copy_168 : decode cX6_copy 168 = .ok (.iload 5, 2) := by decide +kernel
theorem dX6_copy_170 : decode cX6_copy 170 = .ok (.if_icmp .ge 57, 3) := by decide +kernel
theorem dX6_copy_173 : decode cX6_copy 173 = .ok (.iload 7, 2) := by decide +kernel
theorem dX6_copy_175 : decode cX6_copy 175 = .ok (.ifCond .eq 13, 3) := by decide +kernel
theorem dX6_copy_178 : decode cX6_copy 178 = .ok (.iload 5, 2) := by decide +kernel
theorem dX6_copy_180 : decode cX6_copy 180 = .ok (.iconst 1, 1) := by decide +kernel
theorem dX6_copy_181 : decode cX6_copy 181 = .ok (.isub, 1) := by decide +kernel
theorem dX6_copy_182 : decode cX6_copy 182 = .ok (.iload 8, 2) := by decide +kernel
theorem dX6_copy_184 : decode cX6_copy 184 = .ok (.isub, 1) := by decide +kernel
theorem dX6_copy_185 : decode cX6_copy 185 = .ok (.goto 5, 3) := by decide +kernel
theorem dX6_copy_188 : decode cX6_copy 188 = .ok (.iload 8, 2) := by decide +kernel
theorem dX6_copy_190 : decode cX6_copy 190 = .ok (.istore 9, 2) := by decide +kernel
theorem dX6_copy_192 : decode cX6_copy 192 = .ok (.aload_n 0, 1) := by decide +kernel
theorem dX6_copy_193 : decode cX6_copy 193 = .ok (.getfield 16, 3) := by decide +kernel
theorem dX6_copy_196 : decode cX6_copy 196 = .ok (.bipush 60, 2) := by decide +kernel
theorem dX6_copy_198 : decode cX6_copy 198 = .ok (.iload_n 3, 1) := by decide +kernel
theorem dX6_copy_199 : decode cX6_copy 199 = .ok (.imul, 1) := by decide +kernel
theorem dX6_copy_200 : decode cX6_copy 200 = .ok (.iload 4, 2) := by decide +kernel
theorem dX6_copy_202 : decode cX6_copy 202 = .ok (.iadd, 1) := by decide +kernel
theorem dX6_copy_203 : decode cX6_copy 203 = .ok (.iload 9, 2) := by decide +kernel
theorem dX6_copy_205 : decode cX6_copy 205 = .ok (.iadd, 1) := by decide +kernel
theorem dX6_copy_206 : decode cX6_copy 206 = .ok (.aload_n 0, 1) := by decide +kernel
theorem dX6_copy_207 : decode cX6_copy 207 = .ok (.getfield 16, 3) := by decide +kernel
theorem dX6_copy_210 : decode cX6_copy 210 = .ok (.bipush 60, 2) := by decide +kernel
theorem dX6_copy_212 : decode cX6_copy 212 = .ok (.iload_n 1, 1) := by decide +kernel
theorem dX6_copy_213 : decode cX6_copy 213 = .ok (.imul, 1) := by decide +kernel
theorem dX6_copy_214 : decode cX6_copy 214 = .ok (.iload_n 2, 1) := by decide +kernel
theorem dX6_copy_215 : decode cX6_copy 215 = .ok (.iadd, 1) := by decide +kernel
theorem dX6_copy_216 : decode cX6_copy 216 = .ok (.iload 9, 2) := by decide +kernel
theorem dX6_copy_218 : decode cX6_copy 218 = .ok (.iadd, 1) := by decide +kernel
theorem dX6_copy_219 : decode cX6_copy 219 = .ok (.iaload, 1) := by decide +kernel
theorem dX6_copy_220 : decode cX6_copy 220 = .ok (.iastore, 1) := by decide +kernel
theorem dX6_copy_221 : decode cX6_copy 221 = .ok (.iinc 8 1, 3) := by decide +kernel
theorem dX6_copy_224 : decode cX6_copy 224 = .ok (.goto (-58), 3) := by decide +kernel
theorem dX6_copy_227 : decode cX6_copy 227 = .ok (.iload 5, 2) := by decide +kernel
theorem dX6_copy_229 : decode cX6_copy 229 = .ok (.ireturn, 1) := by decide +kernel
theorem dX6_begins_0 : decode cX6_begins 0 = .ok (.aload_n 0, 1) := by decide +kernel
theorem dX6_begins_1 : decode cX6_begins 1 = .ok (.bipush 31, 2) := by decide +kernel
theorem dX6_begins_3 : decode cX6_begins 3 = .ok (.aload_n 0, 1) := by decide +kernel
theorem dX6_begins_4 : decode cX6_begins 4 = .ok (.getfield 247, 3) := by decide +kernel
theorem dX6_begins_7 : decode cX6_begins 7 = .ok (.imul, 1) := by decide +kernel
theorem dX6_begins_8 : decode cX6_begins 8 = .ok (.iload_n 1, 1) := by decide +kernel
theorem dX6_begins_9 : decode cX6_begins 9 = .ok (.iadd, 1) := by decide +kernel
theorem dX6_begins_10 : decode cX6_begins 10 = .ok (.putfield 247, 3) := by decide +kernel
theorem dX6_begins_13 : decode cX6_begins 13 = .ok (.return_, 1) := by decide +kernel
theorem dX6_tell_0 : decode cX6_tell 0 = .ok (.aload_n 0, 1) := by decide +kernel
theorem dX6_tell_1 : decode cX6_tell 1 = .ok (.iload_n 1, 1) := by decide +kernel
theorem dX6_tell_2 : decode cX6_tell 2 = .ok (.invokevirtual 156, 3) := by decide +kernel
theorem dX6_tell_5 : decode cX6_tell 5 = .ok (.ifCond .ne 5, 3) := by decide +kernel
theorem dX6_tell_8 : decode cX6_tell 8 = .ok (.iconst (-1), 1) := by decide +kernel
theorem dX6_tell_9 : decode cX6_tell 9 = .ok (.ireturn, 1) := by decide +kernel
theorem dX6_tell_10 : decode cX6_tell 10 = .ok (.aload_n 0, 1) := by decide +kernel
theorem dX6_tell_11 : decode cX6_tell 11 = .ok (.getfield 38, 3) := by decide +kernel
theorem dX6_tell_14 : decode cX6_tell 14 = .ok (.iload_n 1, 1) := by decide +kernel
theorem dX6_tell_15 : decode cX6_tell 15 = .ok (.iaload, 1) := by decide +kernel
theorem dX6_tell_16 : decode cX6_tell 16 = .ok (.istore_n 2, 1) := by decide +kernel
theorem dX6_tell_17 : decode cX6_tell 17 = .ok (.aload_n 0, 1) := by decide +kernel
theorem dX6_tell_18 : decode cX6_tell 18 = .ok (.getfield 29, 3) := by decide +kernel
theorem dX6_tell_21 : decode cX6_tell 21 = .ok (.iload_n 1, 1) := by decide +kernel
theorem dX6_tell_22 : decode cX6_tell 22 = .ok (.iaload, 1) := by decide +kernel
theorem dX6_tell_23 : decode cX6_tell 23 = .ok (.lookupswitch 67 #[(1, 25), (2, 40)], 25) := by decide +kernel
theorem dX6_tell_48 : decode cX6_tell 48 = .ok (.aload_n 0, 1) := by decide +kernel
theorem dX6_tell_49 : decode cX6_tell 49 = .ok (.iconst 2, 1) := by decide +kernel
theorem dX6_tell_50 : decode cX6_tell 50 = .ok (.invokevirtual 250, 3) := by decide +kernel
theorem dX6_tell_53 : decode cX6_tell 53 = .ok (.aload_n 0, 1) := by decide +kernel
theorem dX6_tell_54 : decode cX6_tell 54 = .ok (.iconst 1, 1) := by decide +kernel
theorem dX6_tell_55 : decode cX6_tell 55 = .ok (.invokevirtual 250, 3) := by decide +kernel
theorem dX6_tell_58 : decode cX6_tell 58 = .ok (.iload_n 2, 1) := by decide +kernel
theorem dX6_tell_59 : decode cX6_tell 59 = .ok (.bipush 100, 2) := by decide +kernel
theorem dX6_tell_61 : decode cX6_tell 61 = .ok (.iadd, 1) := by decide +kernel
theorem dX6_tell_62 : decode cX6_tell 62 = .ok (.ireturn, 1) := by decide +kernel
theorem dX6_tell_63 : decode cX6_tell 63 = .ok (.aload_n 0, 1) := by decide +kernel
theorem dX6_tell_64 : decode cX6_tell 64 = .ok (.iconst 3, 1) := by decide +kernel
theorem dX6_tell_65 : decode cX6_tell 65 = .ok (.invokevirtual 250, 3) := by decide +kernel
theorem dX6_tell_68 : decode cX6_tell 68 = .ok (.aload_n 0, 1) := by decide +kernel
theorem dX6_tell_69 : decode cX6_tell 69 = .ok (.iconst 2, 1) := by decide +kernel
theorem dX6_tell_70 : decode cX6_tell 70 = .ok (.invokevirtual 250, 3) := by decide +kernel
theorem dX6_tell_73 : decode cX6_tell 73 = .ok (.aload_n 0, 1) := by decide +kernel
theorem dX6_tell_74 : decode cX6_tell 74 = .ok (.iconst 1, 1) := by decide +kernel
theorem dX6_tell_75 : decode cX6_tell 75 = .ok (.invokevirtual 250, 3) := by decide +kernel
theorem dX6_tell_78 : decode cX6_tell 78 = .ok (.aload_n 0, 1) := by decide +kernel
theorem dX6_tell_79 : decode cX6_tell 79 = .ok (.iconst 1, 1) := by decide +kernel
theorem dX6_tell_80 : decode cX6_tell 80 = .ok (.invokevirtual 250, 3) := by decide +kernel
theorem dX6_tell_83 : decode cX6_tell 83 = .ok (.iconst 2, 1) := by decide +kernel
theorem dX6_tell_84 : decode cX6_tell 84 = .ok (.iload_n 2, 1) := by decide +kernel
theorem dX6_tell_85 : decode cX6_tell 85 = .ok (.imul, 1) := by decide +kernel
theorem dX6_tell_86 : decode cX6_tell 86 = .ok (.bipush 100, 2) := by decide +kernel
theorem dX6_tell_88 : decode cX6_tell 88 = .ok (.iadd, 1) := by decide +kernel
theorem dX6_tell_89 : decode cX6_tell 89 = .ok (.ireturn, 1) := by decide +kernel
theorem dX6_tell_90 : decode cX6_tell 90 = .ok (.aload_n 0, 1) := by decide +kernel
theorem dX6_tell_91 : decode cX6_tell 91 = .ok (.iconst 1, 1) := by decide +kernel
theorem dX6_tell_92 : decode cX6_tell 92 = .ok (.invokevirtual 250, 3) := by decide +kernel
theorem dX6_tell_95 : decode cX6_tell 95 = .ok (.iload_n 2, 1) := by decide +kernel
theorem dX6_tell_96 : decode cX6_tell 96 = .ok (.ireturn, 1) := by decide +kernel
theorem dX6_crow_0 : decode cX6_crow 0 = .ok (.aload_n 0, 1) := by decide +kernel
theorem dX6_crow_1 : decode cX6_crow 1 = .ok (.iload_n 1, 1) := by decide +kernel
theorem dX6_crow_2 : decode cX6_crow 2 = .ok (.invokevirtual 156, 3) := by decide +kernel
theorem dX6_crow_5 : decode cX6_crow 5 = .ok (.ifCond .ne 5, 3) := by decide +kernel
theorem dX6_crow_8 : decode cX6_crow 8 = .ok (.iconst (-1), 1) := by decide +kernel
theorem dX6_crow_9 : decode cX6_crow 9 = .ok (.ireturn, 1) := by decide +kernel
theorem dX6_crow_10 : decode cX6_crow 10 = .ok (.aload_n 0, 1) := by decide +kernel
theorem dX6_crow_11 : decode cX6_crow 11 = .ok (.aload_n 0, 1) := by decide +kernel
theorem dX6_crow_12 : decode cX6_crow 12 = .ok (.getfield 29, 3) := by decide +kernel
theorem dX6_crow_15 : decode cX6_crow 15 = .ok (.iload_n 1, 1) := by decide +kernel
theorem dX6_crow_16 : decode cX6_crow 16 = .ok (.iaload, 1) := by decide +kernel
theorem dX6_crow_17 : decode cX6_crow 17 = .ok (.iconst 2, 1) := by decide +kernel
theorem dX6_crow_18 : decode cX6_crow 18 = .ok (.if_icmp .ne 7, 3) := by decide +kernel
theorem dX6_crow_21 : decode cX6_crow 21 = .ok (.iconst 5, 1) := by decide +kernel
theorem dX6_crow_22 : decode cX6_crow 22 = .ok (.goto 4, 3) := by decide +kernel
theorem dX6_crow_25 : decode cX6_crow 25 = .ok (.iconst 4, 1) := by decide +kernel
theorem dX6_crow_26 : decode cX6_crow 26 = .ok (.invokevirtual 250, 3) := by decide +kernel
theorem dX6_crow_29 : decode cX6_crow 29 = .ok (.aload_n 0, 1) := by decide +kernel
theorem dX6_crow_30 : decode cX6_crow 30 = .ok (.getfield 29, 3) := by decide +kernel
theorem dX6_crow_33 : decode cX6_crow 33 = .ok (.iload_n 1, 1) := by decide +kernel
theorem dX6_crow_34 : decode cX6_crow 34 = .ok (.iaload, 1) := by decide +kernel
theorem dX6_crow_35 : decode cX6_crow 35 = .ok (.iconst 2, 1) := by decide +kernel
theorem dX6_crow_36 : decode cX6_crow 36 = .ok (.if_icmp .ne 8, 3) := by decide +kernel
theorem dX6_crow_39 : decode cX6_crow 39 = .ok (.bipush 70, 2) := by decide +kernel
theorem dX6_crow_41 : decode cX6_crow 41 = .ok (.goto 4, 3) := by decide +kernel
theorem dX6_crow_44 : decode cX6_crow 44 = .ok (.iload_n 1, 1) := by decide +kernel
theorem dX6_crow_45 : decode cX6_crow 45 = .ok (.ireturn, 1) := by decide +kernel
theorem dX6_as_0 : decode cX6_as 0 = .ok (.aload_n 0, 1) := by decide +kernel
theorem dX6_as_1 : decode cX6_as 1 = .ok (.iconst 0, 1) := by decide +kernel
theorem dX6_as_2 : decode cX6_as 2 = .ok (.putfield 80, 3) := by decide +kernel
theorem dX6_as_5 : decode cX6_as 5 = .ok (.aload_n 0, 1) := by decide +kernel
theorem dX6_as_6 : decode cX6_as 6 = .ok (.iload_n 1, 1) := by decide +kernel
theorem dX6_as_7 : decode cX6_as 7 = .ok (.invokevirtual 156, 3) := by decide +kernel
theorem dX6_as_10 : decode cX6_as 10 = .ok (.ifCond .ne 5, 3) := by decide +kernel
theorem dX6_as_13 : decode cX6_as 13 = .ok (.iconst (-1), 1) := by decide +kernel
theorem dX6_as_14 : decode cX6_as 14 = .ok (.ireturn, 1) := by decide +kernel
theorem dX6_as_15 : decode cX6_as 15 = .ok (.iload_n 2, 1) := by decide +kernel
theorem dX6_as_16 : decode cX6_as 16 = .ok (.iconst 0, 1) := by decide +kernel
theorem dX6_as_17 : decode cX6_as 17 = .ok (.iconst 2, 1) := by decide +kernel
theorem dX6_as_18 : decode cX6_as 18 = .ok (.invokestatic 86, 3) := by decide +kernel
theorem dX6_as_21 : decode cX6_as 21 = .ok (.ifCond .ne 6, 3) := by decide +kernel
theorem dX6_as_24 : decode cX6_as 24 = .ok (.bipush (-2), 2) := by decide +kernel
theorem dX6_as_26 : decode cX6_as 26 = .ok (.ireturn, 1) := by decide +kernel
theorem dX6_as_27 : decode cX6_as 27 = .ok (.aload_n 0, 1) := by decide +kernel
theorem dX6_as_28 : decode cX6_as 28 = .ok (.getfield 29, 3) := by decide +kernel
theorem dX6_as_31 : decode cX6_as 31 = .ok (.iload_n 1, 1) := by decide +kernel
theorem dX6_as_32 : decode cX6_as 32 = .ok (.iaload, 1) := by decide +kernel
theorem dX6_as_33 : decode cX6_as 33 = .ok (.iload_n 2, 1) := by decide +kernel
theorem dX6_as_34 : decode cX6_as 34 = .ok (.if_icmp .lt 7, 3) := by decide +kernel
theorem dX6_as_37 : decode cX6_as 37 = .ok (.iconst 1, 1) := by decide +kernel
theorem dX6_as_38 : decode cX6_as 38 = .ok (.goto 8, 3) := by decide +kernel
theorem dX6_as_41 : decode cX6_as 41 = .ok (.aload_n 0, 1) := by decide +kernel
theorem dX6_as_42 : decode cX6_as 42 = .ok (.iconst 2, 1) := by decide +kernel
theorem dX6_as_43 : decode cX6_as 43 = .ok (.invokevirtual 110, 3) := by decide +kernel
theorem dX6_as_46 : decode cX6_as 46 = .ok (.ireturn, 1) := by decide +kernel
theorem dX6_trace_0 : decode cX6_trace 0 = .ok (.aload_n 0, 1) := by decide +kernel
theorem dX6_trace_1 : decode cX6_trace 1 = .ok (.getfield 247, 3) := by decide +kernel
theorem dX6_trace_4 : decode cX6_trace 4 = .ok (.ireturn, 1) := by decide +kernel
theorem dX6_fault_0 : decode cX6_fault 0 = .ok (.aload_n 0, 1) := by decide +kernel
theorem dX6_fault_1 : decode cX6_fault 1 = .ok (.getfield 80, 3) := by decide +kernel
theorem dX6_fault_4 : decode cX6_fault 4 = .ok (.ireturn, 1) := by decide +kernel
theorem dX6_many_0 : decode cX6_many 0 = .ok (.iload_n 1, 1) := by decide +kernel
theorem dX6_many_1 : decode cX6_many 1 = .ok (.tableswitch 60 0 4 #[35, 40, 45, 50, 55], 35) := by decide +kernel
theorem dX6_many_36 : decode cX6_many 36 = .ok (.aload_n 0, 1) := by decide +kernel
theorem dX6_many_37 : decode cX6_many 37 = .ok (.getfield 93, 3) := by decide +kernel
theorem dX6_many_40 : decode cX6_many 40 = .ok (.ireturn, 1) := by decide +kernel
theorem dX6_many_41 : decode cX6_many 41 = .ok (.aload_n 0, 1) := by decide +kernel
theorem dX6_many_42 : decode cX6_many 42 = .ok (.getfield 90, 3) := by decide +kernel
theorem dX6_many_45 : decode cX6_many 45 = .ok (.ireturn, 1) := by decide +kernel
theorem dX6_many_46 : decode cX6_many 46 = .ok (.aload_n 0, 1) := by decide +kernel
theorem dX6_many_47 : decode cX6_many 47 = .ok (.getfield 129, 3) := by decide +kernel
theorem dX6_many_50 : decode cX6_many 50 = .ok (.ireturn, 1) := by decide +kernel
theorem dX6_many_51 : decode cX6_many 51 = .ok (.aload_n 0, 1) := by decide +kernel
theorem dX6_many_52 : decode cX6_many 52 = .ok (.getfield 123, 3) := by decide +kernel
theorem dX6_many_55 : decode cX6_many 55 = .ok (.ireturn, 1) := by decide +kernel
theorem dX6_many_56 : decode cX6_many 56 = .ok (.aload_n 0, 1) := by decide +kernel
theorem dX6_many_57 : decode cX6_many 57 = .ok (.getfield 135, 3) := by decide +kernel
theorem dX6_many_60 : decode cX6_many 60 = .ok (.ireturn, 1) := by decide +kernel
theorem dX6_many_61 : decode cX6_many 61 = .ok (.bipush (-2), 2) := by decide +kernel
theorem dX6_many_63 : decode cX6_many 63 = .ok (.ireturn, 1) := by decide +kernel
