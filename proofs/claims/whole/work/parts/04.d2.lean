theorem dX5_init_0 : decode cX5_init 0 = .ok (.aload_n 0, 1) := by decide +kernel
theorem dX5_init_1 : decode cX5_init 1 = .ok (.invokespecial 3, 3) := by decide +kernel
theorem dX5_init_4 : decode cX5_init 4 = .ok (.aload_n 0, 1) := by decide +kernel
theorem dX5_init_5 : decode cX5_init 5 = .ok (.iconst 4, 1) := by decide +kernel
theorem dX5_init_6 : decode cX5_init 6 = .ok (.anewarray 11, 3) := by decide +kernel
theorem dX5_init_9 : decode cX5_init 9 = .ok (.putfield 13, 3) := by decide +kernel
theorem dX5_init_12 : decode cX5_init 12 = .ok (.aload_n 0, 1) := by decide +kernel
theorem dX5_init_13 : decode cX5_init 13 = .ok (.new 17, 3) := by decide +kernel
theorem dX5_init_16 : decode cX5_init 16 = .ok (.dup, 1) := by decide +kernel
theorem dX5_init_17 : decode cX5_init 17 = .ok (.invokespecial 19, 3) := by decide +kernel
theorem dX5_init_20 : decode cX5_init 20 = .ok (.putfield 20, 3) := by decide +kernel
theorem dX5_init_23 : decode cX5_init 23 = .ok (.aload_n 0, 1) := by decide +kernel
theorem dX5_init_24 : decode cX5_init 24 = .ok (.new 17, 3) := by decide +kernel
theorem dX5_init_27 : decode cX5_init 27 = .ok (.dup, 1) := by decide +kernel
theorem dX5_init_28 : decode cX5_init 28 = .ok (.invokespecial 19, 3) := by decide +kernel
theorem dX5_init_31 : decode cX5_init 31 = .ok (.putfield 24, 3) := by decide +kernel
theorem dX5_init_34 : decode cX5_init 34 = .ok (.aload_n 0, 1) := by decide +kernel
theorem dX5_init_35 : decode cX5_init 35 = .ok (.new 27, 3) := by decide +kernel
theorem dX5_init_38 : decode cX5_init 38 = .ok (.dup, 1) := by decide +kernel
theorem dX5_init_39 : decode cX5_init 39 = .ok (.invokespecial 29, 3) := by decide +kernel
theorem dX5_init_42 : decode cX5_init 42 = .ok (.putfield 30, 3) := by decide +kernel
theorem dX5_init_45 : decode cX5_init 45 = .ok (.aload_n 0, 1) := by decide +kernel
theorem dX5_init_46 : decode cX5_init 46 = .ok (.new 34, 3) := by decide +kernel
theorem dX5_init_49 : decode cX5_init 49 = .ok (.dup, 1) := by decide +kernel
theorem dX5_init_50 : decode cX5_init 50 = .ok (.invokespecial 36, 3) := by decide +kernel
theorem dX5_init_53 : decode cX5_init 53 = .ok (.putfield 37, 3) := by decide +kernel
theorem dX5_init_56 : decode cX5_init 56 = .ok (.aload_n 0, 1) := by decide +kernel
theorem dX5_init_57 : decode cX5_init 57 = .ok (.new 41, 3) := by decide +kernel
theorem dX5_init_60 : decode cX5_init 60 = .ok (.dup, 1) := by decide +kernel
theorem dX5_init_61 : decode cX5_init 61 = .ok (.invokespecial 43, 3) := by decide +kernel
theorem dX5_init_64 : decode cX5_init 64 = .ok (.putfield 44, 3) := by decide +kernel
theorem dX5_init_67 : decode cX5_init 67 = .ok (.aload_n 0, 1) := by decide +kernel
theorem dX5_init_68 : decode cX5_init 68 = .ok (.iconst 0, 1) := by decide +kernel
theorem dX5_init_69 : decode cX5_init 69 = .ok (.putfield 48, 3) := by decide +kernel
theorem dX5_init_72 : decode cX5_init 72 = .ok (.aload_n 0, 1) := by decide +kernel
theorem dX5_init_73 : decode cX5_init 73 = .ok (.iconst 0, 1) := by decide +kernel
theorem dX5_init_74 : decode cX5_init 74 = .ok (.putfield 52, 3) := by decide +kernel
theorem dX5_init_77 : decode cX5_init 77 = .ok (.iconst 0, 1) := by decide +kernel
theorem dX5_init_78 : decode cX5_init 78 = .ok (.istore_n 1, 1) := by decide +kernel
theorem dX5_init_79 : decode cX5_init 79 = .ok (.iload_n 1, 1) := by decide +kernel
theorem dX5_init_80 : decode cX5_init 80 = .ok (.aload_n 0, 1) := by decide +kernel
theorem dX5_init_81 : decode cX5_init 81 = .ok (.getfield 13, 3) := by decide +kernel
theorem dX5_init_84 : decode cX5_init 84 = .ok (.arraylength, 1) := by decide +kernel
theorem dX5_init_85 : decode cX5_init 85 = .ok (.if_icmp .ge 22, 3) := by decide +kernel
theorem dX5_init_88 : decode cX5_init 88 = .ok (.aload_n 0, 1) := by decide +kernel
theorem dX5_init_89 : decode cX5_init 89 = .ok (.getfield 13, 3) := by decide +kernel
theorem dX5_init_92 : decode cX5_init 92 = .ok (.iload_n 1, 1) := by decide +kernel
theorem dX5_init_93 : decode cX5_init 93 = .ok (.new 11, 3) := by decide +kernel
theorem dX5_init_96 : decode cX5_init 96 = .ok (.dup, 1) := by decide +kernel
theorem dX5_init_97 : decode cX5_init 97 = .ok (.invokespecial 55, 3) := by decide +kernel
theorem dX5_init_100 : decode cX5_init 100 = .ok (.aastore, 1) := by decide +kernel
theorem dX5_init_101 : decode cX5_init 101 = .ok (.iinc 1 1, 3) := by decide +kernel
theorem dX5_init_104 : decode cX5_init 104 = .ok (.goto (-25), 3) := by decide +kernel
theorem dX5_init_107 : decode cX5_init 107 = .ok (.return_, 1) := by decide +kernel
theorem dX5_market_0 : decode cX5_market 0 = .ok (.aload_n 0, 1) := by decide +kernel
theorem dX5_market_1 : decode cX5_market 1 = .ok (.iconst 0, 1) := by decide +kernel
theorem dX5_market_2 : decode cX5_market 2 = .ok (.putfield 52, 3) := by decide +kernel
theorem dX5_market_5 : decode cX5_market 5 = .ok (.aload_n 0, 1) := by decide +kernel
theorem dX5_market_6 : decode cX5_market 6 = .ok (.iload_n 1, 1) := by decide +kernel
theorem dX5_market_7 : decode cX5_market 7 = .ok (.invokevirtual 56, 3) := by decide +kernel
theorem dX5_market_10 : decode cX5_market 10 = .ok (.astore 5, 2) := by decide +kernel
theorem dX5_market_12 : decode cX5_market 12 = .ok (.aload 5, 2) := by decide +kernel
theorem dX5_market_14 : decode cX5_market 14 = .ok (.ifnonnull 5, 3) := by decide +kernel
theorem dX5_market_17 : decode cX5_market 17 = .ok (.iconst (-1), 1) := by decide +kernel
theorem dX5_market_18 : decode cX5_market 18 = .ok (.ireturn, 1) := by decide +kernel
theorem dX5_market_19 : decode cX5_market 19 = .ok (.iload_n 2, 1) := by decide +kernel
theorem dX5_market_20 : decode cX5_market 20 = .ok (.invokestatic 60, 3) := by decide +kernel
theorem dX5_market_23 : decode cX5_market 23 = .ok (.ifCond .ne 6, 3) := by decide +kernel
theorem dX5_market_26 : decode cX5_market 26 = .ok (.bipush (-2), 2) := by decide +kernel
theorem dX5_market_28 : decode cX5_market 28 = .ok (.ireturn, 1) := by decide +kernel
theorem dX5_market_29 : decode cX5_market 29 = .ok (.aload 5, 2) := by decide +kernel
theorem dX5_market_31 : decode cX5_market 31 = .ok (.iload_n 2, 1) := by decide +kernel
theorem dX5_market_32 : decode cX5_market 32 = .ok (.invokevirtual 64, 3) := by decide +kernel
theorem dX5_market_35 : decode cX5_market 35 = .ok (.ifCond .eq 9, 3) := by decide +kernel
theorem dX5_market_38 : decode cX5_market 38 = .ok (.aload_n 0, 1) := by decide +kernel
theorem dX5_market_39 : decode cX5_market 39 = .ok (.iconst 2, 1) := by decide +kernel
theorem dX5_market_40 : decode cX5_market 40 = .ok (.invokevirtual 67, 3) := by decide +kernel
theorem dX5_market_43 : decode cX5_market 43 = .ok (.ireturn, 1) := by decide +kernel
theorem dX5_market_44 : decode cX5_market 44 = .ok (.aload 5, 2) := by decide +kernel
theorem dX5_market_46 : decode cX5_market 46 = .ok (.invokevirtual 71, 3) := by decide +kernel
theorem dX5_market_49 : decode cX5_market 49 = .ok (.ifCond .ne 9, 3) := by decide +kernel
theorem dX5_market_52 : decode cX5_market 52 = .ok (.aload_n 0, 1) := by decide +kernel
theorem dX5_market_53 : decode cX5_market 53 = .ok (.iconst 1, 1) := by decide +kernel
theorem dX5_market_54 : decode cX5_market 54 = .ok (.invokevirtual 67, 3) := by decide +kernel
theorem dX5_market_57 : decode cX5_market 57 = .ok (.ireturn, 1) := by decide +kernel
theorem dX5_market_58 : decode cX5_market 58 = .ok (.iload 4, 2) := by decide +kernel
theorem dX5_market_60 : decode cX5_market 60 = .ok (.ifCond .ge 9, 3) := by decide +kernel
theorem dX5_market_63 : decode cX5_market 63 = .ok (.aload_n 0, 1) := by decide +kernel
theorem dX5_market_64 : decode cX5_market 64 = .ok (.iconst 4, 1) := by decide +kernel
theorem dX5_market_65 : decode cX5_market 65 = .ok (.invokevirtual 67, 3) := by decide +kernel
theorem dX5_market_68 : decode cX5_market 68 = .ok (.ireturn, 1) := by decide +kernel
theorem dX5_market_69 : decode cX5_market 69 = .ok (.aload 5, 2) := by decide +kernel
theorem dX5_market_71 : decode cX5_market 71 = .ok (.iload_n 3, 1) := by decide +kernel
theorem dX5_market_72 : decode cX5_market 72 = .ok (.iload 4, 2) := by decide +kernel
theorem dX5_market_74 : decode cX5_market 74 = .ok (.invokevirtual 75, 3) := by decide +kernel
theorem dX5_market_77 : decode cX5_market 77 = .ok (.ifCond .ne 9, 3) := by decide +kernel
theorem dX5_market_80 : decode cX5_market 80 = .ok (.aload_n 0, 1) := by decide +kernel
theorem dX5_market_81 : decode cX5_market 81 = .ok (.iconst 3, 1) := by decide +kernel
theorem dX5_market_82 : decode cX5_market 82 = .ok (.invokevirtual 67, 3) := by decide +kernel
theorem dX5_market_85 : decode cX5_market 85 = .ok (.ireturn, 1) := by decide +kernel
theorem dX5_market_86 : decode cX5_market 86 = .ok (.aload_n 0, 1) := by decide +kernel
theorem dX5_market_87 : decode cX5_market 87 = .ok (.getfield 30, 3) := by decide +kernel
theorem dX5_market_90 : decode cX5_market 90 = .ok (.aload 5, 2) := by decide +kernel
theorem dX5_market_92 : decode cX5_market 92 = .ok (.iload_n 3, 1) := by decide +kernel
theorem dX5_market_93 : decode cX5_market 93 = .ok (.iload 4, 2) := by decide +kernel
theorem dX5_market_95 : decode cX5_market 95 = .ok (.aload_n 0, 1) := by decide +kernel
theorem dX5_market_96 : decode cX5_market 96 = .ok (.getfield 24, 3) := by decide +kernel
theorem dX5_market_99 : decode cX5_market 99 = .ok (.invokevirtual 79, 3) := by decide +kernel
theorem dX5_market_102 : decode cX5_market 102 = .ok (.istore 6, 2) := by decide +kernel
theorem dX5_market_104 : decode cX5_market 104 = .ok (.iload 6, 2) := by decide +kernel
theorem dX5_market_106 : decode cX5_market 106 = .ok (.bipush (-9), 2) := by decide +kernel
theorem dX5_market_108 : decode cX5_market 108 = .ok (.if_icmp .eq 9, 3) := by decide +kernel
theorem dX5_market_111 : decode cX5_market 111 = .ok (.bipush (-100), 2) := by decide +kernel
theorem dX5_market_113 : decode cX5_market 113 = .ok (.iload 6, 2) := by decide +kernel
theorem dX5_market_115 : decode cX5_market 115 = .ok (.isub, 1) := by decide +kernel
theorem dX5_market_116 : decode cX5_market 116 = .ok (.ireturn, 1) := by decide +kernel
theorem dX5_market_117 : decode cX5_market 117 = .ok (.aload_n 0, 1) := by decide +kernel
theorem dX5_market_118 : decode cX5_market 118 = .ok (.getfield 20, 3) := by decide +kernel
theorem dX5_market_121 : decode cX5_market 121 = .ok (.aload_n 0, 1) := by decide +kernel
theorem dX5_market_122 : decode cX5_market 122 = .ok (.getfield 24, 3) := by decide +kernel
theorem dX5_market_125 : decode cX5_market 125 = .ok (.invokevirtual 83, 3) := by decide +kernel
theorem dX5_market_128 : decode cX5_market 128 = .ok (.aload_n 0, 1) := by decide +kernel
theorem dX5_market_129 : decode cX5_market 129 = .ok (.getfield 44, 3) := by decide +kernel
theorem dX5_market_132 : decode cX5_market 132 = .ok (.iconst 0, 1) := by decide +kernel
theorem dX5_market_133 : decode cX5_market 133 = .ok (.putfield 87, 3) := by decide +kernel
theorem dX5_market_136 : decode cX5_market 136 = .ok (.aload_n 0, 1) := by decide +kernel
theorem dX5_market_137 : decode cX5_market 137 = .ok (.getfield 20, 3) := by decide +kernel
theorem dX5_market_140 : decode cX5_market 140 = .ok (.getfield 90, 3) := by decide +kernel
theorem dX5_market_143 : decode cX5_market 143 = .ok (.ireturn, 1) := by decide +kernel
theorem dX5_ofMorning_0 : decode cX5_ofMorning 0 = .ok (.aload_n 0, 1) := by decide +kernel
theorem dX5_ofMorning_1 : decode cX5_ofMorning 1 = .ok (.getfield 20, 3) := by decide +kernel
theorem dX5_ofMorning_4 : decode cX5_ofMorning 4 = .ok (.iload_n 1, 1) := by decide +kernel
theorem dX5_ofMorning_5 : decode cX5_ofMorning 5 = .ok (.invokevirtual 93, 3) := by decide +kernel
theorem dX5_ofMorning_8 : decode cX5_ofMorning 8 = .ok (.ifCond .ne 5, 3) := by decide +kernel
theorem dX5_ofMorning_11 : decode cX5_ofMorning 11 = .ok (.iconst (-1), 1) := by decide +kernel
theorem dX5_ofMorning_12 : decode cX5_ofMorning 12 = .ok (.ireturn, 1) := by decide +kernel
theorem dX5_ofMorning_13 : decode cX5_ofMorning 13 = .ok (.iload_n 2, 1) := by decide +kernel
theorem dX5_ofMorning_14 : decode cX5_ofMorning 14 = .ok (.tableswitch 91 0 4 #[34, 44, 54, 64, 74], 34) := by decide +kernel
theorem dX5_ofMorning_48 : decode cX5_ofMorning 48 = .ok (.aload_n 0, 1) := by decide +kernel
theorem dX5_ofMorning_49 : decode cX5_ofMorning 49 = .ok (.getfield 20, 3) := by decide +kernel
theorem dX5_ofMorning_52 : decode cX5_ofMorning 52 = .ok (.getfield 96, 3) := by decide +kernel
theorem dX5_ofMorning_55 : decode cX5_ofMorning 55 = .ok (.iload_n 1, 1) := by decide +kernel
theorem dX5_ofMorning_56 : decode cX5_ofMorning 56 = .ok (.iaload, 1) := by decide +kernel
theorem dX5_ofMorning_57 : decode cX5_ofMorning 57 = .ok (.ireturn, 1) := by decide +kernel
theorem dX5_ofMorning_58 : decode cX5_ofMorning 58 = .ok (.aload_n 0, 1) := by decide +kernel
theorem dX5_ofMorning_59 : decode cX5_ofMorning 59 = .ok (.getfield 20, 3) := by decide +kernel
theorem dX5_ofMorning_62 : decode cX5_ofMorning 62 = .ok (.getfield 100, 3) := by decide +kernel
theorem dX5_ofMorning_65 : decode cX5_ofMorning 65 = .ok (.iload_n 1, 1) := by decide +kernel
theorem dX5_ofMorning_66 : decode cX5_ofMorning 66 = .ok (.iaload, 1) := by decide +kernel
theorem dX5_ofMorning_67 : decode cX5_ofMorning 67 = .ok (.ireturn, 1) := by decide +kernel
theorem dX5_ofMorning_68 : decode cX5_ofMorning 68 = .ok (.aload_n 0, 1) := by decide +kernel
theorem dX5_ofMorning_69 : decode cX5_ofMorning 69 = .ok (.getfield 20, 3) := by decide +kernel
theorem dX5_ofMorning_72 : decode cX5_ofMorning 72 = .ok (.getfield 103, 3) := by decide +kernel
theorem dX5_ofMorning_75 : decode cX5_ofMorning 75 = .ok (.iload_n 1, 1) := by decide +kernel
theorem dX5_ofMorning_76 : decode cX5_ofMorning 76 = .ok (.iaload, 1) := by decide +kernel
theorem dX5_ofMorning_77 : decode cX5_ofMorning 77 = .ok (.ireturn, 1) := by decide +kernel
theorem dX5_ofMorning_78 : decode cX5_ofMorning 78 = .ok (.aload_n 0, 1) := by decide +kernel
theorem dX5_ofMorning_79 : decode cX5_ofMorning 79 = .ok (.getfield 20, 3) := by decide +kernel
theorem dX5_ofMorning_82 : decode cX5_ofMorning 82 = .ok (.getfield 106, 3) := by decide +kernel
theorem dX5_ofMorning_85 : decode cX5_ofMorning 85 = .ok (.iload_n 1, 1) := by decide +kernel
theorem dX5_ofMorning_86 : decode cX5_ofMorning 86 = .ok (.iaload, 1) := by decide +kernel
theorem dX5_ofMorning_87 : decode cX5_ofMorning 87 = .ok (.ireturn, 1) := by decide +kernel
theorem dX5_ofMorning_88 : decode cX5_ofMorning 88 = .ok (.aload_n 0, 1) := by decide +kernel
theorem dX5_ofMorning_89 : decode cX5_ofMorning 89 = .ok (.getfield 20, 3) := by decide +kernel
theorem dX5_ofMorning_92 : decode cX5_ofMorning 92 = .ok (.iload_n 1, 1) := by decide +kernel
theorem dX5_ofMorning_93 : decode cX5_ofMorning 93 = .ok (.invokevirtual 109, 3) := by decide +kernel
theorem dX5_ofMorning_96 : decode cX5_ofMorning 96 = .ok (.ifCond .eq 7, 3) := by decide +kernel
theorem dX5_ofMorning_99 : decode cX5_ofMorning 99 = .ok (.iconst 1, 1) := by decide +kernel
theorem dX5_ofMorning_100 : decode cX5_ofMorning 100 = .ok (.goto 4, 3) := by decide +kernel
theorem dX5_ofMorning_103 : decode cX5_ofMorning 103 = .ok (.iconst 0, 1) := by decide +kernel
theorem dX5_ofMorning_104 : decode cX5_ofMorning 104 = .ok (.ireturn, 1) := by decide +kernel
theorem dX5_ofMorning_105 : decode cX5_ofMorning 105 = .ok (.bipush (-2), 2) := by decide +kernel
theorem dX5_ofMorning_107 : decode cX5_ofMorning 107 = .ok (.ireturn, 1) := by decide +kernel
theorem dX5_ofPerson_0 : decode cX5_ofPerson 0 = .ok (.aload_n 0, 1) := by decide +kernel
theorem dX5_ofPerson_1 : decode cX5_ofPerson 1 = .ok (.getfield 20, 3) := by decide +kernel
theorem dX5_ofPerson_4 : decode cX5_ofPerson 4 = .ok (.iload_n 1, 1) := by decide +kernel
theorem dX5_ofPerson_5 : decode cX5_ofPerson 5 = .ok (.invokevirtual 112, 3) := by decide +kernel
theorem dX5_ofPerson_8 : decode cX5_ofPerson 8 = .ok (.ifCond .ne 5, 3) := by decide +kernel
theorem dX5_ofPerson_11 : decode cX5_ofPerson 11 = .ok (.iconst (-1), 1) := by decide +kernel
theorem dX5_ofPerson_12 : decode cX5_ofPerson 12 = .ok (.ireturn, 1) := by decide +kernel
theorem dX5_ofPerson_13 : decode cX5_ofPerson 13 = .ok (.iload_n 2, 1) := by decide +kernel
theorem dX5_ofPerson_14 : decode cX5_ofPerson 14 = .ok (.tableswitch 79 0 3 #[30, 40, 50, 62], 30) := by decide +kernel
theorem dX5_ofPerson_44 : decode cX5_ofPerson 44 = .ok (.aload_n 0, 1) := by decide +kernel
theorem dX5_ofPerson_45 : decode cX5_ofPerson 45 = .ok (.getfield 20, 3) := by decide +kernel
theorem dX5_ofPerson_48 : decode cX5_ofPerson 48 = .ok (.getfield 115, 3) := by decide +kernel
theorem dX5_ofPerson_51 : decode cX5_ofPerson 51 = .ok (.iload_n 1, 1) := by decide +kernel
theorem dX5_ofPerson_52 : decode cX5_ofPerson 52 = .ok (.iaload, 1) := by decide +kernel
theorem dX5_ofPerson_53 : decode cX5_ofPerson 53 = .ok (.ireturn, 1) := by decide +kernel
theorem dX5_ofPerson_54 : decode cX5_ofPerson 54 = .ok (.aload_n 0, 1) := by decide +kernel
theorem dX5_ofPerson_55 : decode cX5_ofPerson 55 = .ok (.getfield 20, 3) := by decide +kernel
theorem dX5_ofPerson_58 : decode cX5_ofPerson 58 = .ok (.getfield 118, 3) := by decide +kernel
theorem dX5_ofPerson_61 : decode cX5_ofPerson 61 = .ok (.iload_n 1, 1) := by decide +kernel
theorem dX5_ofPerson_62 : decode cX5_ofPerson 62 = .ok (.iaload, 1) := by decide +kernel
theorem dX5_ofPerson_63 : decode cX5_ofPerson 63 = .ok (.ireturn, 1) := by decide +kernel
theorem dX5_ofPerson_64 : decode cX5_ofPerson 64 = .ok (.aload_n 0, 1) := by decide +kernel
theorem dX5_ofPerson_65 : decode cX5_ofPerson 65 = .ok (.getfield 20, 3) := by decide +kernel
theorem dX5_ofPerson_68 : decode cX5_ofPerson 68 = .ok (.iload_n 1, 1) := by decide +kernel
theorem dX5_ofPerson_69 : decode cX5_ofPerson 69 = .ok (.invokevirtual 121, 3) := by decide +kernel
theorem dX5_ofPerson_72 : decode cX5_ofPerson 72 = .ok (.invokestatic 124, 3) := by decide +kernel
theorem dX5_ofPerson_75 : decode cX5_ofPerson 75 = .ok (.ireturn, 1) := by decide +kernel
theorem dX5_ofPerson_76 : decode cX5_ofPerson 76 = .ok (.aload_n 0, 1) := by decide +kernel
theorem dX5_ofPerson_77 : decode cX5_ofPerson 77 = .ok (.getfield 20, 3) := by decide +kernel
theorem dX5_ofPerson_80 : decode cX5_ofPerson 80 = .ok (.iload_n 1, 1) := by decide +kernel
theorem dX5_ofPerson_81 : decode cX5_ofPerson 81 = .ok (.invokevirtual 129, 3) := by decide +kernel
theorem dX5_ofPerson_84 : decode cX5_ofPerson 84 = .ok (.ifCond .eq 7, 3) := by decide +kernel
theorem dX5_ofPerson_87 : decode cX5_ofPerson 87 = .ok (.iconst 1, 1) := by decide +kernel
theorem dX5_ofPerson_88 : decode cX5_ofPerson 88 = .ok (.goto 4, 3) := by decide +kernel
theorem dX5_ofPerson_91 : decode cX5_ofPerson 91 = .ok (.iconst 0, 1) := by decide +kernel
theorem dX5_ofPerson_92 : decode cX5_ofPerson 92 = .ok (.ireturn, 1) := by decide +kernel
theorem dX5_ofPerson_93 : decode cX5_ofPerson 93 = .ok (.bipush (-2), 2) := by decide +kernel
theorem dX5_ofPerson_95 : decode cX5_ofPerson 95 = .ok (.ireturn, 1) := by decide +kernel
theorem dX5_fill_0 : decode cX5_fill 0 = .ok (.aload_n 0, 1) := by decide +kernel
theorem dX5_fill_1 : decode cX5_fill 1 = .ok (.getfield 20, 3) := by decide +kernel
theorem dX5_fill_4 : decode cX5_fill 4 = .ok (.iload_n 1, 1) := by decide +kernel
theorem dX5_fill_5 : decode cX5_fill 5 = .ok (.invokevirtual 112, 3) := by decide +kernel
theorem dX5_fill_8 : decode cX5_fill 8 = .ok (.ifCond .ne 5, 3) := by decide +kernel
theorem dX5_fill_11 : decode cX5_fill 11 = .ok (.iconst (-1), 1) := by decide +kernel
theorem dX5_fill_12 : decode cX5_fill 12 = .ok (.ireturn, 1) := by decide +kernel
theorem dX5_fill_13 : decode cX5_fill 13 = .ok (.iload_n 2, 1) := by decide +kernel
theorem dX5_fill_14 : decode cX5_fill 14 = .ok (.ifCond .lt 9, 3) := by decide +kernel
theorem dX5_fill_17 : decode cX5_fill 17 = .ok (.iload_n 2, 1) := by decide +kernel
theorem dX5_fill_18 : decode cX5_fill 18 = .ok (.bipush 99, 2) := by decide +kernel
theorem dX5_fill_20 : decode cX5_fill 20 = .ok (.if_icmp .le 6, 3) := by decide +kernel
theorem dX5_fill_23 : decode cX5_fill 23 = .ok (.bipush (-2), 2) := by decide +kernel
theorem dX5_fill_25 : decode cX5_fill 25 = .ok (.ireturn, 1) := by decide +kernel
theorem dX5_fill_26 : decode cX5_fill 26 = .ok (.aload_n 0, 1) := by decide +kernel
theorem dX5_fill_27 : decode cX5_fill 27 = .ok (.getfield 20, 3) := by decide +kernel
theorem dX5_fill_30 : decode cX5_fill 30 = .ok (.getfield 115, 3) := by decide +kernel
theorem dX5_fill_33 : decode cX5_fill 33 = .ok (.iload_n 1, 1) := by decide +kernel
theorem dX5_fill_34 : decode cX5_fill 34 = .ok (.iaload, 1) := by decide +kernel
theorem dX5_fill_35 : decode cX5_fill 35 = .ok (.istore_n 3, 1) := by decide +kernel
theorem dX5_fill_36 : decode cX5_fill 36 = .ok (.aload_n 0, 1) := by decide +kernel
theorem dX5_fill_37 : decode cX5_fill 37 = .ok (.getfield 20, 3) := by decide +kernel
theorem dX5_fill_40 : decode cX5_fill 40 = .ok (.getfield 115, 3) := by decide +kernel
theorem dX5_fill_43 : decode cX5_fill 43 = .ok (.iload_n 1, 1) := by decide +kernel
theorem dX5_fill_44 : decode cX5_fill 44 = .ok (.iload_n 2, 1) := by decide +kernel
theorem dX5_fill_45 : decode cX5_fill 45 = .ok (.iastore, 1) := by decide +kernel
theorem dX5_fill_46 : decode cX5_fill 46 = .ok (.iload_n 3, 1) := by decide +kernel
theorem dX5_fill_47 : decode cX5_fill 47 = .ok (.ireturn, 1) := by decide +kernel
theorem dX5_rate_0 : decode cX5_rate 0 = .ok (.iload_n 1, 1) := by decide +kernel
theorem dX5_rate_1 : decode cX5_rate 1 = .ok (.iconst 1, 1) := by decide +kernel
theorem dX5_rate_2 : decode cX5_rate 2 = .ok (.if_icmp .lt 9, 3) := by decide +kernel
theorem dX5_rate_5 : decode cX5_rate 5 = .ok (.iload_n 1, 1) := by decide +kernel
theorem dX5_rate_6 : decode cX5_rate 6 = .ok (.bipush 9, 2) := by decide +kernel
theorem dX5_rate_8 : decode cX5_rate 8 = .ok (.if_icmp .le 6, 3) := by decide +kernel
theorem dX5_rate_11 : decode cX5_rate 11 = .ok (.bipush (-2), 2) := by decide +kernel
theorem dX5_rate_13 : decode cX5_rate 13 = .ok (.ireturn, 1) := by decide +kernel
theorem dX5_rate_14 : decode cX5_rate 14 = .ok (.aload_n 0, 1) := by decide +kernel
theorem dX5_rate_15 : decode cX5_rate 15 = .ok (.getfield 20, 3) := by decide +kernel
theorem dX5_rate_18 : decode cX5_rate 18 = .ok (.invokevirtual 132, 3) := by decide +kernel
theorem dX5_rate_21 : decode cX5_rate 21 = .ok (.ifCond .ne 6, 3) := by decide +kernel
theorem dX5_rate_24 : decode cX5_rate 24 = .ok (.bipush (-3), 2) := by decide +kernel
theorem dX5_rate_26 : decode cX5_rate 26 = .ok (.ireturn, 1) := by decide +kernel
theorem dX5_rate_27 : decode cX5_rate 27 = .ok (.aload_n 0, 1) := by decide +kernel
theorem dX5_rate_28 : decode cX5_rate 28 = .ok (.getfield 20, 3) := by decide +kernel
theorem dX5_rate_31 : decode cX5_rate 31 = .ok (.getfield 135, 3) := by decide +kernel
theorem dX5_rate_34 : decode cX5_rate 34 = .ok (.istore_n 2, 1) := by decide +kernel
theorem dX5_rate_35 : decode cX5_rate 35 = .ok (.aload_n 0, 1) := by decide +kernel
theorem dX5_rate_36 : decode cX5_rate 36 = .ok (.getfield 20, 3) := by decide +kernel
theorem dX5_rate_39 : decode cX5_rate 39 = .ok (.iload_n 1, 1) := by decide +kernel
theorem dX5_rate_40 : decode cX5_rate 40 = .ok (.putfield 135, 3) := by decide +kernel
theorem dX5_rate_43 : decode cX5_rate 43 = .ok (.iload_n 2, 1) := by decide +kernel
theorem dX5_rate_44 : decode cX5_rate 44 = .ok (.ireturn, 1) := by decide +kernel
theorem dX5_fresh_0 : decode cX5_fresh 0 = .ok (.aload_n 0, 1) := by decide +kernel
theorem dX5_fresh_1 : decode cX5_fresh 1 = .ok (.getfield 20, 3) := by decide +kernel
theorem dX5_fresh_4 : decode cX5_fresh 4 = .ok (.iload_n 1, 1) := by decide +kernel
theorem dX5_fresh_5 : decode cX5_fresh 5 = .ok (.invokevirtual 93, 3) := by decide +kernel
theorem dX5_fresh_8 : decode cX5_fresh 8 = .ok (.ifCond .ne 5, 3) := by decide +kernel
theorem dX5_fresh_11 : decode cX5_fresh 11 = .ok (.iconst (-1), 1) := by decide +kernel
theorem dX5_fresh_12 : decode cX5_fresh 12 = .ok (.ireturn, 1) := by decide +kernel
theorem dX5_fresh_13 : decode cX5_fresh 13 = .ok (.iload_n 2, 1) := by decide +kernel
theorem dX5_fresh_14 : decode cX5_fresh 14 = .ok (.ifCond .lt 9, 3) := by decide +kernel
theorem dX5_fresh_17 : decode cX5_fresh 17 = .ok (.iload_n 2, 1) := by decide +kernel
theorem dX5_fresh_18 : decode cX5_fresh 18 = .ok (.bipush 99, 2) := by decide +kernel
theorem dX5_fresh_20 : decode cX5_fresh 20 = .ok (.if_icmp .le 6, 3) := by decide +kernel
theorem dX5_fresh_23 : decode cX5_fresh 23 = .ok (.bipush (-2), 2) := by decide +kernel
theorem dX5_fresh_25 : decode cX5_fresh 25 = .ok (.ireturn, 1) := by decide +kernel
theorem dX5_fresh_26 : decode cX5_fresh 26 = .ok (.aload_n 0, 1) := by decide +kernel
theorem dX5_fresh_27 : decode cX5_fresh 27 = .ok (.getfield 20, 3) := by decide +kernel
theorem dX5_fresh_30 : decode cX5_fresh 30 = .ok (.iload_n 1, 1) := by decide +kernel
theorem dX5_fresh_31 : decode cX5_fresh 31 = .ok (.iload_n 2, 1) := by decide +kernel
theorem dX5_fresh_32 : decode cX5_fresh 32 = .ok (.invokevirtual 138, 3) := by decide +kernel
theorem dX5_fresh_35 : decode cX5_fresh 35 = .ok (.ireturn, 1) := by decide +kernel
theorem dX5_price_0 : decode cX5_price 0 = .ok (.aload_n 0, 1) := by decide +kernel
theorem dX5_price_1 : decode cX5_price 1 = .ok (.getfield 20, 3) := by decide +kernel
theorem dX5_price_4 : decode cX5_price 4 = .ok (.iload_n 1, 1) := by decide +kernel
theorem dX5_price_5 : decode cX5_price 5 = .ok (.invokevirtual 93, 3) := by decide +kernel
theorem dX5_price_8 : decode cX5_price 8 = .ok (.ifCond .ne 5, 3) := by decide +kernel
theorem dX5_price_11 : decode cX5_price 11 = .ok (.iconst (-1), 1) := by decide +kernel
theorem dX5_price_12 : decode cX5_price 12 = .ok (.ireturn, 1) := by decide +kernel
theorem dX5_price_13 : decode cX5_price 13 = .ok (.aload_n 0, 1) := by decide +kernel
theorem dX5_price_14 : decode cX5_price 14 = .ok (.getfield 20, 3) := by decide +kernel
theorem dX5_price_17 : decode cX5_price 17 = .ok (.iload_n 1, 1) := by decide +kernel
theorem dX5_price_18 : decode cX5_price 18 = .ok (.invokevirtual 142, 3) := by decide +kernel
theorem dX5_price_21 : decode cX5_price 21 = .ok (.ireturn, 1) := by decide +kernel
theorem dX5_sell_0 : decode cX5_sell 0 = .ok (.aload_n 0, 1) := by decide +kernel
theorem dX5_sell_1 : decode cX5_sell 1 = .ok (.getfield 20, 3) := by decide +kernel
theorem dX5_sell_4 : decode cX5_sell 4 = .ok (.iload_n 1, 1) := by decide +kernel
theorem dX5_sell_5 : decode cX5_sell 5 = .ok (.invokevirtual 93, 3) := by decide +kernel
theorem dX5_sell_8 : decode cX5_sell 8 = .ok (.ifCond .eq 14, 3) := by decide +kernel
theorem dX5_sell_11 : decode cX5_sell 11 = .ok (.aload_n 0, 1) := by decide +kernel
theorem dX5_sell_12 : decode cX5_sell 12 = .ok (.getfield 20, 3) := by decide +kernel
theorem dX5_sell_15 : decode cX5_sell 15 = .ok (.iload_n 2, 1) := by decide +kernel
theorem dX5_sell_16 : decode cX5_sell 16 = .ok (.invokevirtual 112, 3) := by decide +kernel
theorem dX5_sell_19 : decode cX5_sell 19 = .ok (.ifCond .ne 5, 3) := by decide +kernel
theorem dX5_sell_22 : decode cX5_sell 22 = .ok (.iconst (-1), 1) := by decide +kernel
theorem dX5_sell_23 : decode cX5_sell 23 = .ok (.ireturn, 1) := by decide +kernel
theorem dX5_sell_24 : decode cX5_sell 24 = .ok (.aload_n 0, 1) := by decide +kernel
theorem dX5_sell_25 : decode cX5_sell 25 = .ok (.getfield 20, 3) := by decide +kernel
theorem dX5_sell_28 : decode cX5_sell 28 = .ok (.iload_n 1, 1) := by decide +kernel
theorem dX5_sell_29 : decode cX5_sell 29 = .ok (.iload_n 2, 1) := by decide +kernel
theorem dX5_sell_30 : decode cX5_sell 30 = .ok (.invokevirtual 145, 3) := by decide +kernel
theorem dX5_sell_33 : decode cX5_sell 33 = .ok (.ifCond .ne 6, 3) := by decide +kernel
theorem dX5_sell_36 : decode cX5_sell 36 = .ok (.bipush (-3), 2) := by decide +kernel
theorem dX5_sell_38 : decode cX5_sell 38 = .ok (.ireturn, 1) := by decide +kernel
theorem dX5_sell_39 : decode cX5_sell 39 = .ok (.aload_n 0, 1) := by decide +kernel
theorem dX5_sell_40 : decode cX5_sell 40 = .ok (.getfield 20, 3) := by decide +kernel
theorem dX5_sell_43 : decode cX5_sell 43 = .ok (.iload_n 1, 1) := by decide +kernel
theorem dX5_sell_44 : decode cX5_sell 44 = .ok (.iload_n 2, 1) := by decide +kernel
theorem dX5_sell_45 : decode cX5_sell 45 = .ok (.invokevirtual 148, 3) := by decide +kernel
theorem dX5_sell_48 : decode cX5_sell 48 = .ok (.ireturn, 1) := by decide +kernel
theorem dX5_open_0 : decode cX5_open 0 = .ok (.aload_n 0, 1) := by decide +kernel
theorem dX5_open_1 : decode cX5_open 1 = .ok (.getfield 20, 3) := by decide +kernel
theorem dX5_open_4 : decode cX5_open 4 = .ok (.iload_n 1, 1) := by decide +kernel
theorem dX5_open_5 : decode cX5_open 5 = .ok (.invokevirtual 93, 3) := by decide +kernel
theorem dX5_open_8 : decode cX5_open 8 = .ok (.ifCond .ne 5, 3) := by decide +kernel
theorem dX5_open_11 : decode cX5_open 11 = .ok (.iconst (-1), 1) := by decide +kernel
theorem dX5_open_12 : decode cX5_open 12 = .ok (.ireturn, 1) := by decide +kernel
theorem dX5_open_13 : decode cX5_open 13 = .ok (.aload_n 0, 1) := by decide +kernel
theorem dX5_open_14 : decode cX5_open 14 = .ok (.getfield 20, 3) := by decide +kernel
theorem dX5_open_17 : decode cX5_open 17 = .ok (.iload_n 1, 1) := by decide +kernel
theorem dX5_open_18 : decode cX5_open 18 = .ok (.invokevirtual 109, 3) := by decide +kernel
theorem dX5_open_21 : decode cX5_open 21 = .ok (.ifCond .eq 6, 3) := by decide +kernel
theorem dX5_open_24 : decode cX5_open 24 = .ok (.bipush (-3), 2) := by decide +kernel
theorem dX5_open_26 : decode cX5_open 26 = .ok (.ireturn, 1) := by decide +kernel
theorem dX5_open_27 : decode cX5_open 27 = .ok (.aload_n 0, 1) := by decide +kernel
theorem dX5_open_28 : decode cX5_open 28 = .ok (.getfield 20, 3) := by decide +kernel
theorem dX5_open_31 : decode cX5_open 31 = .ok (.iload_n 1, 1) := by decide +kernel
theorem dX5_open_32 : decode cX5_open 32 = .ok (.invokevirtual 151, 3) := by decide +kernel
theorem dX5_open_35 : decode cX5_open 35 = .ok (.ireturn, 1) := by decide +kernel
theorem dX5_sleep_0 : decode cX5_sleep 0 = .ok (.iload_n 1, 1) := by decide +kernel
theorem dX5_sleep_1 : decode cX5_sleep 1 = .ok (.ifCond .lt 9, 3) := by decide +kernel
theorem dX5_sleep_4 : decode cX5_sleep 4 = .ok (.iload_n 1, 1) := by decide +kernel
theorem dX5_sleep_5 : decode cX5_sleep 5 = .ok (.bipush 9, 2) := by decide +kernel
theorem dX5_sleep_7 : decode cX5_sleep 7 = .ok (.if_icmp .le 6, 3) := by decide +kernel
theorem dX5_sleep_10 : decode cX5_sleep 10 = .ok (.bipush (-2), 2) := by decide +kernel
theorem dX5_sleep_12 : decode cX5_sleep 12 = .ok (.ireturn, 1) := by decide +kernel
theorem dX5_sleep_13 : decode cX5_sleep 13 = .ok (.aload_n 0, 1) := by decide +kernel
theorem dX5_sleep_14 : decode cX5_sleep 14 = .ok (.getfield 20, 3) := by decide +kernel
theorem dX5_sleep_17 : decode cX5_sleep 17 = .ok (.invokevirtual 132, 3) := by decide +kernel
theorem dX5_sleep_20 : decode cX5_sleep 20 = .ok (.ifCond .eq 14, 3) := by decide +kernel
theorem dX5_sleep_23 : decode cX5_sleep 23 = .ok (.aload_n 0, 1) := by decide +kernel
theorem dX5_sleep_24 : decode cX5_sleep 24 = .ok (.getfield 20, 3) := by decide +kernel
theorem dX5_sleep_27 : decode cX5_sleep 27 = .ok (.iload_n 1, 1) := by decide +kernel
theorem dX5_sleep_28 : decode cX5_sleep 28 = .ok (.invokevirtual 154, 3) := by decide +kernel
theorem dX5_sleep_31 : decode cX5_sleep 31 = .ok (.ifCond .ne 6, 3) := by decide +kernel
theorem dX5_sleep_34 : decode cX5_sleep 34 = .ok (.bipush (-3), 2) := by decide +kernel
theorem dX5_sleep_36 : decode cX5_sleep 36 = .ok (.ireturn, 1) := by decide +kernel
theorem dX5_sleep_37 : decode cX5_sleep 37 = .ok (.aload_n 0, 1) := by decide +kernel
theorem dX5_sleep_38 : decode cX5_sleep 38 = .ok (.getfield 20, 3) := by decide +kernel
theorem dX5_sleep_41 : decode cX5_sleep 41 = .ok (.dup, 1) := by decide +kernel
theorem dX5_sleep_42 : decode cX5_sleep 42 = .ok (.getfield 157, 3) := by decide +kernel
theorem dX5_sleep_45 : decode cX5_sleep 45 = .ok (.iload_n 1, 1) := by decide +kernel
theorem dX5_sleep_46 : decode cX5_sleep 46 = .ok (.iadd, 1) := by decide +kernel
theorem dX5_sleep_47 : decode cX5_sleep 47 = .ok (.putfield 157, 3) := by decide +kernel
theorem dX5_sleep_50 : decode cX5_sleep 50 = .ok (.aload_n 0, 1) := by decide +kernel
theorem dX5_sleep_51 : decode cX5_sleep 51 = .ok (.getfield 20, 3) := by decide +kernel
theorem dX5_sleep_54 : decode cX5_sleep 54 = .ok (.getfield 157, 3) := by decide +kernel
theorem dX5_sleep_57 : decode cX5_sleep 57 = .ok (.ireturn, 1) := by decide +kernel
theorem dX5_year_0 : decode cX5_year 0 = .ok (.aload_n 0, 1) := by decide +kernel
theorem dX5_year_1 : decode cX5_year 1 = .ok (.iconst 0, 1) := by decide +kernel
theorem dX5_year_2 : decode cX5_year 2 = .ok (.putfield 52, 3) := by decide +kernel
theorem dX5_year_5 : decode cX5_year 5 = .ok (.aload_n 0, 1) := by decide +kernel
theorem dX5_year_6 : decode cX5_year 6 = .ok (.iload_n 1, 1) := by decide +kernel
theorem dX5_year_7 : decode cX5_year 7 = .ok (.invokevirtual 56, 3) := by decide +kernel
theorem dX5_year_10 : decode cX5_year 10 = .ok (.astore 6, 2) := by decide +kernel
theorem dX5_year_12 : decode cX5_year 12 = .ok (.aload 6, 2) := by decide +kernel
theorem dX5_year_14 : decode cX5_year 14 = .ok (.ifnonnull 5, 3) := by decide +kernel
theorem dX5_year_17 : decode cX5_year 17 = .ok (.iconst (-1), 1) := by decide +kernel
theorem dX5_year_18 : decode cX5_year 18 = .ok (.ireturn, 1) := by decide +kernel
theorem dX5_year_19 : decode cX5_year 19 = .ok (.iload_n 2, 1) := by decide +kernel
theorem dX5_year_20 : decode cX5_year 20 = .ok (.invokestatic 60, 3) := by decide +kernel
theorem dX5_year_23 : decode cX5_year 23 = .ok (.ifCond .eq 23, 3) := by decide +kernel
theorem dX5_year_26 : decode cX5_year 26 = .ok (.iload 4, 2) := by decide +kernel
theorem dX5_year_28 : decode cX5_year 28 = .ok (.ifCond .lt 18, 3) := by decide +kernel
theorem dX5_year_31 : decode cX5_year 31 = .ok (.iload 4, 2) := by decide +kernel
theorem dX5_year_33 : decode cX5_year 33 = .ok (.bipush 20, 2) := by decide +kernel
theorem dX5_year_35 : decode cX5_year 35 = .ok (.if_icmp .gt 11, 3) := by decide +kernel
theorem dX5_year_38 : decode cX5_year 38 = .ok (.iload 5, 2) := by decide +kernel
theorem dX5_year_40 : decode cX5_year 40 = .ok (.invokestatic 160, 3) := by decide +kernel
theorem dX5_year_43 : decode cX5_year 43 = .ok (.ifCond .ne 6, 3) := by decide +kernel
theorem dX5_year_46 : decode cX5_year 46 = .ok (.bipush (-2), 2) := by decide +kernel
theorem dX5_year_48 : decode cX5_year 48 = .ok (.ireturn, 1) := by decide +kernel
theorem dX5_year_49 : decode cX5_year 49 = .ok (.aload 6, 2) := by decide +kernel
theorem dX5_year_51 : decode cX5_year 51 = .ok (.iload_n 2, 1) := by decide +kernel
theorem dX5_year_52 : decode cX5_year 52 = .ok (.invokevirtual 64, 3) := by decide +kernel
theorem dX5_year_55 : decode cX5_year 55 = .ok (.ifCond .eq 9, 3) := by decide +kernel
theorem dX5_year_58 : decode cX5_year 58 = .ok (.aload_n 0, 1) := by decide +kernel
theorem dX5_year_59 : decode cX5_year 59 = .ok (.iconst 2, 1) := by decide +kernel
theorem dX5_year_60 : decode cX5_year 60 = .ok (.invokevirtual 67, 3) := by decide +kernel
theorem dX5_year_63 : decode cX5_year 63 = .ok (.ireturn, 1) := by decide +kernel
theorem dX5_year_64 : decode cX5_year 64 = .ok (.aload 6, 2) := by decide +kernel
theorem dX5_year_66 : decode cX5_year 66 = .ok (.invokevirtual 71, 3) := by decide +kernel
theorem dX5_year_69 : decode cX5_year 69 = .ok (.ifCond .ne 9, 3) := by decide +kernel
theorem dX5_year_72 : decode cX5_year 72 = .ok (.aload_n 0, 1) := by decide +kernel
theorem dX5_year_73 : decode cX5_year 73 = .ok (.iconst 1, 1) := by decide +kernel
theorem dX5_year_74 : decode cX5_year 74 = .ok (.invokevirtual 67, 3) := by decide +kernel
theorem dX5_year_77 : decode cX5_year 77 = .ok (.ireturn, 1) := by decide +kernel
theorem dX5_year_78 : decode cX5_year 78 = .ok (.aload 6, 2) := by decide +kernel
theorem dX5_year_80 : decode cX5_year 80 = .ok (.iload_n 3, 1) := by decide +kernel
theorem dX5_year_81 : decode cX5_year 81 = .ok (.iconst 2, 1) := by decide +kernel
theorem dX5_year_82 : decode cX5_year 82 = .ok (.iload 4, 2) := by decide +kernel
theorem dX5_year_84 : decode cX5_year 84 = .ok (.imul, 1) := by decide +kernel
theorem dX5_year_85 : decode cX5_year 85 = .ok (.invokevirtual 75, 3) := by decide +kernel
theorem dX5_year_88 : decode cX5_year 88 = .ok (.ifCond .ne 9, 3) := by decide +kernel
theorem dX5_year_91 : decode cX5_year 91 = .ok (.aload_n 0, 1) := by decide +kernel
theorem dX5_year_92 : decode cX5_year 92 = .ok (.iconst 3, 1) := by decide +kernel
theorem dX5_year_93 : decode cX5_year 93 = .ok (.invokevirtual 67, 3) := by decide +kernel
theorem dX5_year_96 : decode cX5_year 96 = .ok (.ireturn, 1) := by decide +kernel
theorem dX5_year_97 : decode cX5_year 97 = .ok (.aload_n 0, 1) := by decide +kernel
theorem dX5_year_98 : decode cX5_year 98 = .ok (.getfield 20, 3) := by decide +kernel
theorem dX5_year_101 : decode cX5_year 101 = .ok (.invokevirtual 132, 3) := by decide +kernel
theorem dX5_year_104 : decode cX5_year 104 = .ok (.ifCond .ne 6, 3) := by decide +kernel
theorem dX5_year_107 : decode cX5_year 107 = .ok (.bipush (-3), 2) := by decide +kernel
theorem dX5_year_109 : decode cX5_year 109 = .ok (.ireturn, 1) := by decide +kernel
theorem dX5_year_110 : decode cX5_year 110 = .ok (.aload_n 0, 1) := by decide +kernel
theorem dX5_year_111 : decode cX5_year 111 = .ok (.aload 6, 2) := by decide +kernel
theorem dX5_year_113 : decode cX5_year 113 = .ok (.iload_n 3, 1) := by decide +kernel
theorem dX5_year_114 : decode cX5_year 114 = .ok (.iload 4, 2) := by decide +kernel
theorem dX5_year_116 : decode cX5_year 116 = .ok (.invokevirtual 163, 3) := by decide +kernel
theorem dX5_year_119 : decode cX5_year 119 = .ok (.istore 7, 2) := by decide +kernel
theorem dX5_year_121 : decode cX5_year 121 = .ok (.iload 7, 2) := by decide +kernel
theorem dX5_year_123 : decode cX5_year 123 = .ok (.ifCond .eq 6, 3) := by decide +kernel
theorem dX5_year_126 : decode cX5_year 126 = .ok (.iload 7, 2) := by decide +kernel
theorem dX5_year_128 : decode cX5_year 128 = .ok (.ireturn, 1) := by decide +kernel
theorem dX5_year_129 : decode cX5_year 129 = .ok (.aload_n 0, 1) := by decide +kernel
theorem dX5_year_130 : decode cX5_year 130 = .ok (.getfield 24, 3) := by decide +kernel
theorem dX5_year_133 : decode cX5_year 133 = .ok (.aload_n 0, 1) := by decide +kernel
theorem dX5_year_134 : decode cX5_year 134 = .ok (.getfield 20, 3) := by decide +kernel
theorem dX5_year_137 : decode cX5_year 137 = .ok (.invokevirtual 83, 3) := by decide +kernel
theorem dX5_year_140 : decode cX5_year 140 = .ok (.aload_n 0, 1) := by decide +kernel
theorem dX5_year_141 : decode cX5_year 141 = .ok (.getfield 24, 3) := by decide +kernel
theorem dX5_year_144 : decode cX5_year 144 = .ok (.invokevirtual 167, 3) := by decide +kernel
theorem dX5_year_147 : decode cX5_year 147 = .ok (.aload_n 0, 1) := by decide +kernel
theorem dX5_year_148 : decode cX5_year 148 = .ok (.aload 6, 2) := by decide +kernel
theorem dX5_year_150 : decode cX5_year 150 = .ok (.iload_n 3, 1) := by decide +kernel
theorem dX5_year_151 : decode cX5_year 151 = .ok (.iload 4, 2) := by decide +kernel
theorem dX5_year_153 : decode cX5_year 153 = .ok (.invokevirtual 170, 3) := by decide +kernel
theorem dX5_year_156 : decode cX5_year 156 = .ok (.istore 8, 2) := by decide +kernel
theorem dX5_year_158 : decode cX5_year 158 = .ok (.iload 5, 2) := by decide +kernel
theorem dX5_year_160 : decode cX5_year 160 = .ok (.iconst 1, 1) := by decide +kernel
theorem dX5_year_161 : decode cX5_year 161 = .ok (.if_icmp .ne 6, 3) := by decide +kernel
theorem dX5_year_164 : decode cX5_year 164 = .ok (.iload 8, 2) := by decide +kernel
theorem dX5_year_166 : decode cX5_year 166 = .ok (.ireturn, 1) := by decide +kernel
theorem dX5_year_167 : decode cX5_year 167 = .ok (.iload 8, 2) := by decide +kernel
theorem dX5_year_169 : decode cX5_year 169 = .ok (.bipush (-9), 2) := by decide +kernel
theorem dX5_year_171 : decode cX5_year 171 = .ok (.if_icmp .eq 9, 3) := by decide +kernel
theorem dX5_year_174 : decode cX5_year 174 = .ok (.bipush (-100), 2) := by decide +kernel
theorem dX5_year_176 : decode cX5_year 176 = .ok (.iload 8, 2) := by decide +kernel
theorem dX5_year_178 : decode cX5_year 178 = .ok (.isub, 1) := by decide +kernel
theorem dX5_year_179 : decode cX5_year 179 = .ok (.ireturn, 1) := by decide +kernel
theorem dX5_year_180 : decode cX5_year 180 = .ok (.aload_n 0, 1) := by decide +kernel
theorem dX5_year_181 : decode cX5_year 181 = .ok (.iload 5, 2) := by decide +kernel
theorem dX5_year_183 : decode cX5_year 183 = .ok (.invokevirtual 173, 3) := by decide +kernel
theorem dX5_year_186 : decode cX5_year 186 = .ok (.ireturn, 1) := by decide +kernel
theorem dX5_feast_0 : decode cX5_feast 0 = .ok (.aload_n 0, 1) := by decide +kernel
theorem dX5_feast_1 : decode cX5_feast 1 = .ok (.getfield 20, 3) := by decide +kernel
theorem dX5_feast_4 : decode cX5_feast 4 = .ok (.iload_n 1, 1) := by decide +kernel
theorem dX5_feast_5 : decode cX5_feast 5 = .ok (.invokevirtual 112, 3) := by decide +kernel
theorem dX5_feast_8 : decode cX5_feast 8 = .ok (.ifCond .ne 5, 3) := by decide +kernel
theorem dX5_feast_11 : decode cX5_feast 11 = .ok (.iconst (-1), 1) := by decide +kernel
theorem dX5_feast_12 : decode cX5_feast 12 = .ok (.ireturn, 1) := by decide +kernel
theorem dX5_feast_13 : decode cX5_feast 13 = .ok (.aload_n 0, 1) := by decide +kernel
theorem dX5_feast_14 : decode cX5_feast 14 = .ok (.getfield 20, 3) := by decide +kernel
theorem dX5_feast_17 : decode cX5_feast 17 = .ok (.iload_n 1, 1) := by decide +kernel
theorem dX5_feast_18 : decode cX5_feast 18 = .ok (.aload_n 0, 1) := by decide +kernel
theorem dX5_feast_19 : decode cX5_feast 19 = .ok (.getfield 20, 3) := by decide +kernel
theorem dX5_feast_22 : decode cX5_feast 22 = .ok (.iload_n 1, 1) := by decide +kernel
theorem dX5_feast_23 : decode cX5_feast 23 = .ok (.invokevirtual 121, 3) := by decide +kernel
theorem dX5_feast_26 : decode cX5_feast 26 = .ok (.invokevirtual 176, 3) := by decide +kernel
theorem dX5_feast_29 : decode cX5_feast 29 = .ok (.ireturn, 1) := by decide +kernel
theorem dX5_keep_0 : decode cX5_keep 0 = .ok (.aload_n 0, 1) := by decide +kernel
theorem dX5_keep_1 : decode cX5_keep 1 = .ok (.getfield 20, 3) := by decide +kernel
theorem dX5_keep_4 : decode cX5_keep 4 = .ok (.iload_n 1, 1) := by decide +kernel
theorem dX5_keep_5 : decode cX5_keep 5 = .ok (.invokevirtual 112, 3) := by decide +kernel
theorem dX5_keep_8 : decode cX5_keep 8 = .ok (.ifCond .ne 5, 3) := by decide +kernel
theorem dX5_keep_11 : decode cX5_keep 11 = .ok (.iconst (-1), 1) := by decide +kernel
theorem dX5_keep_12 : decode cX5_keep 12 = .ok (.ireturn, 1) := by decide +kernel
theorem dX5_keep_13 : decode cX5_keep 13 = .ok (.iload_n 2, 1) := by decide +kernel
theorem dX5_keep_14 : decode cX5_keep 14 = .ok (.iconst 1, 1) := by decide +kernel
theorem dX5_keep_15 : decode cX5_keep 15 = .ok (.if_icmp .lt 19, 3) := by decide +kernel
theorem dX5_keep_18 : decode cX5_keep 18 = .ok (.iload_n 2, 1) := by decide +kernel
theorem dX5_keep_19 : decode cX5_keep 19 = .ok (.iconst 3, 1) := by decide +kernel
theorem dX5_keep_20 : decode cX5_keep 20 = .ok (.if_icmp .gt 14, 3) := by decide +kernel
theorem dX5_keep_23 : decode cX5_keep 23 = .ok (.iload_n 3, 1) := by decide +kernel
theorem dX5_keep_24 : decode cX5_keep 24 = .ok (.iconst (-1), 1) := by decide +kernel
theorem dX5_keep_25 : decode cX5_keep 25 = .ok (.if_icmp .lt 9, 3) := by decide +kernel
theorem dX5_keep_28 : decode cX5_keep 28 = .ok (.iload_n 3, 1) := by decide +kernel
theorem dX5_keep_29 : decode cX5_keep 29 = .ok (.bipush 6, 2) := by decide +kernel
theorem dX5_keep_31 : decode cX5_keep 31 = .ok (.if_icmp .lt 6, 3) := by decide +kernel
theorem dX5_keep_34 : decode cX5_keep 34 = .ok (.bipush (-2), 2) := by decide +kernel
theorem dX5_keep_36 : decode cX5_keep 36 = .ok (.ireturn, 1) := by decide +kernel
theorem dX5_keep_37 : decode cX5_keep 37 = .ok (.aload_n 0, 1) := by decide +kernel
theorem dX5_keep_38 : decode cX5_keep 38 = .ok (.getfield 37, 3) := by decide +kernel
theorem dX5_keep_41 : decode cX5_keep 41 = .ok (.aload_n 0, 1) := by decide +kernel
theorem dX5_keep_42 : decode cX5_keep 42 = .ok (.getfield 20, 3) := by decide +kernel
theorem dX5_keep_45 : decode cX5_keep 45 = .ok (.iload_n 1, 1) := by decide +kernel
theorem dX5_keep_46 : decode cX5_keep 46 = .ok (.iload_n 2, 1) := by decide +kernel
theorem dX5_keep_47 : decode cX5_keep 47 = .ok (.invokevirtual 179, 3) := by decide +kernel
theorem dX5_keep_50 : decode cX5_keep 50 = .ok (.iload_n 3, 1) := by decide +kernel
theorem dX5_keep_51 : decode cX5_keep 51 = .ok (.iconst (-1), 1) := by decide +kernel
theorem dX5_keep_52 : decode cX5_keep 52 = .ok (.if_icmp .ne 13, 3) := by decide +kernel
theorem dX5_keep_55 : decode cX5_keep 55 = .ok (.aload_n 0, 1) := by decide +kernel
theorem dX5_keep_56 : decode cX5_keep 56 = .ok (.getfield 37, 3) := by decide +kernel
theorem dX5_keep_59 : decode cX5_keep 59 = .ok (.getfield 183, 3) := by decide +kernel
theorem dX5_keep_62 : decode cX5_keep 62 = .ok (.goto 11, 3) := by decide +kernel
theorem dX5_keep_65 : decode cX5_keep 65 = .ok (.aload_n 0, 1) := by decide +kernel
theorem dX5_keep_66 : decode cX5_keep 66 = .ok (.getfield 37, 3) := by decide +kernel
theorem dX5_keep_69 : decode cX5_keep 69 = .ok (.iload_n 3, 1) := by decide +kernel
theorem dX5_keep_70 : decode cX5_keep 70 = .ok (.invokevirtual 186, 3) := by decide +kernel
theorem dX5_keep_73 : decode cX5_keep 73 = .ok (.ireturn, 1) := by decide +kernel
theorem dX5_buy_0 : decode cX5_buy 0 = .ok (.aload_n 0, 1) := by decide +kernel
theorem dX5_buy_1 : decode cX5_buy 1 = .ok (.getfield 20, 3) := by decide +kernel
theorem dX5_buy_4 : decode cX5_buy 4 = .ok (.iload_n 1, 1) := by decide +kernel
theorem dX5_buy_5 : decode cX5_buy 5 = .ok (.invokevirtual 112, 3) := by decide +kernel
theorem dX5_buy_8 : decode cX5_buy 8 = .ok (.ifCond .ne 5, 3) := by decide +kernel
theorem dX5_buy_11 : decode cX5_buy 11 = .ok (.iconst (-1), 1) := by decide +kernel
theorem dX5_buy_12 : decode cX5_buy 12 = .ok (.ireturn, 1) := by decide +kernel
theorem dX5_buy_13 : decode cX5_buy 13 = .ok (.iload_n 2, 1) := by decide +kernel
theorem dX5_buy_14 : decode cX5_buy 14 = .ok (.ifCond .lt 18, 3) := by decide +kernel
theorem dX5_buy_17 : decode cX5_buy 17 = .ok (.iload_n 2, 1) := by decide +kernel
theorem dX5_buy_18 : decode cX5_buy 18 = .ok (.bipush 99, 2) := by decide +kernel
theorem dX5_buy_20 : decode cX5_buy 20 = .ok (.if_icmp .gt 12, 3) := by decide +kernel
theorem dX5_buy_23 : decode cX5_buy 23 = .ok (.iload_n 3, 1) := by decide +kernel
theorem dX5_buy_24 : decode cX5_buy 24 = .ok (.ifCond .lt 8, 3) := by decide +kernel
theorem dX5_buy_27 : decode cX5_buy 27 = .ok (.iload_n 3, 1) := by decide +kernel
theorem dX5_buy_28 : decode cX5_buy 28 = .ok (.iconst 1, 1) := by decide +kernel
theorem dX5_buy_29 : decode cX5_buy 29 = .ok (.if_icmp .le 6, 3) := by decide +kernel
theorem dX5_buy_32 : decode cX5_buy 32 = .ok (.bipush (-2), 2) := by decide +kernel
theorem dX5_buy_34 : decode cX5_buy 34 = .ok (.ireturn, 1) := by decide +kernel
theorem dX5_buy_35 : decode cX5_buy 35 = .ok (.aload_n 0, 1) := by decide +kernel
theorem dX5_buy_36 : decode cX5_buy 36 = .ok (.iload_n 1, 1) := by decide +kernel
theorem dX5_buy_37 : decode cX5_buy 37 = .ok (.iload_n 2, 1) := by decide +kernel
theorem dX5_buy_38 : decode cX5_buy 38 = .ok (.invokevirtual 189, 3) := by decide +kernel
theorem dX5_buy_41 : decode cX5_buy 41 = .ok (.istore 4, 2) := by decide +kernel
theorem dX5_buy_43 : decode cX5_buy 43 = .ok (.iload 4, 2) := by decide +kernel
theorem dX5_buy_45 : decode cX5_buy 45 = .ok (.bipush (-9), 2) := by decide +kernel
theorem dX5_buy_47 : decode cX5_buy 47 = .ok (.if_icmp .eq 8, 3) := by decide +kernel
theorem dX5_buy_50 : decode cX5_buy 50 = .ok (.iload_n 3, 1) := by decide +kernel
theorem dX5_buy_51 : decode cX5_buy 51 = .ok (.iconst 1, 1) := by decide +kernel
theorem dX5_buy_52 : decode cX5_buy 52 = .ok (.if_icmp .ne 8, 3) := by decide +kernel
theorem dX5_buy_55 : decode cX5_buy 55 = .ok (.iload 4, 2) := by decide +kernel
theorem dX5_buy_57 : decode cX5_buy 57 = .ok (.goto 12, 3) := by decide +kernel
theorem dX5_buy_60 : decode cX5_buy 60 = .ok (.aload_n 0, 1) := by decide +kernel
theorem dX5_buy_61 : decode cX5_buy 61 = .ok (.getfield 20, 3) := by decide +kernel
theorem dX5_buy_64 : decode cX5_buy 64 = .ok (.iload 4, 2) := by decide +kernel
theorem dX5_buy_66 : decode cX5_buy 66 = .ok (.invokevirtual 192, 3) := by decide +kernel
theorem dX5_buy_69 : decode cX5_buy 69 = .ok (.ireturn, 1) := by decide +kernel
theorem dX5_debt_0 : decode cX5_debt 0 = .ok (.aload_n 0, 1) := by decide +kernel
theorem dX5_debt_1 : decode cX5_debt 1 = .ok (.getfield 20, 3) := by decide +kernel
theorem dX5_debt_4 : decode cX5_debt 4 = .ok (.iload_n 1, 1) := by decide +kernel
theorem dX5_debt_5 : decode cX5_debt 5 = .ok (.invokevirtual 112, 3) := by decide +kernel
theorem dX5_debt_8 : decode cX5_debt 8 = .ok (.ifCond .ne 5, 3) := by decide +kernel
theorem dX5_debt_11 : decode cX5_debt 11 = .ok (.iconst (-1), 1) := by decide +kernel
theorem dX5_debt_12 : decode cX5_debt 12 = .ok (.ireturn, 1) := by decide +kernel
theorem dX5_debt_13 : decode cX5_debt 13 = .ok (.iload_n 2, 1) := by decide +kernel
theorem dX5_debt_14 : decode cX5_debt 14 = .ok (.ifCond .lt 19, 3) := by decide +kernel
theorem dX5_debt_17 : decode cX5_debt 17 = .ok (.iload_n 2, 1) := by decide +kernel
theorem dX5_debt_18 : decode cX5_debt 18 = .ok (.sipush 999, 3) := by decide +kernel
theorem dX5_debt_21 : decode cX5_debt 21 = .ok (.if_icmp .gt 12, 3) := by decide +kernel
theorem dX5_debt_24 : decode cX5_debt 24 = .ok (.iload_n 3, 1) := by decide +kernel
theorem dX5_debt_25 : decode cX5_debt 25 = .ok (.ifCond .lt 8, 3) := by decide +kernel
theorem dX5_debt_28 : decode cX5_debt 28 = .ok (.iload_n 3, 1) := by decide +kernel
theorem dX5_debt_29 : decode cX5_debt 29 = .ok (.iconst 1, 1) := by decide +kernel
theorem dX5_debt_30 : decode cX5_debt 30 = .ok (.if_icmp .le 6, 3) := by decide +kernel
theorem dX5_debt_33 : decode cX5_debt 33 = .ok (.bipush (-2), 2) := by decide +kernel
theorem dX5_debt_35 : decode cX5_debt 35 = .ok (.ireturn, 1) := by decide +kernel
theorem dX5_debt_36 : decode cX5_debt 36 = .ok (.aload_n 0, 1) := by decide +kernel
theorem dX5_debt_37 : decode cX5_debt 37 = .ok (.iload_n 1, 1) := by decide +kernel
theorem dX5_debt_38 : decode cX5_debt 38 = .ok (.iload_n 2, 1) := by decide +kernel
theorem dX5_debt_39 : decode cX5_debt 39 = .ok (.invokevirtual 195, 3) := by decide +kernel
theorem dX5_debt_42 : decode cX5_debt 42 = .ok (.istore 4, 2) := by decide +kernel
theorem dX5_debt_44 : decode cX5_debt 44 = .ok (.iload 4, 2) := by decide +kernel
theorem dX5_debt_46 : decode cX5_debt 46 = .ok (.bipush (-9), 2) := by decide +kernel
theorem dX5_debt_48 : decode cX5_debt 48 = .ok (.if_icmp .eq 8, 3) := by decide +kernel
theorem dX5_debt_51 : decode cX5_debt 51 = .ok (.iload_n 3, 1) := by decide +kernel
theorem dX5_debt_52 : decode cX5_debt 52 = .ok (.iconst 1, 1) := by decide +kernel
theorem dX5_debt_53 : decode cX5_debt 53 = .ok (.if_icmp .ne 8, 3) := by decide +kernel
theorem dX5_debt_56 : decode cX5_debt 56 = .ok (.iload 4, 2) := by decide +kernel
theorem dX5_debt_58 : decode cX5_debt 58 = .ok (.goto 24, 3) := by decide +kernel
theorem dX5_debt_61 : decode cX5_debt 61 = .ok (.aload_n 0, 1) := by decide +kernel
theorem dX5_debt_62 : decode cX5_debt 62 = .ok (.getfield 20, 3) := by decide +kernel
theorem dX5_debt_65 : decode cX5_debt 65 = .ok (.iload_n 1, 1) := by decide +kernel
theorem dX5_debt_66 : decode cX5_debt 66 = .ok (.aload_n 0, 1) := by decide +kernel
theorem dX5_debt_67 : decode cX5_debt 67 = .ok (.getfield 20, 3) := by decide +kernel
theorem dX5_debt_70 : decode cX5_debt 70 = .ok (.iload_n 1, 1) := by decide +kernel
theorem dX5_debt_71 : decode cX5_debt 71 = .ok (.invokevirtual 121, 3) := by decide +kernel
theorem dX5_debt_74 : decode cX5_debt 74 = .ok (.iload 4, 2) := by decide +kernel
theorem dX5_debt_76 : decode cX5_debt 76 = .ok (.iconst (-1), 1) := by decide +kernel
theorem dX5_debt_77 : decode cX5_debt 77 = .ok (.ixor, 1) := by decide +kernel
theorem dX5_debt_78 : decode cX5_debt 78 = .ok (.iand, 1) := by decide +kernel
theorem dX5_debt_79 : decode cX5_debt 79 = .ok (.invokevirtual 176, 3) := by decide +kernel
theorem dX5_debt_82 : decode cX5_debt 82 = .ok (.ireturn, 1) := by decide +kernel
theorem dX5_swap_0 : decode cX5_swap 0 = .ok (.iload_n 1, 1) := by decide +kernel
theorem dX5_swap_1 : decode cX5_swap 1 = .ok (.ifCond .lt 8, 3) := by decide +kernel
theorem dX5_swap_4 : decode cX5_swap 4 = .ok (.iload_n 1, 1) := by decide +kernel
theorem dX5_swap_5 : decode cX5_swap 5 = .ok (.iconst 2, 1) := by decide +kernel
theorem dX5_swap_6 : decode cX5_swap 6 = .ok (.if_icmp .le 6, 3) := by decide +kernel
theorem dX5_swap_9 : decode cX5_swap 9 = .ok (.bipush (-2), 2) := by decide +kernel
theorem dX5_swap_11 : decode cX5_swap 11 = .ok (.ireturn, 1) := by decide +kernel
theorem dX5_swap_12 : decode cX5_swap 12 = .ok (.aload_n 0, 1) := by decide +kernel
theorem dX5_swap_13 : decode cX5_swap 13 = .ok (.getfield 20, 3) := by decide +kernel
theorem dX5_swap_16 : decode cX5_swap 16 = .ok (.invokevirtual 132, 3) := by decide +kernel
theorem dX5_swap_19 : decode cX5_swap 19 = .ok (.ifCond .ne 6, 3) := by decide +kernel
theorem dX5_swap_22 : decode cX5_swap 22 = .ok (.bipush (-3), 2) := by decide +kernel
theorem dX5_swap_24 : decode cX5_swap 24 = .ok (.ireturn, 1) := by decide +kernel
theorem dX5_swap_25 : decode cX5_swap 25 = .ok (.iconst 0, 1) := by decide +kernel
theorem dX5_swap_26 : decode cX5_swap 26 = .ok (.istore_n 2, 1) := by decide +kernel
theorem dX5_swap_27 : decode cX5_swap 27 = .ok (.bipush (-9), 2) := by decide +kernel
theorem dX5_swap_29 : decode cX5_swap 29 = .ok (.istore_n 3, 1) := by decide +kernel
theorem dX5_swap_30 : decode cX5_swap 30 = .ok (.bipush (-9), 2) := by decide +kernel
theorem dX5_swap_32 : decode cX5_swap 32 = .ok (.istore 4, 2) := by decide +kernel
theorem dX5_swap_34 : decode cX5_swap 34 = .ok (.iconst 0, 1) := by decide +kernel
theorem dX5_swap_35 : decode cX5_swap 35 = .ok (.istore 5, 2) := by decide +kernel
theorem dX5_swap_37 : decode cX5_swap 37 = .ok (.iload 5, 2) := by decide +kernel
theorem dX5_swap_39 : decode cX5_swap 39 = .ok (.aload_n 0, 1) := by decide +kernel
theorem dX5_swap_40 : decode cX5_swap 40 = .ok (.getfield 20, 3) := by decide +kernel
theorem dX5_swap_43 : decode cX5_swap 43 = .ok (.getfield 90, 3) := by decide +kernel
theorem dX5_swap_46 : decode cX5_swap 46 = .ok (.if_icmp .ge 59, 3) := by decide +kernel
theorem dX5_swap_49 : decode cX5_swap 49 = .ok (.iload 5, 2) := by decide +kernel
theorem dX5_swap_51 : decode cX5_swap 51 = .ok (.iconst 1, 1) := by decide +kernel
theorem dX5_swap_52 : decode cX5_swap 52 = .ok (.iadd, 1) := by decide +kernel
theorem dX5_swap_53 : decode cX5_swap 53 = .ok (.istore 6, 2) := by decide +kernel
theorem dX5_swap_55 : decode cX5_swap 55 = .ok (.iload 6, 2) := by decide +kernel
theorem dX5_swap_57 : decode cX5_swap 57 = .ok (.aload_n 0, 1) := by decide +kernel
theorem dX5_swap_58 : decode cX5_swap 58 = .ok (.getfield 20, 3) := by decide +kernel
theorem dX5_swap_61 : decode cX5_swap 61 = .ok (.getfield 90, 3) := by decide +kernel
theorem dX5_swap_64 : decode cX5_swap 64 = .ok (.if_icmp .ge 35, 3) := by decide +kernel
theorem dX5_swap_67 : decode cX5_swap 67 = .ok (.aload_n 0, 1) := by decide +kernel
theorem dX5_swap_68 : decode cX5_swap 68 = .ok (.iload 5, 2) := by decide +kernel
theorem dX5_swap_70 : decode cX5_swap 70 = .ok (.iload 6, 2) := by decide +kernel
theorem dX5_swap_72 : decode cX5_swap 72 = .ok (.invokevirtual 198, 3) := by decide +kernel
theorem dX5_swap_75 : decode cX5_swap 75 = .ok (.istore 7, 2) := by decide +kernel
theorem dX5_swap_77 : decode cX5_swap 77 = .ok (.iload 7, 2) := by decide +kernel
theorem dX5_swap_79 : decode cX5_swap 79 = .ok (.iload_n 2, 1) := by decide +kernel
theorem dX5_swap_80 : decode cX5_swap 80 = .ok (.if_icmp .le 13, 3) := by decide +kernel
theorem dX5_swap_83 : decode cX5_swap 83 = .ok (.iload 7, 2) := by decide +kernel
theorem dX5_swap_85 : decode cX5_swap 85 = .ok (.istore_n 2, 1) := by decide +kernel
theorem dX5_swap_86 : decode cX5_swap 86 = .ok (.iload 5, 2) := by decide +kernel
theorem dX5_swap_88 : decode cX5_swap 88 = .ok (.istore_n 3, 1) := by decide +kernel
theorem dX5_swap_89 : decode cX5_swap 89 = .ok (.iload 6, 2) := by decide +kernel
theorem dX5_swap_91 : decode cX5_swap 91 = .ok (.istore 4, 2) := by decide +kernel
theorem dX5_swap_93 : decode cX5_swap 93 = .ok (.iinc 6 1, 3) := by decide +kernel
theorem dX5_swap_96 : decode cX5_swap 96 = .ok (.goto (-41), 3) := by decide +kernel
theorem dX5_swap_99 : decode cX5_swap 99 = .ok (.iinc 5 1, 3) := by decide +kernel
theorem dX5_swap_102 : decode cX5_swap 102 = .ok (.goto (-65), 3) := by decide +kernel
theorem dX5_swap_105 : decode cX5_swap 105 = .ok (.iload_n 2, 1) := by decide +kernel
theorem dX5_swap_106 : decode cX5_swap 106 = .ok (.ifCond .ne 6, 3) := by decide +kernel
theorem dX5_swap_109 : decode cX5_swap 109 = .ok (.bipush (-9), 2) := by decide +kernel
theorem dX5_swap_111 : decode cX5_swap 111 = .ok (.ireturn, 1) := by decide +kernel
theorem dX5_swap_112 : decode cX5_swap 112 = .ok (.iload_n 1, 1) := by decide +kernel
theorem dX5_swap_113 : decode cX5_swap 113 = .ok (.ifCond .ne 7, 3) := by decide +kernel
theorem dX5_swap_116 : decode cX5_swap 116 = .ok (.iload_n 2, 1) := by decide +kernel
theorem dX5_swap_117 : decode cX5_swap 117 = .ok (.goto 14, 3) := by decide +kernel
theorem dX5_swap_120 : decode cX5_swap 120 = .ok (.iload_n 1, 1) := by decide +kernel
theorem dX5_swap_121 : decode cX5_swap 121 = .ok (.iconst 1, 1) := by decide +kernel
theorem dX5_swap_122 : decode cX5_swap 122 = .ok (.if_icmp .ne 7, 3) := by decide +kernel
theorem dX5_swap_125 : decode cX5_swap 125 = .ok (.iload_n 3, 1) := by decide +kernel
theorem dX5_swap_126 : decode cX5_swap 126 = .ok (.goto 5, 3) := by decide +kernel
theorem dX5_swap_129 : decode cX5_swap 129 = .ok (.iload 4, 2) := by decide +kernel
theorem dX5_swap_131 : decode cX5_swap 131 = .ok (.ireturn, 1) := by decide +kernel
theorem dX5_reading_0 : decode cX5_reading 0 = .ok (.aload_n 0, 1) := by decide +kernel
theorem dX5_reading_1 : decode cX5_reading 1 = .ok (.getfield 20, 3) := by decide +kernel
theorem dX5_reading_4 : decode cX5_reading 4 = .ok (.iload_n 1, 1) := by decide +kernel
theorem dX5_reading_5 : decode cX5_reading 5 = .ok (.invokevirtual 93, 3) := by decide +kernel
theorem dX5_reading_8 : decode cX5_reading 8 = .ok (.ifCond .ne 5, 3) := by decide +kernel
theorem dX5_reading_11 : decode cX5_reading 11 = .ok (.iconst (-1), 1) := by decide +kernel
theorem dX5_reading_12 : decode cX5_reading 12 = .ok (.ireturn, 1) := by decide +kernel
theorem dX5_reading_13 : decode cX5_reading 13 = .ok (.iload_n 2, 1) := by decide +kernel
theorem dX5_reading_14 : decode cX5_reading 14 = .ok (.ifCond .lt 19, 3) := by decide +kernel
theorem dX5_reading_17 : decode cX5_reading 17 = .ok (.iload_n 2, 1) := by decide +kernel
theorem dX5_reading_18 : decode cX5_reading 18 = .ok (.bipush 99, 2) := by decide +kernel
theorem dX5_reading_20 : decode cX5_reading 20 = .ok (.if_icmp .gt 13, 3) := by decide +kernel
theorem dX5_reading_23 : decode cX5_reading 23 = .ok (.iload_n 3, 1) := by decide +kernel
theorem dX5_reading_24 : decode cX5_reading 24 = .ok (.ifCond .lt 9, 3) := by decide +kernel
theorem dX5_reading_27 : decode cX5_reading 27 = .ok (.iload_n 3, 1) := by decide +kernel
theorem dX5_reading_28 : decode cX5_reading 28 = .ok (.bipush 9, 2) := by decide +kernel
theorem dX5_reading_30 : decode cX5_reading 30 = .ok (.if_icmp .le 6, 3) := by decide +kernel
theorem dX5_reading_33 : decode cX5_reading 33 = .ok (.bipush (-2), 2) := by decide +kernel
theorem dX5_reading_35 : decode cX5_reading 35 = .ok (.ireturn, 1) := by decide +kernel
theorem dX5_reading_36 : decode cX5_reading 36 = .ok (.aload_n 0, 1) := by decide +kernel
theorem dX5_reading_37 : decode cX5_reading 37 = .ok (.getfield 44, 3) := by decide +kernel
theorem dX5_reading_40 : decode cX5_reading 40 = .ok (.getfield 87, 3) := by decide +kernel
theorem dX5_reading_43 : decode cX5_reading 43 = .ok (.bipush 8, 2) := by decide +kernel
theorem dX5_reading_45 : decode cX5_reading 45 = .ok (.if_icmp .lt 6, 3) := by decide +kernel
theorem dX5_reading_48 : decode cX5_reading 48 = .ok (.bipush (-4), 2) := by decide +kernel
theorem dX5_reading_50 : decode cX5_reading 50 = .ok (.ireturn, 1) := by decide +kernel
theorem dX5_reading_51 : decode cX5_reading 51 = .ok (.aload_n 0, 1) := by decide +kernel
theorem dX5_reading_52 : decode cX5_reading 52 = .ok (.getfield 44, 3) := by decide +kernel
theorem dX5_reading_55 : decode cX5_reading 55 = .ok (.iload_n 1, 1) := by decide +kernel
theorem dX5_reading_56 : decode cX5_reading 56 = .ok (.iload_n 2, 1) := by decide +kernel
theorem dX5_reading_57 : decode cX5_reading 57 = .ok (.iload_n 3, 1) := by decide +kernel
theorem dX5_reading_58 : decode cX5_reading 58 = .ok (.invokevirtual 201, 3) := by decide +kernel
theorem dX5_reading_61 : decode cX5_reading 61 = .ok (.ireturn, 1) := by decide +kernel
theorem dX5_back_0 : decode cX5_back 0 = .ok (.iload_n 1, 1) := by decide +kernel
theorem dX5_back_1 : decode cX5_back 1 = .ok (.ifCond .lt 14, 3) := by decide +kernel
theorem dX5_back_4 : decode cX5_back 4 = .ok (.iload_n 1, 1) := by decide +kernel
theorem dX5_back_5 : decode cX5_back 5 = .ok (.aload_n 0, 1) := by decide +kernel
theorem dX5_back_6 : decode cX5_back 6 = .ok (.getfield 44, 3) := by decide +kernel
theorem dX5_back_9 : decode cX5_back 9 = .ok (.getfield 87, 3) := by decide +kernel
theorem dX5_back_12 : decode cX5_back 12 = .ok (.if_icmp .le 6, 3) := by decide +kernel
theorem dX5_back_15 : decode cX5_back 15 = .ok (.bipush (-2), 2) := by decide +kernel
theorem dX5_back_17 : decode cX5_back 17 = .ok (.ireturn, 1) := by decide +kernel
theorem dX5_back_18 : decode cX5_back 18 = .ok (.aload_n 0, 1) := by decide +kernel
theorem dX5_back_19 : decode cX5_back 19 = .ok (.getfield 44, 3) := by decide +kernel
theorem dX5_back_22 : decode cX5_back 22 = .ok (.dup, 1) := by decide +kernel
theorem dX5_back_23 : decode cX5_back 23 = .ok (.getfield 87, 3) := by decide +kernel
theorem dX5_back_26 : decode cX5_back 26 = .ok (.iload_n 1, 1) := by decide +kernel
theorem dX5_back_27 : decode cX5_back 27 = .ok (.isub, 1) := by decide +kernel
theorem dX5_back_28 : decode cX5_back 28 = .ok (.putfield 87, 3) := by decide +kernel
theorem dX5_back_31 : decode cX5_back 31 = .ok (.aload_n 0, 1) := by decide +kernel
theorem dX5_back_32 : decode cX5_back 32 = .ok (.getfield 44, 3) := by decide +kernel
theorem dX5_back_35 : decode cX5_back 35 = .ok (.getfield 87, 3) := by decide +kernel
theorem dX5_back_38 : decode cX5_back 38 = .ok (.ireturn, 1) := by decide +kernel
theorem dX5_dews_0 : decode cX5_dews 0 = .ok (.aload_n 0, 1) := by decide +kernel
theorem dX5_dews_1 : decode cX5_dews 1 = .ok (.getfield 20, 3) := by decide +kernel
theorem dX5_dews_4 : decode cX5_dews 4 = .ok (.iload_n 1, 1) := by decide +kernel
theorem dX5_dews_5 : decode cX5_dews 5 = .ok (.invokevirtual 93, 3) := by decide +kernel
theorem dX5_dews_8 : decode cX5_dews 8 = .ok (.ifCond .ne 5, 3) := by decide +kernel
theorem dX5_dews_11 : decode cX5_dews 11 = .ok (.iconst (-1), 1) := by decide +kernel
theorem dX5_dews_12 : decode cX5_dews 12 = .ok (.ireturn, 1) := by decide +kernel
theorem dX5_dews_13 : decode cX5_dews 13 = .ok (.iconst 0, 1) := by decide +kernel
theorem dX5_dews_14 : decode cX5_dews 14 = .ok (.istore_n 2, 1) := by decide +kernel
theorem dX5_dews_15 : decode cX5_dews 15 = .ok (.iconst 0, 1) := by decide +kernel
theorem dX5_dews_16 : decode cX5_dews 16 = .ok (.istore_n 3, 1) := by decide +kernel
theorem dX5_dews_17 : decode cX5_dews 17 = .ok (.iload_n 3, 1) := by decide +kernel
theorem dX5_dews_18 : decode cX5_dews 18 = .ok (.bipush 9, 2) := by decide +kernel
theorem dX5_dews_20 : decode cX5_dews 20 = .ok (.if_icmp .gt 49, 3) := by decide +kernel
theorem dX5_dews_23 : decode cX5_dews 23 = .ok (.aload_n 0, 1) := by decide +kernel
theorem dX5_dews_24 : decode cX5_dews 24 = .ok (.getfield 44, 3) := by decide +kernel
theorem dX5_dews_27 : decode cX5_dews 27 = .ok (.aload_n 0, 1) := by decide +kernel
theorem dX5_dews_28 : decode cX5_dews 28 = .ok (.getfield 20, 3) := by decide +kernel
theorem dX5_dews_31 : decode cX5_dews 31 = .ok (.iload_n 1, 1) := by decide +kernel
theorem dX5_dews_32 : decode cX5_dews 32 = .ok (.aload_n 0, 1) := by decide +kernel
theorem dX5_dews_33 : decode cX5_dews 33 = .ok (.getfield 20, 3) := by decide +kernel
theorem dX5_dews_36 : decode cX5_dews 36 = .ok (.getfield 96, 3) := by decide +kernel
theorem dX5_dews_39 : decode cX5_dews 39 = .ok (.iload_n 1, 1) := by decide +kernel
theorem dX5_dews_40 : decode cX5_dews 40 = .ok (.iaload, 1) := by decide +kernel
theorem dX5_dews_41 : decode cX5_dews 41 = .ok (.aload_n 0, 1) := by decide +kernel
theorem dX5_dews_42 : decode cX5_dews 42 = .ok (.getfield 20, 3) := by decide +kernel
theorem dX5_dews_45 : decode cX5_dews 45 = .ok (.getfield 103, 3) := by decide +kernel
theorem dX5_dews_48 : decode cX5_dews 48 = .ok (.iload_n 1, 1) := by decide +kernel
theorem dX5_dews_49 : decode cX5_dews 49 = .ok (.iaload, 1) := by decide +kernel
theorem dX5_dews_50 : decode cX5_dews 50 = .ok (.iload_n 3, 1) := by decide +kernel
theorem dX5_dews_51 : decode cX5_dews 51 = .ok (.invokevirtual 205, 3) := by decide +kernel
theorem dX5_dews_54 : decode cX5_dews 54 = .ok (.ifCond .eq 9, 3) := by decide +kernel
theorem dX5_dews_57 : decode cX5_dews 57 = .ok (.iload_n 2, 1) := by decide +kernel
theorem dX5_dews_58 : decode cX5_dews 58 = .ok (.iconst 1, 1) := by decide +kernel
theorem dX5_dews_59 : decode cX5_dews 59 = .ok (.iload_n 3, 1) := by decide +kernel
theorem dX5_dews_60 : decode cX5_dews 60 = .ok (.ishl, 1) := by decide +kernel
theorem dX5_dews_61 : decode cX5_dews 61 = .ok (.ior, 1) := by decide +kernel
theorem dX5_dews_62 : decode cX5_dews 62 = .ok (.istore_n 2, 1) := by decide +kernel
theorem dX5_dews_63 : decode cX5_dews 63 = .ok (.iinc 3 1, 3) := by decide +kernel
theorem dX5_dews_66 : decode cX5_dews 66 = .ok (.goto (-49), 3) := by decide +kernel
theorem dX5_dews_69 : decode cX5_dews 69 = .ok (.iload_n 2, 1) := by decide +kernel
theorem dX5_dews_70 : decode cX5_dews 70 = .ok (.ireturn, 1) := by decide +kernel
theorem dX5_kinds_0 : decode cX5_kinds 0 = .ok (.aload_n 0, 1) := by decide +kernel
theorem dX5_kinds_1 : decode cX5_kinds 1 = .ok (.getfield 20, 3) := by decide +kernel
theorem dX5_kinds_4 : decode cX5_kinds 4 = .ok (.iload_n 1, 1) := by decide +kernel
theorem dX5_kinds_5 : decode cX5_kinds 5 = .ok (.invokevirtual 93, 3) := by decide +kernel
theorem dX5_kinds_8 : decode cX5_kinds 8 = .ok (.ifCond .ne 5, 3) := by decide +kernel
theorem dX5_kinds_11 : decode cX5_kinds 11 = .ok (.iconst (-1), 1) := by decide +kernel
theorem dX5_kinds_12 : decode cX5_kinds 12 = .ok (.ireturn, 1) := by decide +kernel
theorem dX5_kinds_13 : decode cX5_kinds 13 = .ok (.iconst 0, 1) := by decide +kernel
theorem dX5_kinds_14 : decode cX5_kinds 14 = .ok (.istore_n 2, 1) := by decide +kernel
theorem dX5_kinds_15 : decode cX5_kinds 15 = .ok (.iconst 0, 1) := by decide +kernel
theorem dX5_kinds_16 : decode cX5_kinds 16 = .ok (.istore_n 3, 1) := by decide +kernel
theorem dX5_kinds_17 : decode cX5_kinds 17 = .ok (.iload_n 3, 1) := by decide +kernel
theorem dX5_kinds_18 : decode cX5_kinds 18 = .ok (.iconst 2, 1) := by decide +kernel
theorem dX5_kinds_19 : decode cX5_kinds 19 = .ok (.if_icmp .gt 49, 3) := by decide +kernel
theorem dX5_kinds_22 : decode cX5_kinds 22 = .ok (.aload_n 0, 1) := by decide +kernel
theorem dX5_kinds_23 : decode cX5_kinds 23 = .ok (.getfield 44, 3) := by decide +kernel
theorem dX5_kinds_26 : decode cX5_kinds 26 = .ok (.aload_n 0, 1) := by decide +kernel
theorem dX5_kinds_27 : decode cX5_kinds 27 = .ok (.getfield 20, 3) := by decide +kernel
theorem dX5_kinds_30 : decode cX5_kinds 30 = .ok (.iload_n 1, 1) := by decide +kernel
theorem dX5_kinds_31 : decode cX5_kinds 31 = .ok (.iload_n 3, 1) := by decide +kernel
theorem dX5_kinds_32 : decode cX5_kinds 32 = .ok (.aload_n 0, 1) := by decide +kernel
theorem dX5_kinds_33 : decode cX5_kinds 33 = .ok (.getfield 20, 3) := by decide +kernel
theorem dX5_kinds_36 : decode cX5_kinds 36 = .ok (.getfield 103, 3) := by decide +kernel
theorem dX5_kinds_39 : decode cX5_kinds 39 = .ok (.iload_n 1, 1) := by decide +kernel
theorem dX5_kinds_40 : decode cX5_kinds 40 = .ok (.iaload, 1) := by decide +kernel
theorem dX5_kinds_41 : decode cX5_kinds 41 = .ok (.aload_n 0, 1) := by decide +kernel
theorem dX5_kinds_42 : decode cX5_kinds 42 = .ok (.getfield 20, 3) := by decide +kernel
theorem dX5_kinds_45 : decode cX5_kinds 45 = .ok (.getfield 106, 3) := by decide +kernel
theorem dX5_kinds_48 : decode cX5_kinds 48 = .ok (.iload_n 1, 1) := by decide +kernel
theorem dX5_kinds_49 : decode cX5_kinds 49 = .ok (.iaload, 1) := by decide +kernel
theorem dX5_kinds_50 : decode cX5_kinds 50 = .ok (.invokevirtual 205, 3) := by decide +kernel
theorem dX5_kinds_53 : decode cX5_kinds 53 = .ok (.ifCond .eq 9, 3) := by decide +kernel
theorem dX5_kinds_56 : decode cX5_kinds 56 = .ok (.iload_n 2, 1) := by decide +kernel
theorem dX5_kinds_57 : decode cX5_kinds 57 = .ok (.iconst 1, 1) := by decide +kernel
theorem dX5_kinds_58 : decode cX5_kinds 58 = .ok (.iload_n 3, 1) := by decide +kernel
theorem dX5_kinds_59 : decode cX5_kinds 59 = .ok (.ishl, 1) := by decide +kernel
theorem dX5_kinds_60 : decode cX5_kinds 60 = .ok (.ior, 1) := by decide +kernel
theorem dX5_kinds_61 : decode cX5_kinds 61 = .ok (.istore_n 2, 1) := by decide +kernel
theorem dX5_kinds_62 : decode cX5_kinds 62 = .ok (.iinc 3 1, 3) := by decide +kernel
theorem dX5_kinds_65 : decode cX5_kinds 65 = .ok (.goto (-48), 3) := by decide +kernel
theorem dX5_kinds_68 : decode cX5_kinds 68 = .ok (.iload_n 2, 1) := by decide +kernel
theorem dX5_kinds_69 : decode cX5_kinds 69 = .ok (.ireturn, 1) := by decide +kernel
theorem dX5_takens_0 : decode cX5_takens 0 = .ok (.aload_n 0, 1) := by decide +kernel
theorem dX5_takens_1 : decode cX5_takens 1 = .ok (.getfield 20, 3) := by decide +kernel
theorem dX5_takens_4 : decode cX5_takens 4 = .ok (.iload_n 1, 1) := by decide +kernel
theorem dX5_takens_5 : decode cX5_takens 5 = .ok (.invokevirtual 93, 3) := by decide +kernel
theorem dX5_takens_8 : decode cX5_takens 8 = .ok (.ifCond .ne 5, 3) := by decide +kernel
theorem dX5_takens_11 : decode cX5_takens 11 = .ok (.iconst (-1), 1) := by decide +kernel
theorem dX5_takens_12 : decode cX5_takens 12 = .ok (.ireturn, 1) := by decide +kernel
theorem dX5_takens_13 : decode cX5_takens 13 = .ok (.iconst 0, 1) := by decide +kernel
theorem dX5_takens_14 : decode cX5_takens 14 = .ok (.istore_n 2, 1) := by decide +kernel
theorem dX5_takens_15 : decode cX5_takens 15 = .ok (.iconst 0, 1) := by decide +kernel
theorem dX5_takens_16 : decode cX5_takens 16 = .ok (.istore_n 3, 1) := by decide +kernel
theorem dX5_takens_17 : decode cX5_takens 17 = .ok (.iload_n 3, 1) := by decide +kernel
theorem dX5_takens_18 : decode cX5_takens 18 = .ok (.bipush 9, 2) := by decide +kernel
theorem dX5_takens_20 : decode cX5_takens 20 = .ok (.if_icmp .gt 49, 3) := by decide +kernel
theorem dX5_takens_23 : decode cX5_takens 23 = .ok (.aload_n 0, 1) := by decide +kernel
theorem dX5_takens_24 : decode cX5_takens 24 = .ok (.getfield 44, 3) := by decide +kernel
theorem dX5_takens_27 : decode cX5_takens 27 = .ok (.aload_n 0, 1) := by decide +kernel
theorem dX5_takens_28 : decode cX5_takens 28 = .ok (.getfield 20, 3) := by decide +kernel
theorem dX5_takens_31 : decode cX5_takens 31 = .ok (.iload_n 1, 1) := by decide +kernel
theorem dX5_takens_32 : decode cX5_takens 32 = .ok (.aload_n 0, 1) := by decide +kernel
theorem dX5_takens_33 : decode cX5_takens 33 = .ok (.getfield 20, 3) := by decide +kernel
theorem dX5_takens_36 : decode cX5_takens 36 = .ok (.getfield 96, 3) := by decide +kernel
theorem dX5_takens_39 : decode cX5_takens 39 = .ok (.iload_n 1, 1) := by decide +kernel
theorem dX5_takens_40 : decode cX5_takens 40 = .ok (.iaload, 1) := by decide +kernel
theorem dX5_takens_41 : decode cX5_takens 41 = .ok (.iload_n 3, 1) := by decide +kernel
theorem dX5_takens_42 : decode cX5_takens 42 = .ok (.aload_n 0, 1) := by decide +kernel
theorem dX5_takens_43 : decode cX5_takens 43 = .ok (.getfield 20, 3) := by decide +kernel
theorem dX5_takens_46 : decode cX5_takens 46 = .ok (.getfield 106, 3) := by decide +kernel
theorem dX5_takens_49 : decode cX5_takens 49 = .ok (.iload_n 1, 1) := by decide +kernel
theorem dX5_takens_50 : decode cX5_takens 50 = .ok (.iaload, 1) := by decide +kernel
theorem dX5_takens_51 : decode cX5_takens 51 = .ok (.invokevirtual 205, 3) := by decide +kernel
theorem dX5_takens_54 : decode cX5_takens 54 = .ok (.ifCond .eq 9, 3) := by decide +kernel
theorem dX5_takens_57 : decode cX5_takens 57 = .ok (.iload_n 2, 1) := by decide +kernel
theorem dX5_takens_58 : decode cX5_takens 58 = .ok (.iconst 1, 1) := by decide +kernel
theorem dX5_takens_59 : decode cX5_takens 59 = .ok (.iload_n 3, 1) := by decide +kernel
theorem dX5_takens_60 : decode cX5_takens 60 = .ok (.ishl, 1) := by decide +kernel
theorem dX5_takens_61 : decode cX5_takens 61 = .ok (.ior, 1) := by decide +kernel
theorem dX5_takens_62 : decode cX5_takens 62 = .ok (.istore_n 2, 1) := by decide +kernel
theorem dX5_takens_63 : decode cX5_takens 63 = .ok (.iinc 3 1, 3) := by decide +kernel
theorem dX5_takens_66 : decode cX5_takens 66 = .ok (.goto (-49), 3) := by decide +kernel
theorem dX5_takens_69 : decode cX5_takens 69 = .ok (.iload_n 2, 1) := by decide +kernel
theorem dX5_takens_70 : decode cX5_takens 70 = .ok (.ireturn, 1) := by decide +kernel
theorem dX5_odds_0 : decode cX5_odds 0 = .ok (.aload_n 0, 1) := by decide +kernel
theorem dX5_odds_1 : decode cX5_odds 1 = .ok (.getfield 20, 3) := by decide +kernel
theorem dX5_odds_4 : decode cX5_odds 4 = .ok (.iload_n 1, 1) := by decide +kernel
theorem dX5_odds_5 : decode cX5_odds 5 = .ok (.invokevirtual 112, 3) := by decide +kernel
theorem dX5_odds_8 : decode cX5_odds 8 = .ok (.ifCond .ne 7, 3) := by decide +kernel
theorem dX5_odds_11 : decode cX5_odds 11 = .ok (.ldc2_w 209, 3) := by decide +kernel
theorem dX5_odds_14 : decode cX5_odds 14 = .ok (.lreturn, 1) := by decide +kernel
theorem dX5_odds_15 : decode cX5_odds 15 = .ok (.iload_n 2, 1) := by decide +kernel
theorem dX5_odds_16 : decode cX5_odds 16 = .ok (.ifCond .lt 18, 3) := by decide +kernel
theorem dX5_odds_19 : decode cX5_odds 19 = .ok (.iload_n 2, 1) := by decide +kernel
theorem dX5_odds_20 : decode cX5_odds 20 = .ok (.bipush 99, 2) := by decide +kernel
theorem dX5_odds_22 : decode cX5_odds 22 = .ok (.if_icmp .gt 12, 3) := by decide +kernel
theorem dX5_odds_25 : decode cX5_odds 25 = .ok (.iload_n 3, 1) := by decide +kernel
theorem dX5_odds_26 : decode cX5_odds 26 = .ok (.ifCond .lt 8, 3) := by decide +kernel
theorem dX5_odds_29 : decode cX5_odds 29 = .ok (.iload_n 3, 1) := by decide +kernel
theorem dX5_odds_30 : decode cX5_odds 30 = .ok (.iconst 1, 1) := by decide +kernel
theorem dX5_odds_31 : decode cX5_odds 31 = .ok (.if_icmp .le 7, 3) := by decide +kernel
theorem dX5_odds_34 : decode cX5_odds 34 = .ok (.ldc2_w 209, 3) := by decide +kernel
theorem dX5_odds_37 : decode cX5_odds 37 = .ok (.lreturn, 1) := by decide +kernel
theorem dX5_odds_38 : decode cX5_odds 38 = .ok (.aload_n 0, 1) := by decide +kernel
theorem dX5_odds_39 : decode cX5_odds 39 = .ok (.getfield 20, 3) := by decide +kernel
theorem dX5_odds_42 : decode cX5_odds 42 = .ok (.iload_n 1, 1) := by decide +kernel
theorem dX5_odds_43 : decode cX5_odds 43 = .ok (.invokevirtual 121, 3) := by decide +kernel
theorem dX5_odds_46 : decode cX5_odds 46 = .ok (.istore 4, 2) := by decide +kernel
theorem dX5_odds_48 : decode cX5_odds 48 = .ok (.iconst 0, 1) := by decide +kernel
theorem dX5_odds_49 : decode cX5_odds 49 = .ok (.istore 5, 2) := by decide +kernel
theorem dX5_odds_51 : decode cX5_odds 51 = .ok (.iconst 0, 1) := by decide +kernel
theorem dX5_odds_52 : decode cX5_odds 52 = .ok (.istore 6, 2) := by decide +kernel
theorem dX5_odds_54 : decode cX5_odds 54 = .ok (.iconst 0, 1) := by decide +kernel
theorem dX5_odds_55 : decode cX5_odds 55 = .ok (.istore 7, 2) := by decide +kernel
theorem dX5_odds_57 : decode cX5_odds 57 = .ok (.iload 7, 2) := by decide +kernel
theorem dX5_odds_59 : decode cX5_odds 59 = .ok (.bipush 64, 2) := by decide +kernel
theorem dX5_odds_61 : decode cX5_odds 61 = .ok (.if_icmp .ge 39, 3) := by decide +kernel
theorem dX5_odds_64 : decode cX5_odds 64 = .ok (.iload 7, 2) := by decide +kernel
theorem dX5_odds_66 : decode cX5_odds 66 = .ok (.iload 4, 2) := by decide +kernel
theorem dX5_odds_68 : decode cX5_odds 68 = .ok (.invokestatic 211, 3) := by decide +kernel
theorem dX5_odds_71 : decode cX5_odds 71 = .ok (.ifCond .eq 23, 3) := by decide +kernel
theorem dX5_odds_74 : decode cX5_odds 74 = .ok (.iinc 6 1, 3) := by decide +kernel
theorem dX5_odds_77 : decode cX5_odds 77 = .ok (.aload_n 0, 1) := by decide +kernel
theorem dX5_odds_78 : decode cX5_odds 78 = .ok (.getfield 20, 3) := by decide +kernel
theorem dX5_odds_81 : decode cX5_odds 81 = .ok (.iload_n 1, 1) := by decide +kernel
theorem dX5_odds_82 : decode cX5_odds 82 = .ok (.iload 7, 2) := by decide +kernel
theorem dX5_odds_84 : decode cX5_odds 84 = .ok (.invokevirtual 176, 3) := by decide +kernel
theorem dX5_odds_87 : decode cX5_odds 87 = .ok (.iload_n 2, 1) := by decide +kernel
theorem dX5_odds_88 : decode cX5_odds 88 = .ok (.if_icmp .lt 6, 3) := by decide +kernel
theorem dX5_odds_91 : decode cX5_odds 91 = .ok (.iinc 5 1, 3) := by decide +kernel
theorem dX5_odds_94 : decode cX5_odds 94 = .ok (.iinc 7 1, 3) := by decide +kernel
theorem dX5_odds_97 : decode cX5_odds 97 = .ok (.goto (-40), 3) := by decide +kernel
theorem dX5_odds_100 : decode cX5_odds 100 = .ok (.iconst 0, 1) := by decide +kernel
theorem dX5_odds_101 : decode cX5_odds 101 = .ok (.istore 7, 2) := by decide +kernel
theorem dX5_odds_103 : decode cX5_odds 103 = .ok (.iload 7, 2) := by decide +kernel
theorem dX5_odds_105 : decode cX5_odds 105 = .ok (.bipush 6, 2) := by decide +kernel
theorem dX5_odds_107 : decode cX5_odds 107 = .ok (.if_icmp .ge 35, 3) := by decide +kernel
theorem dX5_odds_110 : decode cX5_odds 110 = .ok (.iload 5, 2) := by decide +kernel
theorem dX5_odds_112 : decode cX5_odds 112 = .ok (.iconst 2, 1) := by decide +kernel
theorem dX5_odds_113 : decode cX5_odds 113 = .ok (.irem, 1) := by decide +kernel
theorem dX5_odds_114 : decode cX5_odds 114 = .ok (.ifCond .ne 28, 3) := by decide +kernel
theorem dX5_odds_117 : decode cX5_odds 117 = .ok (.iload 6, 2) := by decide +kernel
theorem dX5_odds_119 : decode cX5_odds 119 = .ok (.iconst 2, 1) := by decide +kernel
theorem dX5_odds_120 : decode cX5_odds 120 = .ok (.irem, 1) := by decide +kernel
theorem dX5_odds_121 : decode cX5_odds 121 = .ok (.ifCond .ne 21, 3) := by decide +kernel
theorem dX5_odds_124 : decode cX5_odds 124 = .ok (.iload 5, 2) := by decide +kernel
theorem dX5_odds_126 : decode cX5_odds 126 = .ok (.iconst 2, 1) := by decide +kernel
theorem dX5_odds_127 : decode cX5_odds 127 = .ok (.idiv, 1) := by decide +kernel
theorem dX5_odds_128 : decode cX5_odds 128 = .ok (.istore 5, 2) := by decide +kernel
theorem dX5_odds_130 : decode cX5_odds 130 = .ok (.iload 6, 2) := by decide +kernel
theorem dX5_odds_132 : decode cX5_odds 132 = .ok (.iconst 2, 1) := by decide +kernel
theorem dX5_odds_133 : decode cX5_odds 133 = .ok (.idiv, 1) := by decide +kernel
theorem dX5_odds_134 : decode cX5_odds 134 = .ok (.istore 6, 2) := by decide +kernel
theorem dX5_odds_136 : decode cX5_odds 136 = .ok (.iinc 7 1, 3) := by decide +kernel
theorem dX5_odds_139 : decode cX5_odds 139 = .ok (.goto (-36), 3) := by decide +kernel
theorem dX5_odds_142 : decode cX5_odds 142 = .ok (.iload_n 3, 1) := by decide +kernel
theorem dX5_odds_143 : decode cX5_odds 143 = .ok (.ifCond .ne 9, 3) := by decide +kernel
theorem dX5_odds_146 : decode cX5_odds 146 = .ok (.iload 5, 2) := by decide +kernel
theorem dX5_odds_148 : decode cX5_odds 148 = .ok (.i2l, 1) := by decide +kernel
theorem dX5_odds_149 : decode cX5_odds 149 = .ok (.goto 6, 3) := by decide +kernel
theorem dX5_odds_152 : decode cX5_odds 152 = .ok (.iload 6, 2) := by decide +kernel
theorem dX5_odds_154 : decode cX5_odds 154 = .ok (.i2l, 1) := by decide +kernel
theorem dX5_odds_155 : decode cX5_odds 155 = .ok (.lreturn, 1) := by decide +kernel
theorem dX5_sheet_0 : decode cX5_sheet 0 = .ok (.aload_n 0, 1) := by decide +kernel
theorem dX5_sheet_1 : decode cX5_sheet 1 = .ok (.iconst 0, 1) := by decide +kernel
theorem dX5_sheet_2 : decode cX5_sheet 2 = .ok (.putfield 52, 3) := by decide +kernel
theorem dX5_sheet_5 : decode cX5_sheet 5 = .ok (.aload_n 0, 1) := by decide +kernel
theorem dX5_sheet_6 : decode cX5_sheet 6 = .ok (.iload_n 1, 1) := by decide +kernel
theorem dX5_sheet_7 : decode cX5_sheet 7 = .ok (.invokevirtual 56, 3) := by decide +kernel
theorem dX5_sheet_10 : decode cX5_sheet 10 = .ok (.astore 4, 2) := by decide +kernel
theorem dX5_sheet_12 : decode cX5_sheet 12 = .ok (.aload 4, 2) := by decide +kernel
theorem dX5_sheet_14 : decode cX5_sheet 14 = .ok (.ifnonnull 5, 3) := by decide +kernel
theorem dX5_sheet_17 : decode cX5_sheet 17 = .ok (.iconst (-1), 1) := by decide +kernel
theorem dX5_sheet_18 : decode cX5_sheet 18 = .ok (.ireturn, 1) := by decide +kernel
theorem dX5_sheet_19 : decode cX5_sheet 19 = .ok (.iload_n 2, 1) := by decide +kernel
theorem dX5_sheet_20 : decode cX5_sheet 20 = .ok (.invokestatic 60, 3) := by decide +kernel
theorem dX5_sheet_23 : decode cX5_sheet 23 = .ok (.ifCond .eq 9, 3) := by decide +kernel
theorem dX5_sheet_26 : decode cX5_sheet 26 = .ok (.iload_n 3, 1) := by decide +kernel
theorem dX5_sheet_27 : decode cX5_sheet 27 = .ok (.bipush 60, 2) := by decide +kernel
theorem dX5_sheet_29 : decode cX5_sheet 29 = .ok (.if_icmp .le 6, 3) := by decide +kernel
theorem dX5_sheet_32 : decode cX5_sheet 32 = .ok (.bipush (-2), 2) := by decide +kernel
theorem dX5_sheet_34 : decode cX5_sheet 34 = .ok (.ireturn, 1) := by decide +kernel
theorem dX5_sheet_35 : decode cX5_sheet 35 = .ok (.iload_n 3, 1) := by decide +kernel
theorem dX5_sheet_36 : decode cX5_sheet 36 = .ok (.ifCond .ge 9, 3) := by decide +kernel
theorem dX5_sheet_39 : decode cX5_sheet 39 = .ok (.aload_n 0, 1) := by decide +kernel
theorem dX5_sheet_40 : decode cX5_sheet 40 = .ok (.iconst 4, 1) := by decide +kernel
theorem dX5_sheet_41 : decode cX5_sheet 41 = .ok (.invokevirtual 67, 3) := by decide +kernel
theorem dX5_sheet_44 : decode cX5_sheet 44 = .ok (.ireturn, 1) := by decide +kernel
theorem dX5_sheet_45 : decode cX5_sheet 45 = .ok (.aload 4, 2) := by decide +kernel
theorem dX5_sheet_47 : decode cX5_sheet 47 = .ok (.iload_n 2, 1) := by decide +kernel
theorem dX5_sheet_48 : decode cX5_sheet 48 = .ok (.iload_n 3, 1) := by decide +kernel
theorem dX5_sheet_49 : decode cX5_sheet 49 = .ok (.invokevirtual 214, 3) := by decide +kernel
theorem dX5_sheet_52 : decode cX5_sheet 52 = .ok (.iconst 1, 1) := by decide +kernel
theorem dX5_sheet_53 : decode cX5_sheet 53 = .ok (.ireturn, 1) := by decide +kernel
theorem dX5_lose_0 : decode cX5_lose 0 = .ok (.aload_n 0, 1) := by decide +kernel
theorem dX5_lose_1 : decode cX5_lose 1 = .ok (.iload_n 1, 1) := by decide +kernel
theorem dX5_lose_2 : decode cX5_lose 2 = .ok (.invokevirtual 56, 3) := by decide +kernel
theorem dX5_lose_5 : decode cX5_lose 5 = .ok (.astore_n 2, 1) := by decide +kernel
theorem dX5_lose_6 : decode cX5_lose 6 = .ok (.aload_n 2, 1) := by decide +kernel
theorem dX5_lose_7 : decode cX5_lose 7 = .ok (.ifnonnull 5, 3) := by decide +kernel
theorem dX5_lose_10 : decode cX5_lose 10 = .ok (.iconst (-1), 1) := by decide +kernel
theorem dX5_lose_11 : decode cX5_lose 11 = .ok (.ireturn, 1) := by decide +kernel
theorem dX5_lose_12 : decode cX5_lose 12 = .ok (.aload_n 2, 1) := by decide +kernel
theorem dX5_lose_13 : decode cX5_lose 13 = .ok (.invokevirtual 71, 3) := by decide +kernel
theorem dX5_lose_16 : decode cX5_lose 16 = .ok (.ifCond .eq 7, 3) := by decide +kernel
theorem dX5_lose_19 : decode cX5_lose 19 = .ok (.iconst 1, 1) := by decide +kernel
theorem dX5_lose_20 : decode cX5_lose 20 = .ok (.goto 4, 3) := by decide +kernel
theorem dX5_lose_23 : decode cX5_lose 23 = .ok (.iconst 0, 1) := by decide +kernel
theorem dX5_lose_24 : decode cX5_lose 24 = .ok (.istore_n 3, 1) := by decide +kernel
theorem dX5_lose_25 : decode cX5_lose 25 = .ok (.aload_n 2, 1) := by decide +kernel
theorem dX5_lose_26 : decode cX5_lose 26 = .ok (.iconst (-1), 1) := by decide +kernel
theorem dX5_lose_27 : decode cX5_lose 27 = .ok (.putfield 218, 3) := by decide +kernel
theorem dX5_lose_30 : decode cX5_lose 30 = .ok (.iload_n 3, 1) := by decide +kernel
theorem dX5_lose_31 : decode cX5_lose 31 = .ok (.ireturn, 1) := by decide +kernel
theorem dX5_put_0 : decode cX5_put 0 = .ok (.aload_n 0, 1) := by decide +kernel
theorem dX5_put_1 : decode cX5_put 1 = .ok (.iconst 0, 1) := by decide +kernel
theorem dX5_put_2 : decode cX5_put 2 = .ok (.putfield 52, 3) := by decide +kernel
theorem dX5_put_5 : decode cX5_put 5 = .ok (.aload_n 0, 1) := by decide +kernel
theorem dX5_put_6 : decode cX5_put 6 = .ok (.iload_n 1, 1) := by decide +kernel
theorem dX5_put_7 : decode cX5_put 7 = .ok (.invokevirtual 56, 3) := by decide +kernel
theorem dX5_put_10 : decode cX5_put 10 = .ok (.astore 4, 2) := by decide +kernel
theorem dX5_put_12 : decode cX5_put 12 = .ok (.aload 4, 2) := by decide +kernel
theorem dX5_put_14 : decode cX5_put 14 = .ok (.ifnonnull 5, 3) := by decide +kernel
theorem dX5_put_17 : decode cX5_put 17 = .ok (.iconst (-1), 1) := by decide +kernel
theorem dX5_put_18 : decode cX5_put 18 = .ok (.ireturn, 1) := by decide +kernel
theorem dX5_put_19 : decode cX5_put 19 = .ok (.aload 4, 2) := by decide +kernel
theorem dX5_put_21 : decode cX5_put 21 = .ok (.invokevirtual 71, 3) := by decide +kernel
theorem dX5_put_24 : decode cX5_put 24 = .ok (.ifCond .ne 9, 3) := by decide +kernel
theorem dX5_put_27 : decode cX5_put 27 = .ok (.aload_n 0, 1) := by decide +kernel
theorem dX5_put_28 : decode cX5_put 28 = .ok (.iconst 1, 1) := by decide +kernel
theorem dX5_put_29 : decode cX5_put 29 = .ok (.invokevirtual 67, 3) := by decide +kernel
theorem dX5_put_32 : decode cX5_put 32 = .ok (.ireturn, 1) := by decide +kernel
theorem dX5_put_33 : decode cX5_put 33 = .ok (.aload 4, 2) := by decide +kernel
theorem dX5_put_35 : decode cX5_put 35 = .ok (.iload_n 2, 1) := by decide +kernel
theorem dX5_put_36 : decode cX5_put 36 = .ok (.iconst 1, 1) := by decide +kernel
theorem dX5_put_37 : decode cX5_put 37 = .ok (.invokevirtual 75, 3) := by decide +kernel
theorem dX5_put_40 : decode cX5_put 40 = .ok (.ifCond .ne 9, 3) := by decide +kernel
theorem dX5_put_43 : decode cX5_put 43 = .ok (.aload_n 0, 1) := by decide +kernel
theorem dX5_put_44 : decode cX5_put 44 = .ok (.iconst 3, 1) := by decide +kernel
theorem dX5_put_45 : decode cX5_put 45 = .ok (.invokevirtual 67, 3) := by decide +kernel
theorem dX5_put_48 : decode cX5_put 48 = .ok (.ireturn, 1) := by decide +kernel
theorem dX5_put_49 : decode cX5_put 49 = .ok (.aload 4, 2) := by decide +kernel
theorem dX5_put_51 : decode cX5_put 51 = .ok (.getfield 221, 3) := by decide +kernel
theorem dX5_put_54 : decode cX5_put 54 = .ok (.iload_n 2, 1) := by decide +kernel
theorem dX5_put_55 : decode cX5_put 55 = .ok (.aload 4, 2) := by decide +kernel
theorem dX5_put_57 : decode cX5_put 57 = .ok (.iload_n 3, 1) := by decide +kernel
theorem dX5_put_58 : decode cX5_put 58 = .ok (.invokevirtual 224, 3) := by decide +kernel
theorem dX5_put_61 : decode cX5_put 61 = .ok (.iastore, 1) := by decide +kernel
theorem dX5_put_62 : decode cX5_put 62 = .ok (.iconst 1, 1) := by decide +kernel
theorem dX5_put_63 : decode cX5_put 63 = .ok (.ireturn, 1) := by decide +kernel
theorem dX5_cell_0 : decode cX5_cell 0 = .ok (.aload_n 0, 1) := by decide +kernel
theorem dX5_cell_1 : decode cX5_cell 1 = .ok (.iconst 0, 1) := by decide +kernel
theorem dX5_cell_2 : decode cX5_cell 2 = .ok (.putfield 52, 3) := by decide +kernel
theorem dX5_cell_5 : decode cX5_cell 5 = .ok (.aload_n 0, 1) := by decide +kernel
theorem dX5_cell_6 : decode cX5_cell 6 = .ok (.iload_n 1, 1) := by decide +kernel
theorem dX5_cell_7 : decode cX5_cell 7 = .ok (.invokevirtual 56, 3) := by decide +kernel
theorem dX5_cell_10 : decode cX5_cell 10 = .ok (.astore 4, 2) := by decide +kernel
theorem dX5_cell_12 : decode cX5_cell 12 = .ok (.aload 4, 2) := by decide +kernel
theorem dX5_cell_14 : decode cX5_cell 14 = .ok (.ifnull 10, 3) := by decide +kernel
theorem dX5_cell_17 : decode cX5_cell 17 = .ok (.iload_n 3, 1) := by decide +kernel
theorem dX5_cell_18 : decode cX5_cell 18 = .ok (.invokestatic 60, 3) := by decide +kernel
theorem dX5_cell_21 : decode cX5_cell 21 = .ok (.ifCond .ne 7, 3) := by decide +kernel
theorem dX5_cell_24 : decode cX5_cell 24 = .ok (.ldc2_w 209, 3) := by decide +kernel
theorem dX5_cell_27 : decode cX5_cell 27 = .ok (.lreturn, 1) := by decide +kernel
theorem dX5_cell_28 : decode cX5_cell 28 = .ok (.aload 4, 2) := by decide +kernel
theorem dX5_cell_30 : decode cX5_cell 30 = .ok (.iload_n 3, 1) := by decide +kernel
theorem dX5_cell_31 : decode cX5_cell 31 = .ok (.invokevirtual 64, 3) := by decide +kernel
theorem dX5_cell_34 : decode cX5_cell 34 = .ok (.ifCond .eq 9, 3) := by decide +kernel
theorem dX5_cell_37 : decode cX5_cell 37 = .ok (.aload_n 0, 1) := by decide +kernel
theorem dX5_cell_38 : decode cX5_cell 38 = .ok (.iconst 2, 1) := by decide +kernel
theorem dX5_cell_39 : decode cX5_cell 39 = .ok (.invokevirtual 227, 3) := by decide +kernel
theorem dX5_cell_42 : decode cX5_cell 42 = .ok (.lreturn, 1) := by decide +kernel
theorem dX5_cell_43 : decode cX5_cell 43 = .ok (.aload 4, 2) := by decide +kernel
theorem dX5_cell_45 : decode cX5_cell 45 = .ok (.invokevirtual 71, 3) := by decide +kernel
theorem dX5_cell_48 : decode cX5_cell 48 = .ok (.ifCond .ne 9, 3) := by decide +kernel
theorem dX5_cell_51 : decode cX5_cell 51 = .ok (.aload_n 0, 1) := by decide +kernel
theorem dX5_cell_52 : decode cX5_cell 52 = .ok (.iconst 1, 1) := by decide +kernel
theorem dX5_cell_53 : decode cX5_cell 53 = .ok (.invokevirtual 227, 3) := by decide +kernel
theorem dX5_cell_56 : decode cX5_cell 56 = .ok (.lreturn, 1) := by decide +kernel
theorem dX5_cell_57 : decode cX5_cell 57 = .ok (.aload 4, 2) := by decide +kernel
theorem dX5_cell_59 : decode cX5_cell 59 = .ok (.iload_n 2, 1) := by decide +kernel
theorem dX5_cell_60 : decode cX5_cell 60 = .ok (.iconst 1, 1) := by decide +kernel
theorem dX5_cell_61 : decode cX5_cell 61 = .ok (.invokevirtual 75, 3) := by decide +kernel
theorem dX5_cell_64 : decode cX5_cell 64 = .ok (.ifCond .ne 9, 3) := by decide +kernel
theorem dX5_cell_67 : decode cX5_cell 67 = .ok (.aload_n 0, 1) := by decide +kernel
theorem dX5_cell_68 : decode cX5_cell 68 = .ok (.iconst 3, 1) := by decide +kernel
theorem dX5_cell_69 : decode cX5_cell 69 = .ok (.invokevirtual 227, 3) := by decide +kernel
theorem dX5_cell_72 : decode cX5_cell 72 = .ok (.lreturn, 1) := by decide +kernel
theorem dX5_cell_73 : decode cX5_cell 73 = .ok (.aload 4, 2) := by decide +kernel
theorem dX5_cell_75 : decode cX5_cell 75 = .ok (.getfield 221, 3) := by decide +kernel
theorem dX5_cell_78 : decode cX5_cell 78 = .ok (.iload_n 2, 1) := by decide +kernel
theorem dX5_cell_79 : decode cX5_cell 79 = .ok (.iaload, 1) := by decide +kernel
theorem dX5_cell_80 : decode cX5_cell 80 = .ok (.i2l, 1) := by decide +kernel
theorem dX5_cell_81 : decode cX5_cell 81 = .ok (.lreturn, 1) := by decide +kernel
theorem dX5_copy_0 : decode cX5_copy 0 = .ok (.aload_n 0, 1) := by decide +kernel
theorem dX5_copy_1 : decode cX5_copy 1 = .ok (.iconst 0, 1) := by decide +kernel
theorem dX5_copy_2 : decode cX5_copy 2 = .ok (.putfield 52, 3) := by decide +kernel
theorem dX5_copy_5 : decode cX5_copy 5 = .ok (.aload_n 0, 1) := by decide +kernel
theorem dX5_copy_6 : decode cX5_copy 6 = .ok (.iload_n 1, 1) := by decide +kernel
theorem dX5_copy_7 : decode cX5_copy 7 = .ok (.invokevirtual 56, 3) := by decide +kernel
theorem dX5_copy_10 : decode cX5_copy 10 = .ok (.astore 6, 2) := by decide +kernel
theorem dX5_copy_12 : decode cX5_copy 12 = .ok (.aload_n 0, 1) := by decide +kernel
theorem dX5_copy_13 : decode cX5_copy 13 = .ok (.iload_n 3, 1) := by decide +kernel
theorem dX5_copy_14 : decode cX5_copy 14 = .ok (.invokevirtual 56, 3) := by decide +kernel
theorem dX5_copy_17 : decode cX5_copy 17 = .ok (.astore 7, 2) := by decide +kernel
theorem dX5_copy_19 : decode cX5_copy 19 = .ok (.aload 6, 2) := by decide +kernel
theorem dX5_copy_21 : decode cX5_copy 21 = .ok (.ifnull 8, 3) := by decide +kernel
theorem dX5_copy_24 : decode cX5_copy 24 = .ok (.aload 7, 2) := by decide +kernel
theorem dX5_copy_26 : decode cX5_copy 26 = .ok (.ifnonnull 5, 3) := by decide +kernel
theorem dX5_copy_29 : decode cX5_copy 29 = .ok (.iconst (-1), 1) := by decide +kernel
theorem dX5_copy_30 : decode cX5_copy 30 = .ok (.ireturn, 1) := by decide +kernel
theorem dX5_copy_31 : decode cX5_copy 31 = .ok (.aload 6, 2) := by decide +kernel
theorem dX5_copy_33 : decode cX5_copy 33 = .ok (.invokevirtual 71, 3) := by decide +kernel
theorem dX5_copy_36 : decode cX5_copy 36 = .ok (.ifCond .eq 11, 3) := by decide +kernel
theorem dX5_copy_39 : decode cX5_copy 39 = .ok (.aload 7, 2) := by decide +kernel
theorem dX5_copy_41 : decode cX5_copy 41 = .ok (.invokevirtual 71, 3) := by decide +kernel
theorem dX5_copy_44 : decode cX5_copy 44 = .ok (.ifCond .ne 9, 3) := by decide +kernel
theorem dX5_copy_47 : decode cX5_copy 47 = .ok (.aload_n 0, 1) := by decide +kernel
theorem dX5_copy_48 : decode cX5_copy 48 = .ok (.iconst 1, 1) := by decide +kernel
theorem dX5_copy_49 : decode cX5_copy 49 = .ok (.invokevirtual 67, 3) := by decide +kernel
theorem dX5_copy_52 : decode cX5_copy 52 = .ok (.ireturn, 1) := by decide +kernel
theorem dX5_copy_53 : decode cX5_copy 53 = .ok (.aload 6, 2) := by decide +kernel
theorem dX5_copy_55 : decode cX5_copy 55 = .ok (.getfield 231, 3) := by decide +kernel
theorem dX5_copy_58 : decode cX5_copy 58 = .ok (.aload 7, 2) := by decide +kernel
theorem dX5_copy_60 : decode cX5_copy 60 = .ok (.getfield 231, 3) := by decide +kernel
theorem dX5_copy_63 : decode cX5_copy 63 = .ok (.if_icmp .eq 9, 3) := by decide +kernel
theorem dX5_copy_66 : decode cX5_copy 66 = .ok (.aload_n 0, 1) := by decide +kernel
theorem dX5_copy_67 : decode cX5_copy 67 = .ok (.iconst 2, 1) := by decide +kernel
theorem dX5_copy_68 : decode cX5_copy 68 = .ok (.invokevirtual 67, 3) := by decide +kernel
theorem dX5_copy_71 : decode cX5_copy 71 = .ok (.ireturn, 1) := by decide +kernel
theorem dX5_copy_72 : decode cX5_copy 72 = .ok (.aload 6, 2) := by decide +kernel
theorem dX5_copy_74 : decode cX5_copy 74 = .ok (.iload_n 2, 1) := by decide +kernel
theorem dX5_copy_75 : decode cX5_copy 75 = .ok (.iload 5, 2) := by decide +kernel
theorem dX5_copy_77 : decode cX5_copy 77 = .ok (.invokevirtual 75, 3) := by decide +kernel
theorem dX5_copy_80 : decode cX5_copy 80 = .ok (.ifCond .eq 15, 3) := by decide +kernel
theorem dX5_copy_83 : decode cX5_copy 83 = .ok (.aload 7, 2) := by decide +kernel
theorem dX5_copy_85 : decode cX5_copy 85 = .ok (.iload 4, 2) := by decide +kernel
theorem dX5_copy_87 : decode cX5_copy 87 = .ok (.iload 5, 2) := by decide +kernel
theorem dX5_copy_89 : decode cX5_copy 89 = .ok (.invokevirtual 75, 3) := by decide +kernel
theorem dX5_copy_92 : decode cX5_copy 92 = .ok (.ifCond .ne 9, 3) := by decide +kernel
theorem dX5_copy_95 : decode cX5_copy 95 = .ok (.aload_n 0, 1) := by decide +kernel
theorem dX5_copy_96 : decode cX5_copy 96 = .ok (.iconst 3, 1) := by decide +kernel
theorem dX5_copy_97 : decode cX5_copy 97 = .ok (.invokevirtual 67, 3) := by decide +kernel
theorem dX5_copy_100 : decode cX5_copy 100 = .ok (.ireturn, 1) := by decide +kernel
theorem dX5_copy_101 : decode cX5_copy 101 = .ok (.aload 6, 2) := by decide +kernel
theorem dX5_copy_103 : decode cX5_copy 103 = .ok (.getfield 221, 3) := by decide +kernel
theorem dX5_copy_106 : decode cX5_copy 106 = .ok (.iload_n 2, 1) := by decide +kernel
theorem dX5_copy_107 : decode cX5_copy 107 = .ok (.aload 7, 2) := by decide +kernel
theorem dX5_copy_109 : decode cX5_copy 109 = .ok (.getfield 221, 3) := by decide +kernel
theorem dX5_copy_112 : decode cX5_copy 112 = .ok (.iload 4, 2) := by decide +kernel
theorem dX5_copy_114 : decode cX5_copy 114 = .ok (.iload 5, 2) := by decide +kernel
theorem dX5_copy_116 : decode cX5_copy 116 = .ok (.invokestatic 234, 3) := by decide +kernel
theorem dX5_copy_119 : decode cX5_copy 119 = .ok (.iload 5, 2) := by decide +kernel
theorem dX5_copy_121 : decode cX5_copy 121 = .ok (.ireturn, 1) := by decide +kernel
theorem dX5_tell_0 : decode cX5_tell 0 = .ok (.aload_n 0, 1) := by decide +kernel
theorem dX5_tell_1 : decode cX5_tell 1 = .ok (.getfield 20, 3) := by decide +kernel
theorem dX5_tell_4 : decode cX5_tell 4 = .ok (.iload_n 1, 1) := by decide +kernel
theorem dX5_tell_5 : decode cX5_tell 5 = .ok (.invokevirtual 93, 3) := by decide +kernel
theorem dX5_tell_8 : decode cX5_tell 8 = .ok (.ifCond .ne 5, 3) := by decide +kernel
theorem dX5_tell_11 : decode cX5_tell 11 = .ok (.iconst (-1), 1) := by decide +kernel
theorem dX5_tell_12 : decode cX5_tell 12 = .ok (.ireturn, 1) := by decide +kernel
theorem dX5_tell_13 : decode cX5_tell 13 = .ok (.aload_n 0, 1) := by decide +kernel
theorem dX5_tell_14 : decode cX5_tell 14 = .ok (.getfield 20, 3) := by decide +kernel
theorem dX5_tell_17 : decode cX5_tell 17 = .ok (.getfield 96, 3) := by decide +kernel
theorem dX5_tell_20 : decode cX5_tell 20 = .ok (.iload_n 1, 1) := by decide +kernel
theorem dX5_tell_21 : decode cX5_tell 21 = .ok (.iaload, 1) := by decide +kernel
theorem dX5_tell_22 : decode cX5_tell 22 = .ok (.lookupswitch 38 #[(1, 26), (2, 32)], 26) := by decide +kernel
theorem dX5_tell_48 : decode cX5_tell 48 = .ok (.aload_n 0, 1) := by decide +kernel
theorem dX5_tell_49 : decode cX5_tell 49 = .ok (.iload_n 1, 1) := by decide +kernel
theorem dX5_tell_50 : decode cX5_tell 50 = .ok (.invokevirtual 240, 3) := by decide +kernel
theorem dX5_tell_53 : decode cX5_tell 53 = .ok (.ireturn, 1) := by decide +kernel
theorem dX5_tell_54 : decode cX5_tell 54 = .ok (.aload_n 0, 1) := by decide +kernel
theorem dX5_tell_55 : decode cX5_tell 55 = .ok (.iload_n 1, 1) := by decide +kernel
theorem dX5_tell_56 : decode cX5_tell 56 = .ok (.invokevirtual 243, 3) := by decide +kernel
theorem dX5_tell_59 : decode cX5_tell 59 = .ok (.ireturn, 1) := by decide +kernel
theorem dX5_tell_60 : decode cX5_tell 60 = .ok (.aload_n 0, 1) := by decide +kernel
theorem dX5_tell_61 : decode cX5_tell 61 = .ok (.iload_n 1, 1) := by decide +kernel
theorem dX5_tell_62 : decode cX5_tell 62 = .ok (.invokevirtual 246, 3) := by decide +kernel
theorem dX5_tell_65 : decode cX5_tell 65 = .ok (.ireturn, 1) := by decide +kernel
theorem dX5_crow_0 : decode cX5_crow 0 = .ok (.aload_n 0, 1) := by decide +kernel
theorem dX5_crow_1 : decode cX5_crow 1 = .ok (.getfield 20, 3) := by decide +kernel
theorem dX5_crow_4 : decode cX5_crow 4 = .ok (.iload_n 1, 1) := by decide +kernel
theorem dX5_crow_5 : decode cX5_crow 5 = .ok (.invokevirtual 93, 3) := by decide +kernel
theorem dX5_crow_8 : decode cX5_crow 8 = .ok (.ifCond .ne 5, 3) := by decide +kernel
theorem dX5_crow_11 : decode cX5_crow 11 = .ok (.iconst (-1), 1) := by decide +kernel
theorem dX5_crow_12 : decode cX5_crow 12 = .ok (.ireturn, 1) := by decide +kernel
theorem dX5_crow_13 : decode cX5_crow 13 = .ok (.aload_n 0, 1) := by decide +kernel
theorem dX5_crow_14 : decode cX5_crow 14 = .ok (.getfield 20, 3) := by decide +kernel
theorem dX5_crow_17 : decode cX5_crow 17 = .ok (.getfield 96, 3) := by decide +kernel
theorem dX5_crow_20 : decode cX5_crow 20 = .ok (.iload_n 1, 1) := by decide +kernel
theorem dX5_crow_21 : decode cX5_crow 21 = .ok (.iaload, 1) := by decide +kernel
theorem dX5_crow_22 : decode cX5_crow 22 = .ok (.iconst 2, 1) := by decide +kernel
theorem dX5_crow_23 : decode cX5_crow 23 = .ok (.if_icmp .ne 10, 3) := by decide +kernel
theorem dX5_crow_26 : decode cX5_crow 26 = .ok (.aload_n 0, 1) := by decide +kernel
theorem dX5_crow_27 : decode cX5_crow 27 = .ok (.invokevirtual 249, 3) := by decide +kernel
theorem dX5_crow_30 : decode cX5_crow 30 = .ok (.goto 8, 3) := by decide +kernel
theorem dX5_crow_33 : decode cX5_crow 33 = .ok (.aload_n 0, 1) := by decide +kernel
theorem dX5_crow_34 : decode cX5_crow 34 = .ok (.iload_n 1, 1) := by decide +kernel
theorem dX5_crow_35 : decode cX5_crow 35 = .ok (.invokevirtual 253, 3) := by decide +kernel
theorem dX5_crow_38 : decode cX5_crow 38 = .ok (.ireturn, 1) := by decide +kernel
theorem dX5_as_0 : decode cX5_as 0 = .ok (.aload_n 0, 1) := by decide +kernel
theorem dX5_as_1 : decode cX5_as 1 = .ok (.iconst 0, 1) := by decide +kernel
theorem dX5_as_2 : decode cX5_as 2 = .ok (.putfield 52, 3) := by decide +kernel
theorem dX5_as_5 : decode cX5_as 5 = .ok (.aload_n 0, 1) := by decide +kernel
theorem dX5_as_6 : decode cX5_as 6 = .ok (.getfield 20, 3) := by decide +kernel
theorem dX5_as_9 : decode cX5_as 9 = .ok (.iload_n 1, 1) := by decide +kernel
theorem dX5_as_10 : decode cX5_as 10 = .ok (.invokevirtual 93, 3) := by decide +kernel
theorem dX5_as_13 : decode cX5_as 13 = .ok (.ifCond .ne 5, 3) := by decide +kernel
theorem dX5_as_16 : decode cX5_as 16 = .ok (.iconst (-1), 1) := by decide +kernel
theorem dX5_as_17 : decode cX5_as 17 = .ok (.ireturn, 1) := by decide +kernel
theorem dX5_as_18 : decode cX5_as 18 = .ok (.iload_n 2, 1) := by decide +kernel
theorem dX5_as_19 : decode cX5_as 19 = .ok (.ifCond .lt 8, 3) := by decide +kernel
theorem dX5_as_22 : decode cX5_as 22 = .ok (.iload_n 2, 1) := by decide +kernel
theorem dX5_as_23 : decode cX5_as 23 = .ok (.iconst 2, 1) := by decide +kernel
theorem dX5_as_24 : decode cX5_as 24 = .ok (.if_icmp .le 6, 3) := by decide +kernel
theorem dX5_as_27 : decode cX5_as 27 = .ok (.bipush (-2), 2) := by decide +kernel
theorem dX5_as_29 : decode cX5_as 29 = .ok (.ireturn, 1) := by decide +kernel
theorem dX5_as_30 : decode cX5_as 30 = .ok (.aload_n 0, 1) := by decide +kernel
theorem dX5_as_31 : decode cX5_as 31 = .ok (.getfield 20, 3) := by decide +kernel
theorem dX5_as_34 : decode cX5_as 34 = .ok (.getfield 96, 3) := by decide +kernel
theorem dX5_as_37 : decode cX5_as 37 = .ok (.iload_n 1, 1) := by decide +kernel
theorem dX5_as_38 : decode cX5_as 38 = .ok (.iaload, 1) := by decide +kernel
theorem dX5_as_39 : decode cX5_as 39 = .ok (.iload_n 2, 1) := by decide +kernel
theorem dX5_as_40 : decode cX5_as 40 = .ok (.if_icmp .lt 7, 3) := by decide +kernel
theorem dX5_as_43 : decode cX5_as 43 = .ok (.iconst 1, 1) := by decide +kernel
theorem dX5_as_44 : decode cX5_as 44 = .ok (.goto 8, 3) := by decide +kernel
theorem dX5_as_47 : decode cX5_as 47 = .ok (.aload_n 0, 1) := by decide +kernel
theorem dX5_as_48 : decode cX5_as 48 = .ok (.iconst 2, 1) := by decide +kernel
theorem dX5_as_49 : decode cX5_as 49 = .ok (.invokevirtual 67, 3) := by decide +kernel
theorem dX5_as_52 : decode cX5_as 52 = .ok (.ireturn, 1) := by decide +kernel
theorem dX5_trace_0 : decode cX5_trace 0 = .ok (.aload_n 0, 1) := by decide +kernel
theorem dX5_trace_1 : decode cX5_trace 1 = .ok (.getfield 48, 3) := by decide +kernel
theorem dX5_trace_4 : decode cX5_trace 4 = .ok (.ireturn, 1) := by decide +kernel
theorem dX5_fault_0 : decode cX5_fault 0 = .ok (.aload_n 0, 1) := by decide +kernel
theorem dX5_fault_1 : decode cX5_fault 1 = .ok (.getfield 52, 3) := by decide +kernel
theorem dX5_fault_4 : decode cX5_fault 4 = .ok (.ireturn, 1) := by decide +kernel
theorem dX5_many_0 : decode cX5_many 0 = .ok (.iload_n 1, 1) := by decide +kernel
theorem dX5_many_1 : decode cX5_many 1 = .ok (.tableswitch 75 0 4 #[35, 43, 51, 59, 67], 35) := by decide +kernel
theorem dX5_many_36 : decode cX5_many 36 = .ok (.aload_n 0, 1) := by decide +kernel
theorem dX5_many_37 : decode cX5_many 37 = .ok (.getfield 20, 3) := by decide +kernel
theorem dX5_many_40 : decode cX5_many 40 = .ok (.getfield 90, 3) := by decide +kernel
theorem dX5_many_43 : decode cX5_many 43 = .ok (.ireturn, 1) := by decide +kernel
theorem dX5_many_44 : decode cX5_many 44 = .ok (.aload_n 0, 1) := by decide +kernel
theorem dX5_many_45 : decode cX5_many 45 = .ok (.getfield 20, 3) := by decide +kernel
theorem dX5_many_48 : decode cX5_many 48 = .ok (.getfield 256, 3) := by decide +kernel
theorem dX5_many_51 : decode cX5_many 51 = .ok (.ireturn, 1) := by decide +kernel
theorem dX5_many_52 : decode cX5_many 52 = .ok (.aload_n 0, 1) := by decide +kernel
theorem dX5_many_53 : decode cX5_many 53 = .ok (.getfield 20, 3) := by decide +kernel
theorem dX5_many_56 : decode cX5_many 56 = .ok (.getfield 157, 3) := by decide +kernel
theorem dX5_many_59 : decode cX5_many 59 = .ok (.ireturn, 1) := by decide +kernel
theorem dX5_many_60 : decode cX5_many 60 = .ok (.aload_n 0, 1) := by decide +kernel
theorem dX5_many_61 : decode cX5_many 61 = .ok (.getfield 20, 3) := by decide +kernel
theorem dX5_many_64 : decode cX5_many 64 = .ok (.getfield 135, 3) := by decide +kernel
theorem dX5_many_67 : decode cX5_many 67 = .ok (.ireturn, 1) := by decide +kernel
theorem dX5_many_68 : decode cX5_many 68 = .ok (.aload_n 0, 1) := by decide +kernel
theorem dX5_many_69 : decode cX5_many 69 = .ok (.getfield 44, 3) := by decide +kernel
theorem dX5_many_72 : decode cX5_many 72 = .ok (.getfield 87, 3) := by decide +kernel
theorem dX5_many_75 : decode cX5_many 75 = .ok (.ireturn, 1) := by decide +kernel
theorem dX5_many_76 : decode cX5_many 76 = .ok (.bipush (-2), 2) := by decide +kernel
theorem dX5_many_78 : decode cX5_many 78 = .ok (.ireturn, 1) := by decide +kernel
theorem dX5_sheetAt_0 : decode cX5_sheetAt 0 = .ok (.iload_n 1, 1) := by decide +kernel
theorem dX5_sheetAt_1 : decode cX5_sheetAt 1 = .ok (.ifCond .lt 21, 3) := by decide +kernel
theorem dX5_sheetAt_4 : decode cX5_sheetAt 4 = .ok (.iload_n 1, 1) := by decide +kernel
theorem dX5_sheetAt_5 : decode cX5_sheetAt 5 = .ok (.aload_n 0, 1) := by decide +kernel
theorem dX5_sheetAt_6 : decode cX5_sheetAt 6 = .ok (.getfield 13, 3) := by decide +kernel
theorem dX5_sheetAt_9 : decode cX5_sheetAt 9 = .ok (.arraylength, 1) := by decide +kernel
theorem dX5_sheetAt_10 : decode cX5_sheetAt 10 = .ok (.if_icmp .ge 12, 3) := by decide +kernel
theorem dX5_sheetAt_13 : decode cX5_sheetAt 13 = .ok (.aload_n 0, 1) := by decide +kernel
theorem dX5_sheetAt_14 : decode cX5_sheetAt 14 = .ok (.getfield 13, 3) := by decide +kernel
theorem dX5_sheetAt_17 : decode cX5_sheetAt 17 = .ok (.iload_n 1, 1) := by decide +kernel
theorem dX5_sheetAt_18 : decode cX5_sheetAt 18 = .ok (.aaload, 1) := by decide +kernel
theorem dX5_sheetAt_19 : decode cX5_sheetAt 19 = .ok (.goto 4, 3) := by decide +kernel
theorem dX5_sheetAt_22 : decode cX5_sheetAt 22 = .ok (.aconst_null, 1) := by decide +kernel
theorem dX5_sheetAt_23 : decode cX5_sheetAt 23 = .ok (.areturn, 1) := by decide +kernel
theorem dX5_faulted_0 : decode cX5_faulted 0 = .ok (.aload_n 0, 1) := by decide +kernel
theorem dX5_faulted_1 : decode cX5_faulted 1 = .ok (.iload_n 1, 1) := by decide +kernel
theorem dX5_faulted_2 : decode cX5_faulted 2 = .ok (.putfield 52, 3) := by decide +kernel
theorem dX5_faulted_5 : decode cX5_faulted 5 = .ok (.bipush (-10), 2) := by decide +kernel
theorem dX5_faulted_7 : decode cX5_faulted 7 = .ok (.iload_n 1, 1) := by decide +kernel
theorem dX5_faulted_8 : decode cX5_faulted 8 = .ok (.isub, 1) := by decide +kernel
theorem dX5_faulted_9 : decode cX5_faulted 9 = .ok (.ireturn, 1) := by decide +kernel
theorem dX5_lostBy_0 : decode cX5_lostBy 0 = .ok (.aload_n 0, 1) := by decide +kernel
theorem dX5_lostBy_1 : decode cX5_lostBy 1 = .ok (.iload_n 1, 1) := by decide +kernel
theorem dX5_lostBy_2 : decode cX5_lostBy 2 = .ok (.putfield 52, 3) := by decide +kernel
theorem dX5_lostBy_5 : decode cX5_lostBy 5 = .ok (.ldc2_w 209, 3) := by decide +kernel
theorem dX5_lostBy_8 : decode cX5_lostBy 8 = .ok (.lreturn, 1) := by decide +kernel
theorem dX5_isLane_0 : decode cX5_isLane 0 = .ok (.iload_n 0, 1) := by decide +kernel
theorem dX5_isLane_1 : decode cX5_isLane 1 = .ok (.ifCond .lt 12, 3) := by decide +kernel
theorem dX5_isLane_4 : decode cX5_isLane 4 = .ok (.iload_n 0, 1) := by decide +kernel
theorem dX5_isLane_5 : decode cX5_isLane 5 = .ok (.iconst 2, 1) := by decide +kernel
theorem dX5_isLane_6 : decode cX5_isLane 6 = .ok (.if_icmp .gt 7, 3) := by decide +kernel
theorem dX5_isLane_9 : decode cX5_isLane 9 = .ok (.iconst 1, 1) := by decide +kernel
theorem dX5_isLane_10 : decode cX5_isLane 10 = .ok (.goto 4, 3) := by decide +kernel
theorem dX5_isLane_13 : decode cX5_isLane 13 = .ok (.iconst 0, 1) := by decide +kernel
theorem dX5_isLane_14 : decode cX5_isLane 14 = .ok (.ireturn, 1) := by decide +kernel
theorem dX5_isIn_0 : decode cX5_isIn 0 = .ok (.iload_n 0, 1) := by decide +kernel
theorem dX5_isIn_1 : decode cX5_isIn 1 = .ok (.iload_n 1, 1) := by decide +kernel
theorem dX5_isIn_2 : decode cX5_isIn 2 = .ok (.ishr, 1) := by decide +kernel
theorem dX5_isIn_3 : decode cX5_isIn 3 = .ok (.iconst 1, 1) := by decide +kernel
theorem dX5_isIn_4 : decode cX5_isIn 4 = .ok (.iand, 1) := by decide +kernel
theorem dX5_isIn_5 : decode cX5_isIn 5 = .ok (.iconst 1, 1) := by decide +kernel
theorem dX5_isIn_6 : decode cX5_isIn 6 = .ok (.if_icmp .ne 7, 3) := by decide +kernel
theorem dX5_isIn_9 : decode cX5_isIn 9 = .ok (.iconst 1, 1) := by decide +kernel
theorem dX5_isIn_10 : decode cX5_isIn 10 = .ok (.goto 4, 3) := by decide +kernel
theorem dX5_isIn_13 : decode cX5_isIn 13 = .ok (.iconst 0, 1) := by decide +kernel
theorem dX5_isIn_14 : decode cX5_isIn 14 = .ok (.ireturn, 1) := by decide +kernel
theorem dX5_isWithin_0 : decode cX5_isWithin 0 = .ok (.iload_n 0, 1) := by decide +kernel
theorem dX5_isWithin_1 : decode cX5_isWithin 1 = .ok (.iload_n 1, 1) := by decide +kernel
theorem dX5_isWithin_2 : decode cX5_isWithin 2 = .ok (.iconst (-1), 1) := by decide +kernel
theorem dX5_isWithin_3 : decode cX5_isWithin 3 = .ok (.ixor, 1) := by decide +kernel
theorem dX5_isWithin_4 : decode cX5_isWithin 4 = .ok (.iand, 1) := by decide +kernel
theorem dX5_isWithin_5 : decode cX5_isWithin 5 = .ok (.ifCond .ne 7, 3) := by decide +kernel
theorem dX5_isWithin_8 : decode cX5_isWithin 8 = .ok (.iconst 1, 1) := by decide +kernel
theorem dX5_isWithin_9 : decode cX5_isWithin 9 = .ok (.goto 4, 3) := by decide +kernel
theorem dX5_isWithin_12 : decode cX5_isWithin 12 = .ok (.iconst 0, 1) := by decide +kernel
theorem dX5_isWithin_13 : decode cX5_isWithin 13 = .ok (.ireturn, 1) := by decide +kernel
theorem dX5_freshBy_0 : decode cX5_freshBy 0 = .ok (.iload_n 3, 1) := by decide +kernel
theorem dX5_freshBy_1 : decode cX5_freshBy 1 = .ok (.iload_n 1, 1) := by decide +kernel
theorem dX5_freshBy_2 : decode cX5_freshBy 2 = .ok (.if_icmp .ge 5, 3) := by decide +kernel
theorem dX5_freshBy_5 : decode cX5_freshBy 5 = .ok (.iconst 0, 1) := by decide +kernel
theorem dX5_freshBy_6 : decode cX5_freshBy 6 = .ok (.ireturn, 1) := by decide +kernel
theorem dX5_freshBy_7 : decode cX5_freshBy 7 = .ok (.iload_n 3, 1) := by decide +kernel
theorem dX5_freshBy_8 : decode cX5_freshBy 8 = .ok (.iload_n 1, 1) := by decide +kernel
theorem dX5_freshBy_9 : decode cX5_freshBy 9 = .ok (.isub, 1) := by decide +kernel
theorem dX5_freshBy_10 : decode cX5_freshBy 10 = .ok (.istore 4, 2) := by decide +kernel
theorem dX5_freshBy_12 : decode cX5_freshBy 12 = .ok (.iload_n 2, 1) := by decide +kernel
theorem dX5_freshBy_13 : decode cX5_freshBy 13 = .ok (.iload_n 0, 1) := by decide +kernel
theorem dX5_freshBy_14 : decode cX5_freshBy 14 = .ok (.iconst 1, 1) := by decide +kernel
theorem dX5_freshBy_15 : decode cX5_freshBy 15 = .ok (.if_icmp .ne 10, 3) := by decide +kernel
theorem dX5_freshBy_18 : decode cX5_freshBy 18 = .ok (.iload 4, 2) := by decide +kernel
theorem dX5_freshBy_20 : decode cX5_freshBy 20 = .ok (.iconst 3, 1) := by decide +kernel
theorem dX5_freshBy_21 : decode cX5_freshBy 21 = .ok (.idiv, 1) := by decide +kernel
theorem dX5_freshBy_22 : decode cX5_freshBy 22 = .ok (.goto 5, 3) := by decide +kernel
theorem dX5_freshBy_25 : decode cX5_freshBy 25 = .ok (.iload 4, 2) := by decide +kernel
theorem dX5_freshBy_27 : decode cX5_freshBy 27 = .ok (.isub, 1) := by decide +kernel
theorem dX5_freshBy_28 : decode cX5_freshBy 28 = .ok (.istore 5, 2) := by decide +kernel
theorem dX5_freshBy_30 : decode cX5_freshBy 30 = .ok (.iload 5, 2) := by decide +kernel
theorem dX5_freshBy_32 : decode cX5_freshBy 32 = .ok (.ifCond .ge 5, 3) := by decide +kernel
theorem dX5_freshBy_35 : decode cX5_freshBy 35 = .ok (.iconst 0, 1) := by decide +kernel
theorem dX5_freshBy_36 : decode cX5_freshBy 36 = .ok (.ireturn, 1) := by decide +kernel
theorem dX5_freshBy_37 : decode cX5_freshBy 37 = .ok (.iload_n 0, 1) := by decide +kernel
theorem dX5_freshBy_38 : decode cX5_freshBy 38 = .ok (.iconst 2, 1) := by decide +kernel
theorem dX5_freshBy_39 : decode cX5_freshBy 39 = .ok (.if_icmp .ne 10, 3) := by decide +kernel
theorem dX5_freshBy_42 : decode cX5_freshBy 42 = .ok (.iload 5, 2) := by decide +kernel
theorem dX5_freshBy_44 : decode cX5_freshBy 44 = .ok (.iconst 2, 1) := by decide +kernel
theorem dX5_freshBy_45 : decode cX5_freshBy 45 = .ok (.idiv, 1) := by decide +kernel
theorem dX5_freshBy_46 : decode cX5_freshBy 46 = .ok (.goto 5, 3) := by decide +kernel
theorem dX5_freshBy_49 : decode cX5_freshBy 49 = .ok (.iload 5, 2) := by decide +kernel
theorem dX5_freshBy_51 : decode cX5_freshBy 51 = .ok (.ireturn, 1) := by decide +kernel
theorem dX5_canBeAskedOfYear_0 : decode cX5_canBeAskedOfYear 0 = .ok (.iload_n 0, 1) := by decide +kernel
theorem dX5_canBeAskedOfYear_1 : decode cX5_canBeAskedOfYear 1 = .ok (.ifCond .lt 8, 3) := by decide +kernel
theorem dX5_canBeAskedOfYear_4 : decode cX5_canBeAskedOfYear 4 = .ok (.iload_n 0, 1) := by decide +kernel
theorem dX5_canBeAskedOfYear_5 : decode cX5_canBeAskedOfYear 5 = .ok (.iconst 3, 1) := by decide +kernel
theorem dX5_canBeAskedOfYear_6 : decode cX5_canBeAskedOfYear 6 = .ok (.if_icmp .le 39, 3) := by decide +kernel
theorem dX5_canBeAskedOfYear_9 : decode cX5_canBeAskedOfYear 9 = .ok (.iload_n 0, 1) := by decide +kernel
theorem dX5_canBeAskedOfYear_10 : decode cX5_canBeAskedOfYear 10 = .ok (.bipush 10, 2) := by decide +kernel
theorem dX5_canBeAskedOfYear_12 : decode cX5_canBeAskedOfYear 12 = .ok (.if_icmp .lt 9, 3) := by decide +kernel
theorem dX5_canBeAskedOfYear_15 : decode cX5_canBeAskedOfYear 15 = .ok (.iload_n 0, 1) := by decide +kernel
theorem dX5_canBeAskedOfYear_16 : decode cX5_canBeAskedOfYear 16 = .ok (.bipush 14, 2) := by decide +kernel
theorem dX5_canBeAskedOfYear_18 : decode cX5_canBeAskedOfYear 18 = .ok (.if_icmp .lt 27, 3) := by decide +kernel
theorem dX5_canBeAskedOfYear_21 : decode cX5_canBeAskedOfYear 21 = .ok (.iload_n 0, 1) := by decide +kernel
theorem dX5_canBeAskedOfYear_22 : decode cX5_canBeAskedOfYear 22 = .ok (.bipush 20, 2) := by decide +kernel
theorem dX5_canBeAskedOfYear_24 : decode cX5_canBeAskedOfYear 24 = .ok (.if_icmp .lt 9, 3) := by decide +kernel
theorem dX5_canBeAskedOfYear_27 : decode cX5_canBeAskedOfYear 27 = .ok (.iload_n 0, 1) := by decide +kernel
theorem dX5_canBeAskedOfYear_28 : decode cX5_canBeAskedOfYear 28 = .ok (.bipush 24, 2) := by decide +kernel
theorem dX5_canBeAskedOfYear_30 : decode cX5_canBeAskedOfYear 30 = .ok (.if_icmp .lt 15, 3) := by decide +kernel
theorem dX5_canBeAskedOfYear_33 : decode cX5_canBeAskedOfYear 33 = .ok (.iload_n 0, 1) := by decide +kernel
theorem dX5_canBeAskedOfYear_34 : decode cX5_canBeAskedOfYear 34 = .ok (.bipush 30, 2) := by decide +kernel
theorem dX5_canBeAskedOfYear_36 : decode cX5_canBeAskedOfYear 36 = .ok (.if_icmp .lt 13, 3) := by decide +kernel
theorem dX5_canBeAskedOfYear_39 : decode cX5_canBeAskedOfYear 39 = .ok (.iload_n 0, 1) := by decide +kernel
theorem dX5_canBeAskedOfYear_40 : decode cX5_canBeAskedOfYear 40 = .ok (.bipush 36, 2) := by decide +kernel
theorem dX5_canBeAskedOfYear_42 : decode cX5_canBeAskedOfYear 42 = .ok (.if_icmp .ge 7, 3) := by decide +kernel
theorem dX5_canBeAskedOfYear_45 : decode cX5_canBeAskedOfYear 45 = .ok (.iconst 1, 1) := by decide +kernel
theorem dX5_canBeAskedOfYear_46 : decode cX5_canBeAskedOfYear 46 = .ok (.goto 4, 3) := by decide +kernel
theorem dX5_canBeAskedOfYear_49 : decode cX5_canBeAskedOfYear 49 = .ok (.iconst 0, 1) := by decide +kernel
theorem dX5_canBeAskedOfYear_50 : decode cX5_canBeAskedOfYear 50 = .ok (.ireturn, 1) := by decide +kernel
theorem dX5_refusalOfPairs_0 : decode cX5_refusalOfPairs 0 = .ok (.iconst 0, 1) := by decide +kernel
theorem dX5_refusalOfPairs_1 : decode cX5_refusalOfPairs 1 = .ok (.istore 4, 2) := by decide +kernel
theorem dX5_refusalOfPairs_3 : decode cX5_refusalOfPairs 3 = .ok (.iload 4, 2) := by decide +kernel
theorem dX5_refusalOfPairs_5 : decode cX5_refusalOfPairs 5 = .ok (.iload_n 3, 1) := by decide +kernel
theorem dX5_refusalOfPairs_6 : decode cX5_refusalOfPairs 6 = .ok (.if_icmp .ge 94, 3) := by decide +kernel
theorem dX5_refusalOfPairs_9 : decode cX5_refusalOfPairs 9 = .ok (.aload_n 1, 1) := by decide +kernel
theorem dX5_refusalOfPairs_10 : decode cX5_refusalOfPairs 10 = .ok (.getfield 221, 3) := by decide +kernel
theorem dX5_refusalOfPairs_13 : decode cX5_refusalOfPairs 13 = .ok (.iload_n 2, 1) := by decide +kernel
theorem dX5_refusalOfPairs_14 : decode cX5_refusalOfPairs 14 = .ok (.iconst 2, 1) := by decide +kernel
theorem dX5_refusalOfPairs_15 : decode cX5_refusalOfPairs 15 = .ok (.iload 4, 2) := by decide +kernel
theorem dX5_refusalOfPairs_17 : decode cX5_refusalOfPairs 17 = .ok (.imul, 1) := by decide +kernel
theorem dX5_refusalOfPairs_18 : decode cX5_refusalOfPairs 18 = .ok (.iadd, 1) := by decide +kernel
theorem dX5_refusalOfPairs_19 : decode cX5_refusalOfPairs 19 = .ok (.iaload, 1) := by decide +kernel
theorem dX5_refusalOfPairs_20 : decode cX5_refusalOfPairs 20 = .ok (.istore 5, 2) := by decide +kernel
theorem dX5_refusalOfPairs_22 : decode cX5_refusalOfPairs 22 = .ok (.aload_n 1, 1) := by decide +kernel
theorem dX5_refusalOfPairs_23 : decode cX5_refusalOfPairs 23 = .ok (.getfield 221, 3) := by decide +kernel
theorem dX5_refusalOfPairs_26 : decode cX5_refusalOfPairs 26 = .ok (.iload_n 2, 1) := by decide +kernel
theorem dX5_refusalOfPairs_27 : decode cX5_refusalOfPairs 27 = .ok (.iconst 2, 1) := by decide +kernel
theorem dX5_refusalOfPairs_28 : decode cX5_refusalOfPairs 28 = .ok (.iload 4, 2) := by decide +kernel
theorem dX5_refusalOfPairs_30 : decode cX5_refusalOfPairs 30 = .ok (.imul, 1) := by decide +kernel
theorem dX5_refusalOfPairs_31 : decode cX5_refusalOfPairs 31 = .ok (.iadd, 1) := by decide +kernel
theorem dX5_refusalOfPairs_32 : decode cX5_refusalOfPairs 32 = .ok (.iconst 1, 1) := by decide +kernel
theorem dX5_refusalOfPairs_33 : decode cX5_refusalOfPairs 33 = .ok (.iadd, 1) := by decide +kernel
theorem dX5_refusalOfPairs_34 : decode cX5_refusalOfPairs 34 = .ok (.iaload, 1) := by decide +kernel
theorem dX5_refusalOfPairs_35 : decode cX5_refusalOfPairs 35 = .ok (.istore 6, 2) := by decide +kernel
theorem dX5_refusalOfPairs_37 : decode cX5_refusalOfPairs 37 = .ok (.iload 6, 2) := by decide +kernel
theorem dX5_refusalOfPairs_39 : decode cX5_refusalOfPairs 39 = .ok (.bipush 9, 2) := by decide +kernel
theorem dX5_refusalOfPairs_41 : decode cX5_refusalOfPairs 41 = .ok (.if_icmp .ne 18, 3) := by decide +kernel
theorem dX5_refusalOfPairs_44 : decode cX5_refusalOfPairs 44 = .ok (.iload 5, 2) := by decide +kernel
theorem dX5_refusalOfPairs_46 : decode cX5_refusalOfPairs 46 = .ok (.ifCond .lt 10, 3) := by decide +kernel
theorem dX5_refusalOfPairs_49 : decode cX5_refusalOfPairs 49 = .ok (.iload 5, 2) := by decide +kernel
theorem dX5_refusalOfPairs_51 : decode cX5_refusalOfPairs 51 = .ok (.bipush 9, 2) := by decide +kernel
theorem dX5_refusalOfPairs_53 : decode cX5_refusalOfPairs 53 = .ok (.if_icmp .le 41, 3) := by decide +kernel
theorem dX5_refusalOfPairs_56 : decode cX5_refusalOfPairs 56 = .ok (.bipush (-2), 2) := by decide +kernel
theorem dX5_refusalOfPairs_58 : decode cX5_refusalOfPairs 58 = .ok (.ireturn, 1) := by decide +kernel
theorem dX5_refusalOfPairs_59 : decode cX5_refusalOfPairs 59 = .ok (.iload 6, 2) := by decide +kernel
theorem dX5_refusalOfPairs_61 : decode cX5_refusalOfPairs 61 = .ok (.bipush 8, 2) := by decide +kernel
theorem dX5_refusalOfPairs_63 : decode cX5_refusalOfPairs 63 = .ok (.if_icmp .eq 17, 3) := by decide +kernel
theorem dX5_refusalOfPairs_66 : decode cX5_refusalOfPairs 66 = .ok (.iload 6, 2) := by decide +kernel
theorem dX5_refusalOfPairs_68 : decode cX5_refusalOfPairs 68 = .ok (.ifCond .lt 9, 3) := by decide +kernel
theorem dX5_refusalOfPairs_71 : decode cX5_refusalOfPairs 71 = .ok (.iload 6, 2) := by decide +kernel
theorem dX5_refusalOfPairs_73 : decode cX5_refusalOfPairs 73 = .ok (.iconst 4, 1) := by decide +kernel
theorem dX5_refusalOfPairs_74 : decode cX5_refusalOfPairs 74 = .ok (.if_icmp .lt 6, 3) := by decide +kernel
theorem dX5_refusalOfPairs_77 : decode cX5_refusalOfPairs 77 = .ok (.bipush (-2), 2) := by decide +kernel
theorem dX5_refusalOfPairs_79 : decode cX5_refusalOfPairs 79 = .ok (.ireturn, 1) := by decide +kernel
theorem dX5_refusalOfPairs_80 : decode cX5_refusalOfPairs 80 = .ok (.aload_n 0, 1) := by decide +kernel
theorem dX5_refusalOfPairs_81 : decode cX5_refusalOfPairs 81 = .ok (.getfield 20, 3) := by decide +kernel
theorem dX5_refusalOfPairs_84 : decode cX5_refusalOfPairs 84 = .ok (.iload 5, 2) := by decide +kernel
theorem dX5_refusalOfPairs_86 : decode cX5_refusalOfPairs 86 = .ok (.invokevirtual 93, 3) := by decide +kernel
theorem dX5_refusalOfPairs_89 : decode cX5_refusalOfPairs 89 = .ok (.ifCond .ne 5, 3) := by decide +kernel
theorem dX5_refusalOfPairs_92 : decode cX5_refusalOfPairs 92 = .ok (.iconst (-1), 1) := by decide +kernel
theorem dX5_refusalOfPairs_93 : decode cX5_refusalOfPairs 93 = .ok (.ireturn, 1) := by decide +kernel
theorem dX5_refusalOfPairs_94 : decode cX5_refusalOfPairs 94 = .ok (.iinc 4 1, 3) := by decide +kernel
theorem dX5_refusalOfPairs_97 : decode cX5_refusalOfPairs 97 = .ok (.goto (-94), 3) := by decide +kernel
theorem dX5_refusalOfPairs_100 : decode cX5_refusalOfPairs 100 = .ok (.iconst 0, 1) := by decide +kernel
theorem dX5_refusalOfPairs_101 : decode cX5_refusalOfPairs 101 = .ok (.ireturn, 1) := by decide +kernel
theorem dX5_firstWrongIn_0 : decode cX5_firstWrongIn 0 = .ok (.iconst 0, 1) := by decide +kernel
theorem dX5_firstWrongIn_1 : decode cX5_firstWrongIn 1 = .ok (.istore 4, 2) := by decide +kernel
theorem dX5_firstWrongIn_3 : decode cX5_firstWrongIn 3 = .ok (.iload 4, 2) := by decide +kernel
theorem dX5_firstWrongIn_5 : decode cX5_firstWrongIn 5 = .ok (.iload_n 3, 1) := by decide +kernel
theorem dX5_firstWrongIn_6 : decode cX5_firstWrongIn 6 = .ok (.if_icmp .ge 46, 3) := by decide +kernel
theorem dX5_firstWrongIn_9 : decode cX5_firstWrongIn 9 = .ok (.aload_n 0, 1) := by decide +kernel
theorem dX5_firstWrongIn_10 : decode cX5_firstWrongIn 10 = .ok (.getfield 24, 3) := by decide +kernel
theorem dX5_firstWrongIn_13 : decode cX5_firstWrongIn 13 = .ok (.aload_n 1, 1) := by decide +kernel
theorem dX5_firstWrongIn_14 : decode cX5_firstWrongIn 14 = .ok (.getfield 221, 3) := by decide +kernel
theorem dX5_firstWrongIn_17 : decode cX5_firstWrongIn 17 = .ok (.iload_n 2, 1) := by decide +kernel
theorem dX5_firstWrongIn_18 : decode cX5_firstWrongIn 18 = .ok (.iconst 2, 1) := by decide +kernel
theorem dX5_firstWrongIn_19 : decode cX5_firstWrongIn 19 = .ok (.iload 4, 2) := by decide +kernel
theorem dX5_firstWrongIn_21 : decode cX5_firstWrongIn 21 = .ok (.imul, 1) := by decide +kernel
theorem dX5_firstWrongIn_22 : decode cX5_firstWrongIn 22 = .ok (.iadd, 1) := by decide +kernel
theorem dX5_firstWrongIn_23 : decode cX5_firstWrongIn 23 = .ok (.iaload, 1) := by decide +kernel
theorem dX5_firstWrongIn_24 : decode cX5_firstWrongIn 24 = .ok (.aload_n 1, 1) := by decide +kernel
theorem dX5_firstWrongIn_25 : decode cX5_firstWrongIn 25 = .ok (.getfield 221, 3) := by decide +kernel
theorem dX5_firstWrongIn_28 : decode cX5_firstWrongIn 28 = .ok (.iload_n 2, 1) := by decide +kernel
theorem dX5_firstWrongIn_29 : decode cX5_firstWrongIn 29 = .ok (.iconst 2, 1) := by decide +kernel
theorem dX5_firstWrongIn_30 : decode cX5_firstWrongIn 30 = .ok (.iload 4, 2) := by decide +kernel
theorem dX5_firstWrongIn_32 : decode cX5_firstWrongIn 32 = .ok (.imul, 1) := by decide +kernel
theorem dX5_firstWrongIn_33 : decode cX5_firstWrongIn 33 = .ok (.iadd, 1) := by decide +kernel
theorem dX5_firstWrongIn_34 : decode cX5_firstWrongIn 34 = .ok (.iconst 1, 1) := by decide +kernel
theorem dX5_firstWrongIn_35 : decode cX5_firstWrongIn 35 = .ok (.iadd, 1) := by decide +kernel
theorem dX5_firstWrongIn_36 : decode cX5_firstWrongIn 36 = .ok (.iaload, 1) := by decide +kernel
theorem dX5_firstWrongIn_37 : decode cX5_firstWrongIn 37 = .ok (.invokevirtual 259, 3) := by decide +kernel
theorem dX5_firstWrongIn_40 : decode cX5_firstWrongIn 40 = .ok (.ifCond .ne 6, 3) := by decide +kernel
theorem dX5_firstWrongIn_43 : decode cX5_firstWrongIn 43 = .ok (.iload 4, 2) := by decide +kernel
theorem dX5_firstWrongIn_45 : decode cX5_firstWrongIn 45 = .ok (.ireturn, 1) := by decide +kernel
theorem dX5_firstWrongIn_46 : decode cX5_firstWrongIn 46 = .ok (.iinc 4 1, 3) := by decide +kernel
theorem dX5_firstWrongIn_49 : decode cX5_firstWrongIn 49 = .ok (.goto (-46), 3) := by decide +kernel
theorem dX5_firstWrongIn_52 : decode cX5_firstWrongIn 52 = .ok (.bipush (-9), 2) := by decide +kernel
theorem dX5_firstWrongIn_54 : decode cX5_firstWrongIn 54 = .ok (.ireturn, 1) := by decide +kernel
theorem dX5_behindYear_0 : decode cX5_behindYear 0 = .ok (.iload_n 1, 1) := by decide +kernel
theorem dX5_behindYear_1 : decode cX5_behindYear 1 = .ok (.ifCond .ne 11, 3) := by decide +kernel
theorem dX5_behindYear_4 : decode cX5_behindYear 4 = .ok (.aload_n 0, 1) := by decide +kernel
theorem dX5_behindYear_5 : decode cX5_behindYear 5 = .ok (.getfield 24, 3) := by decide +kernel
theorem dX5_behindYear_8 : decode cX5_behindYear 8 = .ok (.getfield 157, 3) := by decide +kernel
theorem dX5_behindYear_11 : decode cX5_behindYear 11 = .ok (.ireturn, 1) := by decide +kernel
theorem dX5_behindYear_12 : decode cX5_behindYear 12 = .ok (.iload_n 1, 1) := by decide +kernel
theorem dX5_behindYear_13 : decode cX5_behindYear 13 = .ok (.iconst 2, 1) := by decide +kernel
theorem dX5_behindYear_14 : decode cX5_behindYear 14 = .ok (.if_icmp .ne 11, 3) := by decide +kernel
theorem dX5_behindYear_17 : decode cX5_behindYear 17 = .ok (.aload_n 0, 1) := by decide +kernel
theorem dX5_behindYear_18 : decode cX5_behindYear 18 = .ok (.getfield 24, 3) := by decide +kernel
theorem dX5_behindYear_21 : decode cX5_behindYear 21 = .ok (.getfield 262, 3) := by decide +kernel
theorem dX5_behindYear_24 : decode cX5_behindYear 24 = .ok (.ireturn, 1) := by decide +kernel
theorem dX5_behindYear_25 : decode cX5_behindYear 25 = .ok (.iload_n 1, 1) := by decide +kernel
theorem dX5_behindYear_26 : decode cX5_behindYear 26 = .ok (.iconst 3, 1) := by decide +kernel
theorem dX5_behindYear_27 : decode cX5_behindYear 27 = .ok (.if_icmp .ne 11, 3) := by decide +kernel
theorem dX5_behindYear_30 : decode cX5_behindYear 30 = .ok (.aload_n 0, 1) := by decide +kernel
theorem dX5_behindYear_31 : decode cX5_behindYear 31 = .ok (.getfield 24, 3) := by decide +kernel
theorem dX5_behindYear_34 : decode cX5_behindYear 34 = .ok (.invokevirtual 265, 3) := by decide +kernel
theorem dX5_behindYear_37 : decode cX5_behindYear 37 = .ok (.ireturn, 1) := by decide +kernel
theorem dX5_behindYear_38 : decode cX5_behindYear 38 = .ok (.iload_n 1, 1) := by decide +kernel
theorem dX5_behindYear_39 : decode cX5_behindYear 39 = .ok (.bipush 30, 2) := by decide +kernel
theorem dX5_behindYear_41 : decode cX5_behindYear 41 = .ok (.if_icmp .lt 35, 3) := by decide +kernel
theorem dX5_behindYear_44 : decode cX5_behindYear 44 = .ok (.aload_n 0, 1) := by decide +kernel
theorem dX5_behindYear_45 : decode cX5_behindYear 45 = .ok (.getfield 24, 3) := by decide +kernel
theorem dX5_behindYear_48 : decode cX5_behindYear 48 = .ok (.iload_n 1, 1) := by decide +kernel
theorem dX5_behindYear_49 : decode cX5_behindYear 49 = .ok (.bipush 30, 2) := by decide +kernel
theorem dX5_behindYear_51 : decode cX5_behindYear 51 = .ok (.isub, 1) := by decide +kernel
theorem dX5_behindYear_52 : decode cX5_behindYear 52 = .ok (.invokevirtual 93, 3) := by decide +kernel
theorem dX5_behindYear_55 : decode cX5_behindYear 55 = .ok (.ifCond .eq 18, 3) := by decide +kernel
theorem dX5_behindYear_58 : decode cX5_behindYear 58 = .ok (.aload_n 0, 1) := by decide +kernel
theorem dX5_behindYear_59 : decode cX5_behindYear 59 = .ok (.getfield 24, 3) := by decide +kernel
theorem dX5_behindYear_62 : decode cX5_behindYear 62 = .ok (.getfield 100, 3) := by decide +kernel
theorem dX5_behindYear_65 : decode cX5_behindYear 65 = .ok (.iload_n 1, 1) := by decide +kernel
theorem dX5_behindYear_66 : decode cX5_behindYear 66 = .ok (.bipush 30, 2) := by decide +kernel
theorem dX5_behindYear_68 : decode cX5_behindYear 68 = .ok (.isub, 1) := by decide +kernel
theorem dX5_behindYear_69 : decode cX5_behindYear 69 = .ok (.iaload, 1) := by decide +kernel
theorem dX5_behindYear_70 : decode cX5_behindYear 70 = .ok (.goto 5, 3) := by decide +kernel
theorem dX5_behindYear_73 : decode cX5_behindYear 73 = .ok (.bipush (-9), 2) := by decide +kernel
theorem dX5_behindYear_75 : decode cX5_behindYear 75 = .ok (.ireturn, 1) := by decide +kernel
theorem dX5_behindYear_76 : decode cX5_behindYear 76 = .ok (.iload_n 1, 1) := by decide +kernel
theorem dX5_behindYear_77 : decode cX5_behindYear 77 = .ok (.bipush 20, 2) := by decide +kernel
theorem dX5_behindYear_79 : decode cX5_behindYear 79 = .ok (.if_icmp .lt 35, 3) := by decide +kernel
theorem dX5_behindYear_82 : decode cX5_behindYear 82 = .ok (.aload_n 0, 1) := by decide +kernel
theorem dX5_behindYear_83 : decode cX5_behindYear 83 = .ok (.getfield 24, 3) := by decide +kernel
theorem dX5_behindYear_86 : decode cX5_behindYear 86 = .ok (.iload_n 1, 1) := by decide +kernel
theorem dX5_behindYear_87 : decode cX5_behindYear 87 = .ok (.bipush 20, 2) := by decide +kernel
theorem dX5_behindYear_89 : decode cX5_behindYear 89 = .ok (.isub, 1) := by decide +kernel
theorem dX5_behindYear_90 : decode cX5_behindYear 90 = .ok (.invokevirtual 112, 3) := by decide +kernel
theorem dX5_behindYear_93 : decode cX5_behindYear 93 = .ok (.ifCond .eq 18, 3) := by decide +kernel
theorem dX5_behindYear_96 : decode cX5_behindYear 96 = .ok (.aload_n 0, 1) := by decide +kernel
theorem dX5_behindYear_97 : decode cX5_behindYear 97 = .ok (.getfield 24, 3) := by decide +kernel
theorem dX5_behindYear_100 : decode cX5_behindYear 100 = .ok (.getfield 118, 3) := by decide +kernel
theorem dX5_behindYear_103 : decode cX5_behindYear 103 = .ok (.iload_n 1, 1) := by decide +kernel
theorem dX5_behindYear_104 : decode cX5_behindYear 104 = .ok (.bipush 20, 2) := by decide +kernel
theorem dX5_behindYear_106 : decode cX5_behindYear 106 = .ok (.isub, 1) := by decide +kernel
theorem dX5_behindYear_107 : decode cX5_behindYear 107 = .ok (.iaload, 1) := by decide +kernel
theorem dX5_behindYear_108 : decode cX5_behindYear 108 = .ok (.goto 5, 3) := by decide +kernel
theorem dX5_behindYear_111 : decode cX5_behindYear 111 = .ok (.bipush (-9), 2) := by decide +kernel
theorem dX5_behindYear_113 : decode cX5_behindYear 113 = .ok (.ireturn, 1) := by decide +kernel
theorem dX5_behindYear_114 : decode cX5_behindYear 114 = .ok (.aload_n 0, 1) := by decide +kernel
theorem dX5_behindYear_115 : decode cX5_behindYear 115 = .ok (.getfield 24, 3) := by decide +kernel
theorem dX5_behindYear_118 : decode cX5_behindYear 118 = .ok (.iload_n 1, 1) := by decide +kernel
theorem dX5_behindYear_119 : decode cX5_behindYear 119 = .ok (.bipush 10, 2) := by decide +kernel
theorem dX5_behindYear_121 : decode cX5_behindYear 121 = .ok (.isub, 1) := by decide +kernel
theorem dX5_behindYear_122 : decode cX5_behindYear 122 = .ok (.invokevirtual 112, 3) := by decide +kernel
theorem dX5_behindYear_125 : decode cX5_behindYear 125 = .ok (.ifCond .eq 18, 3) := by decide +kernel
theorem dX5_behindYear_128 : decode cX5_behindYear 128 = .ok (.aload_n 0, 1) := by decide +kernel
theorem dX5_behindYear_129 : decode cX5_behindYear 129 = .ok (.getfield 24, 3) := by decide +kernel
theorem dX5_behindYear_132 : decode cX5_behindYear 132 = .ok (.getfield 115, 3) := by decide +kernel
theorem dX5_behindYear_135 : decode cX5_behindYear 135 = .ok (.iload_n 1, 1) := by decide +kernel
theorem dX5_behindYear_136 : decode cX5_behindYear 136 = .ok (.bipush 10, 2) := by decide +kernel
theorem dX5_behindYear_138 : decode cX5_behindYear 138 = .ok (.isub, 1) := by decide +kernel
theorem dX5_behindYear_139 : decode cX5_behindYear 139 = .ok (.iaload, 1) := by decide +kernel
theorem dX5_behindYear_140 : decode cX5_behindYear 140 = .ok (.goto 5, 3) := by decide +kernel
theorem dX5_behindYear_143 : decode cX5_behindYear 143 = .ok (.bipush (-9), 2) := by decide +kernel
theorem dX5_behindYear_145 : decode cX5_behindYear 145 = .ok (.ireturn, 1) := by decide +kernel
theorem dX5_setToBuy_0 : decode cX5_setToBuy 0 = .ok (.aload_n 0, 1) := by decide +kernel
theorem dX5_setToBuy_1 : decode cX5_setToBuy 1 = .ok (.getfield 20, 3) := by decide +kernel
theorem dX5_setToBuy_4 : decode cX5_setToBuy 4 = .ok (.iload_n 1, 1) := by decide +kernel
theorem dX5_setToBuy_5 : decode cX5_setToBuy 5 = .ok (.invokevirtual 121, 3) := by decide +kernel
theorem dX5_setToBuy_8 : decode cX5_setToBuy 8 = .ok (.istore_n 3, 1) := by decide +kernel
theorem dX5_setToBuy_9 : decode cX5_setToBuy 9 = .ok (.aload_n 0, 1) := by decide +kernel
theorem dX5_setToBuy_10 : decode cX5_setToBuy 10 = .ok (.getfield 20, 3) := by decide +kernel
theorem dX5_setToBuy_13 : decode cX5_setToBuy 13 = .ok (.invokevirtual 268, 3) := by decide +kernel
theorem dX5_setToBuy_16 : decode cX5_setToBuy 16 = .ok (.iload_n 3, 1) := by decide +kernel
theorem dX5_setToBuy_17 : decode cX5_setToBuy 17 = .ok (.iconst (-1), 1) := by decide +kernel
theorem dX5_setToBuy_18 : decode cX5_setToBuy 18 = .ok (.ixor, 1) := by decide +kernel
theorem dX5_setToBuy_19 : decode cX5_setToBuy 19 = .ok (.iand, 1) := by decide +kernel
theorem dX5_setToBuy_20 : decode cX5_setToBuy 20 = .ok (.istore 4, 2) := by decide +kernel
theorem dX5_setToBuy_22 : decode cX5_setToBuy 22 = .ok (.bipush (-9), 2) := by decide +kernel
theorem dX5_setToBuy_24 : decode cX5_setToBuy 24 = .ok (.istore 5, 2) := by decide +kernel
theorem dX5_setToBuy_26 : decode cX5_setToBuy 26 = .ok (.iconst 0, 1) := by decide +kernel
theorem dX5_setToBuy_27 : decode cX5_setToBuy 27 = .ok (.istore 6, 2) := by decide +kernel
theorem dX5_setToBuy_29 : decode cX5_setToBuy 29 = .ok (.iconst 0, 1) := by decide +kernel
theorem dX5_setToBuy_30 : decode cX5_setToBuy 30 = .ok (.istore 7, 2) := by decide +kernel
theorem dX5_setToBuy_32 : decode cX5_setToBuy 32 = .ok (.iconst 0, 1) := by decide +kernel
theorem dX5_setToBuy_33 : decode cX5_setToBuy 33 = .ok (.istore 8, 2) := by decide +kernel
theorem dX5_setToBuy_35 : decode cX5_setToBuy 35 = .ok (.iload 8, 2) := by decide +kernel
theorem dX5_setToBuy_37 : decode cX5_setToBuy 37 = .ok (.bipush 64, 2) := by decide +kernel
theorem dX5_setToBuy_39 : decode cX5_setToBuy 39 = .ok (.if_icmp .ge 113, 3) := by decide +kernel
theorem dX5_setToBuy_42 : decode cX5_setToBuy 42 = .ok (.iload 8, 2) := by decide +kernel
theorem dX5_setToBuy_44 : decode cX5_setToBuy 44 = .ok (.iload 4, 2) := by decide +kernel
theorem dX5_setToBuy_46 : decode cX5_setToBuy 46 = .ok (.invokestatic 211, 3) := by decide +kernel
theorem dX5_setToBuy_49 : decode cX5_setToBuy 49 = .ok (.ifCond .ne 6, 3) := by decide +kernel
theorem dX5_setToBuy_52 : decode cX5_setToBuy 52 = .ok (.goto 94, 3) := by decide +kernel
theorem dX5_setToBuy_55 : decode cX5_setToBuy 55 = .ok (.aload_n 0, 1) := by decide +kernel
theorem dX5_setToBuy_56 : decode cX5_setToBuy 56 = .ok (.getfield 20, 3) := by decide +kernel
theorem dX5_setToBuy_59 : decode cX5_setToBuy 59 = .ok (.iload 8, 2) := by decide +kernel
theorem dX5_setToBuy_61 : decode cX5_setToBuy 61 = .ok (.invokevirtual 192, 3) := by decide +kernel
theorem dX5_setToBuy_64 : decode cX5_setToBuy 64 = .ok (.istore 9, 2) := by decide +kernel
theorem dX5_setToBuy_66 : decode cX5_setToBuy 66 = .ok (.iload 9, 2) := by decide +kernel
theorem dX5_setToBuy_68 : decode cX5_setToBuy 68 = .ok (.aload_n 0, 1) := by decide +kernel
theorem dX5_setToBuy_69 : decode cX5_setToBuy 69 = .ok (.getfield 20, 3) := by decide +kernel
theorem dX5_setToBuy_72 : decode cX5_setToBuy 72 = .ok (.getfield 115, 3) := by decide +kernel
theorem dX5_setToBuy_75 : decode cX5_setToBuy 75 = .ok (.iload_n 1, 1) := by decide +kernel
theorem dX5_setToBuy_76 : decode cX5_setToBuy 76 = .ok (.iaload, 1) := by decide +kernel
theorem dX5_setToBuy_77 : decode cX5_setToBuy 77 = .ok (.if_icmp .gt 69, 3) := by decide +kernel
theorem dX5_setToBuy_80 : decode cX5_setToBuy 80 = .ok (.aload_n 0, 1) := by decide +kernel
theorem dX5_setToBuy_81 : decode cX5_setToBuy 81 = .ok (.getfield 20, 3) := by decide +kernel
theorem dX5_setToBuy_84 : decode cX5_setToBuy 84 = .ok (.iload_n 1, 1) := by decide +kernel
theorem dX5_setToBuy_85 : decode cX5_setToBuy 85 = .ok (.iload_n 3, 1) := by decide +kernel
theorem dX5_setToBuy_86 : decode cX5_setToBuy 86 = .ok (.iload 8, 2) := by decide +kernel
theorem dX5_setToBuy_88 : decode cX5_setToBuy 88 = .ok (.ior, 1) := by decide +kernel
theorem dX5_setToBuy_89 : decode cX5_setToBuy 89 = .ok (.invokevirtual 176, 3) := by decide +kernel
theorem dX5_setToBuy_92 : decode cX5_setToBuy 92 = .ok (.iload_n 2, 1) := by decide +kernel
theorem dX5_setToBuy_93 : decode cX5_setToBuy 93 = .ok (.if_icmp .ge 6, 3) := by decide +kernel
theorem dX5_setToBuy_96 : decode cX5_setToBuy 96 = .ok (.goto 50, 3) := by decide +kernel
theorem dX5_setToBuy_99 : decode cX5_setToBuy 99 = .ok (.iload 8, 2) := by decide +kernel
theorem dX5_setToBuy_101 : decode cX5_setToBuy 101 = .ok (.invokestatic 124, 3) := by decide +kernel
theorem dX5_setToBuy_104 : decode cX5_setToBuy 104 = .ok (.istore 10, 2) := by decide +kernel
theorem dX5_setToBuy_106 : decode cX5_setToBuy 106 = .ok (.iload 5, 2) := by decide +kernel
theorem dX5_setToBuy_108 : decode cX5_setToBuy 108 = .ok (.bipush (-9), 2) := by decide +kernel
theorem dX5_setToBuy_110 : decode cX5_setToBuy 110 = .ok (.if_icmp .eq 24, 3) := by decide +kernel
theorem dX5_setToBuy_113 : decode cX5_setToBuy 113 = .ok (.iload 9, 2) := by decide +kernel
theorem dX5_setToBuy_115 : decode cX5_setToBuy 115 = .ok (.iload 6, 2) := by decide +kernel
theorem dX5_setToBuy_117 : decode cX5_setToBuy 117 = .ok (.if_icmp .lt 17, 3) := by decide +kernel
theorem dX5_setToBuy_120 : decode cX5_setToBuy 120 = .ok (.iload 9, 2) := by decide +kernel
theorem dX5_setToBuy_122 : decode cX5_setToBuy 122 = .ok (.iload 6, 2) := by decide +kernel
theorem dX5_setToBuy_124 : decode cX5_setToBuy 124 = .ok (.if_icmp .ne 22, 3) := by decide +kernel
theorem dX5_setToBuy_127 : decode cX5_setToBuy 127 = .ok (.iload 10, 2) := by decide +kernel
theorem dX5_setToBuy_129 : decode cX5_setToBuy 129 = .ok (.iload 7, 2) := by decide +kernel
theorem dX5_setToBuy_131 : decode cX5_setToBuy 131 = .ok (.if_icmp .ge 15, 3) := by decide +kernel
theorem dX5_setToBuy_134 : decode cX5_setToBuy 134 = .ok (.iload 8, 2) := by decide +kernel
theorem dX5_setToBuy_136 : decode cX5_setToBuy 136 = .ok (.istore 5, 2) := by decide +kernel
theorem dX5_setToBuy_138 : decode cX5_setToBuy 138 = .ok (.iload 9, 2) := by decide +kernel
theorem dX5_setToBuy_140 : decode cX5_setToBuy 140 = .ok (.istore 6, 2) := by decide +kernel
theorem dX5_setToBuy_142 : decode cX5_setToBuy 142 = .ok (.iload 10, 2) := by decide +kernel
theorem dX5_setToBuy_144 : decode cX5_setToBuy 144 = .ok (.istore 7, 2) := by decide +kernel
theorem dX5_setToBuy_146 : decode cX5_setToBuy 146 = .ok (.iinc 8 1, 3) := by decide +kernel
theorem dX5_setToBuy_149 : decode cX5_setToBuy 149 = .ok (.goto (-114), 3) := by decide +kernel
theorem dX5_setToBuy_152 : decode cX5_setToBuy 152 = .ok (.iload 5, 2) := by decide +kernel
theorem dX5_setToBuy_154 : decode cX5_setToBuy 154 = .ok (.ireturn, 1) := by decide +kernel
theorem dX5_setToSell_0 : decode cX5_setToSell 0 = .ok (.aload_n 0, 1) := by decide +kernel
theorem dX5_setToSell_1 : decode cX5_setToSell 1 = .ok (.getfield 20, 3) := by decide +kernel
theorem dX5_setToSell_4 : decode cX5_setToSell 4 = .ok (.iload_n 1, 1) := by decide +kernel
theorem dX5_setToSell_5 : decode cX5_setToSell 5 = .ok (.invokevirtual 121, 3) := by decide +kernel
theorem dX5_setToSell_8 : decode cX5_setToSell 8 = .ok (.istore_n 3, 1) := by decide +kernel
theorem dX5_setToSell_9 : decode cX5_setToSell 9 = .ok (.bipush (-9), 2) := by decide +kernel
theorem dX5_setToSell_11 : decode cX5_setToSell 11 = .ok (.istore 4, 2) := by decide +kernel
theorem dX5_setToSell_13 : decode cX5_setToSell 13 = .ok (.iconst 0, 1) := by decide +kernel
theorem dX5_setToSell_14 : decode cX5_setToSell 14 = .ok (.istore 5, 2) := by decide +kernel
theorem dX5_setToSell_16 : decode cX5_setToSell 16 = .ok (.iconst 0, 1) := by decide +kernel
theorem dX5_setToSell_17 : decode cX5_setToSell 17 = .ok (.istore 6, 2) := by decide +kernel
theorem dX5_setToSell_19 : decode cX5_setToSell 19 = .ok (.iconst 0, 1) := by decide +kernel
theorem dX5_setToSell_20 : decode cX5_setToSell 20 = .ok (.istore 7, 2) := by decide +kernel
theorem dX5_setToSell_22 : decode cX5_setToSell 22 = .ok (.iload 7, 2) := by decide +kernel
theorem dX5_setToSell_24 : decode cX5_setToSell 24 = .ok (.bipush 64, 2) := by decide +kernel
theorem dX5_setToSell_26 : decode cX5_setToSell 26 = .ok (.if_icmp .ge 97, 3) := by decide +kernel
theorem dX5_setToSell_29 : decode cX5_setToSell 29 = .ok (.iload 7, 2) := by decide +kernel
theorem dX5_setToSell_31 : decode cX5_setToSell 31 = .ok (.iload_n 3, 1) := by decide +kernel
theorem dX5_setToSell_32 : decode cX5_setToSell 32 = .ok (.invokestatic 211, 3) := by decide +kernel
theorem dX5_setToSell_35 : decode cX5_setToSell 35 = .ok (.ifCond .eq 82, 3) := by decide +kernel
theorem dX5_setToSell_38 : decode cX5_setToSell 38 = .ok (.aload_n 0, 1) := by decide +kernel
theorem dX5_setToSell_39 : decode cX5_setToSell 39 = .ok (.getfield 20, 3) := by decide +kernel
theorem dX5_setToSell_42 : decode cX5_setToSell 42 = .ok (.iload 7, 2) := by decide +kernel
theorem dX5_setToSell_44 : decode cX5_setToSell 44 = .ok (.invokevirtual 192, 3) := by decide +kernel
theorem dX5_setToSell_47 : decode cX5_setToSell 47 = .ok (.iload_n 2, 1) := by decide +kernel
theorem dX5_setToSell_48 : decode cX5_setToSell 48 = .ok (.if_icmp .ge 6, 3) := by decide +kernel
theorem dX5_setToSell_51 : decode cX5_setToSell 51 = .ok (.goto 66, 3) := by decide +kernel
theorem dX5_setToSell_54 : decode cX5_setToSell 54 = .ok (.aload_n 0, 1) := by decide +kernel
theorem dX5_setToSell_55 : decode cX5_setToSell 55 = .ok (.getfield 20, 3) := by decide +kernel
theorem dX5_setToSell_58 : decode cX5_setToSell 58 = .ok (.iload_n 1, 1) := by decide +kernel
theorem dX5_setToSell_59 : decode cX5_setToSell 59 = .ok (.iload_n 3, 1) := by decide +kernel
theorem dX5_setToSell_60 : decode cX5_setToSell 60 = .ok (.iload 7, 2) := by decide +kernel
theorem dX5_setToSell_62 : decode cX5_setToSell 62 = .ok (.iconst (-1), 1) := by decide +kernel
theorem dX5_setToSell_63 : decode cX5_setToSell 63 = .ok (.ixor, 1) := by decide +kernel
theorem dX5_setToSell_64 : decode cX5_setToSell 64 = .ok (.iand, 1) := by decide +kernel
theorem dX5_setToSell_65 : decode cX5_setToSell 65 = .ok (.invokevirtual 176, 3) := by decide +kernel
theorem dX5_setToSell_68 : decode cX5_setToSell 68 = .ok (.istore 8, 2) := by decide +kernel
theorem dX5_setToSell_70 : decode cX5_setToSell 70 = .ok (.iload 7, 2) := by decide +kernel
theorem dX5_setToSell_72 : decode cX5_setToSell 72 = .ok (.invokestatic 124, 3) := by decide +kernel
theorem dX5_setToSell_75 : decode cX5_setToSell 75 = .ok (.istore 9, 2) := by decide +kernel
theorem dX5_setToSell_77 : decode cX5_setToSell 77 = .ok (.iload 4, 2) := by decide +kernel
theorem dX5_setToSell_79 : decode cX5_setToSell 79 = .ok (.bipush (-9), 2) := by decide +kernel
theorem dX5_setToSell_81 : decode cX5_setToSell 81 = .ok (.if_icmp .eq 24, 3) := by decide +kernel
theorem dX5_setToSell_84 : decode cX5_setToSell 84 = .ok (.iload 8, 2) := by decide +kernel
theorem dX5_setToSell_86 : decode cX5_setToSell 86 = .ok (.iload 5, 2) := by decide +kernel
theorem dX5_setToSell_88 : decode cX5_setToSell 88 = .ok (.if_icmp .gt 17, 3) := by decide +kernel
theorem dX5_setToSell_91 : decode cX5_setToSell 91 = .ok (.iload 8, 2) := by decide +kernel
theorem dX5_setToSell_93 : decode cX5_setToSell 93 = .ok (.iload 5, 2) := by decide +kernel
theorem dX5_setToSell_95 : decode cX5_setToSell 95 = .ok (.if_icmp .ne 22, 3) := by decide +kernel
theorem dX5_setToSell_98 : decode cX5_setToSell 98 = .ok (.iload 9, 2) := by decide +kernel
theorem dX5_setToSell_100 : decode cX5_setToSell 100 = .ok (.iload 6, 2) := by decide +kernel
theorem dX5_setToSell_102 : decode cX5_setToSell 102 = .ok (.if_icmp .ge 15, 3) := by decide +kernel
theorem dX5_setToSell_105 : decode cX5_setToSell 105 = .ok (.iload 7, 2) := by decide +kernel
theorem dX5_setToSell_107 : decode cX5_setToSell 107 = .ok (.istore 4, 2) := by decide +kernel
theorem dX5_setToSell_109 : decode cX5_setToSell 109 = .ok (.iload 8, 2) := by decide +kernel
theorem dX5_setToSell_111 : decode cX5_setToSell 111 = .ok (.istore 5, 2) := by decide +kernel
theorem dX5_setToSell_113 : decode cX5_setToSell 113 = .ok (.iload 9, 2) := by decide +kernel
theorem dX5_setToSell_115 : decode cX5_setToSell 115 = .ok (.istore 6, 2) := by decide +kernel
theorem dX5_setToSell_117 : decode cX5_setToSell 117 = .ok (.iinc 7 1, 3) := by decide +kernel
theorem dX5_setToSell_120 : decode cX5_setToSell 120 = .ok (.goto (-98), 3) := by decide +kernel
theorem dX5_setToSell_123 : decode cX5_setToSell 123 = .ok (.iload 4, 2) := by decide +kernel
theorem dX5_setToSell_125 : decode cX5_setToSell 125 = .ok (.ireturn, 1) := by decide +kernel
theorem dX5_gainOfExchange_0 : decode cX5_gainOfExchange 0 = .ok (.aload_n 0, 1) := by decide +kernel
theorem dX5_gainOfExchange_1 : decode cX5_gainOfExchange 1 = .ok (.getfield 20, 3) := by decide +kernel
theorem dX5_gainOfExchange_4 : decode cX5_gainOfExchange 4 = .ok (.getfield 100, 3) := by decide +kernel
theorem dX5_gainOfExchange_7 : decode cX5_gainOfExchange 7 = .ok (.iload_n 1, 1) := by decide +kernel
theorem dX5_gainOfExchange_8 : decode cX5_gainOfExchange 8 = .ok (.iaload, 1) := by decide +kernel
theorem dX5_gainOfExchange_9 : decode cX5_gainOfExchange 9 = .ok (.istore_n 3, 1) := by decide +kernel
theorem dX5_gainOfExchange_10 : decode cX5_gainOfExchange 10 = .ok (.aload_n 0, 1) := by decide +kernel
theorem dX5_gainOfExchange_11 : decode cX5_gainOfExchange 11 = .ok (.getfield 20, 3) := by decide +kernel
theorem dX5_gainOfExchange_14 : decode cX5_gainOfExchange 14 = .ok (.getfield 100, 3) := by decide +kernel
theorem dX5_gainOfExchange_17 : decode cX5_gainOfExchange 17 = .ok (.iload_n 2, 1) := by decide +kernel
theorem dX5_gainOfExchange_18 : decode cX5_gainOfExchange 18 = .ok (.iaload, 1) := by decide +kernel
theorem dX5_gainOfExchange_19 : decode cX5_gainOfExchange 19 = .ok (.istore 4, 2) := by decide +kernel
theorem dX5_gainOfExchange_21 : decode cX5_gainOfExchange 21 = .ok (.iload_n 3, 1) := by decide +kernel
theorem dX5_gainOfExchange_22 : decode cX5_gainOfExchange 22 = .ok (.iload 4, 2) := by decide +kernel
theorem dX5_gainOfExchange_24 : decode cX5_gainOfExchange 24 = .ok (.if_icmp .eq 25, 3) := by decide +kernel
theorem dX5_gainOfExchange_27 : decode cX5_gainOfExchange 27 = .ok (.aload_n 0, 1) := by decide +kernel
theorem dX5_gainOfExchange_28 : decode cX5_gainOfExchange 28 = .ok (.getfield 20, 3) := by decide +kernel
theorem dX5_gainOfExchange_31 : decode cX5_gainOfExchange 31 = .ok (.iload_n 1, 1) := by decide +kernel
theorem dX5_gainOfExchange_32 : decode cX5_gainOfExchange 32 = .ok (.invokevirtual 109, 3) := by decide +kernel
theorem dX5_gainOfExchange_35 : decode cX5_gainOfExchange 35 = .ok (.ifCond .ne 14, 3) := by decide +kernel
theorem dX5_gainOfExchange_38 : decode cX5_gainOfExchange 38 = .ok (.aload_n 0, 1) := by decide +kernel
theorem dX5_gainOfExchange_39 : decode cX5_gainOfExchange 39 = .ok (.getfield 20, 3) := by decide +kernel
theorem dX5_gainOfExchange_42 : decode cX5_gainOfExchange 42 = .ok (.iload_n 2, 1) := by decide +kernel
theorem dX5_gainOfExchange_43 : decode cX5_gainOfExchange 43 = .ok (.invokevirtual 109, 3) := by decide +kernel
theorem dX5_gainOfExchange_46 : decode cX5_gainOfExchange 46 = .ok (.ifCond .eq 5, 3) := by decide +kernel
theorem dX5_gainOfExchange_49 : decode cX5_gainOfExchange 49 = .ok (.iconst 0, 1) := by decide +kernel
theorem dX5_gainOfExchange_50 : decode cX5_gainOfExchange 50 = .ok (.ireturn, 1) := by decide +kernel
theorem dX5_gainOfExchange_51 : decode cX5_gainOfExchange 51 = .ok (.iconst 1, 1) := by decide +kernel
theorem dX5_gainOfExchange_52 : decode cX5_gainOfExchange 52 = .ok (.iload_n 1, 1) := by decide +kernel
theorem dX5_gainOfExchange_53 : decode cX5_gainOfExchange 53 = .ok (.ishl, 1) := by decide +kernel
theorem dX5_gainOfExchange_54 : decode cX5_gainOfExchange 54 = .ok (.iconst 1, 1) := by decide +kernel
theorem dX5_gainOfExchange_55 : decode cX5_gainOfExchange 55 = .ok (.iload_n 2, 1) := by decide +kernel
theorem dX5_gainOfExchange_56 : decode cX5_gainOfExchange 56 = .ok (.ishl, 1) := by decide +kernel
theorem dX5_gainOfExchange_57 : decode cX5_gainOfExchange 57 = .ok (.ior, 1) := by decide +kernel
theorem dX5_gainOfExchange_58 : decode cX5_gainOfExchange 58 = .ok (.istore 5, 2) := by decide +kernel
theorem dX5_gainOfExchange_60 : decode cX5_gainOfExchange 60 = .ok (.aload_n 0, 1) := by decide +kernel
theorem dX5_gainOfExchange_61 : decode cX5_gainOfExchange 61 = .ok (.getfield 20, 3) := by decide +kernel
theorem dX5_gainOfExchange_64 : decode cX5_gainOfExchange 64 = .ok (.iload_n 3, 1) := by decide +kernel
theorem dX5_gainOfExchange_65 : decode cX5_gainOfExchange 65 = .ok (.aload_n 0, 1) := by decide +kernel
theorem dX5_gainOfExchange_66 : decode cX5_gainOfExchange 66 = .ok (.getfield 20, 3) := by decide +kernel
theorem dX5_gainOfExchange_69 : decode cX5_gainOfExchange 69 = .ok (.iload_n 3, 1) := by decide +kernel
theorem dX5_gainOfExchange_70 : decode cX5_gainOfExchange 70 = .ok (.invokevirtual 121, 3) := by decide +kernel
theorem dX5_gainOfExchange_73 : decode cX5_gainOfExchange 73 = .ok (.iload 5, 2) := by decide +kernel
theorem dX5_gainOfExchange_75 : decode cX5_gainOfExchange 75 = .ok (.ixor, 1) := by decide +kernel
theorem dX5_gainOfExchange_76 : decode cX5_gainOfExchange 76 = .ok (.invokevirtual 176, 3) := by decide +kernel
theorem dX5_gainOfExchange_79 : decode cX5_gainOfExchange 79 = .ok (.aload_n 0, 1) := by decide +kernel
theorem dX5_gainOfExchange_80 : decode cX5_gainOfExchange 80 = .ok (.getfield 20, 3) := by decide +kernel
theorem dX5_gainOfExchange_83 : decode cX5_gainOfExchange 83 = .ok (.iload_n 3, 1) := by decide +kernel
theorem dX5_gainOfExchange_84 : decode cX5_gainOfExchange 84 = .ok (.aload_n 0, 1) := by decide +kernel
theorem dX5_gainOfExchange_85 : decode cX5_gainOfExchange 85 = .ok (.getfield 20, 3) := by decide +kernel
theorem dX5_gainOfExchange_88 : decode cX5_gainOfExchange 88 = .ok (.iload_n 3, 1) := by decide +kernel
theorem dX5_gainOfExchange_89 : decode cX5_gainOfExchange 89 = .ok (.invokevirtual 121, 3) := by decide +kernel
theorem dX5_gainOfExchange_92 : decode cX5_gainOfExchange 92 = .ok (.invokevirtual 176, 3) := by decide +kernel
theorem dX5_gainOfExchange_95 : decode cX5_gainOfExchange 95 = .ok (.isub, 1) := by decide +kernel
theorem dX5_gainOfExchange_96 : decode cX5_gainOfExchange 96 = .ok (.istore 6, 2) := by decide +kernel
theorem dX5_gainOfExchange_98 : decode cX5_gainOfExchange 98 = .ok (.aload_n 0, 1) := by decide +kernel
theorem dX5_gainOfExchange_99 : decode cX5_gainOfExchange 99 = .ok (.getfield 20, 3) := by decide +kernel
theorem dX5_gainOfExchange_102 : decode cX5_gainOfExchange 102 = .ok (.iload 4, 2) := by decide +kernel
theorem dX5_gainOfExchange_104 : decode cX5_gainOfExchange 104 = .ok (.aload_n 0, 1) := by decide +kernel
theorem dX5_gainOfExchange_105 : decode cX5_gainOfExchange 105 = .ok (.getfield 20, 3) := by decide +kernel
theorem dX5_gainOfExchange_108 : decode cX5_gainOfExchange 108 = .ok (.iload 4, 2) := by decide +kernel
theorem dX5_gainOfExchange_110 : decode cX5_gainOfExchange 110 = .ok (.invokevirtual 121, 3) := by decide +kernel
theorem dX5_gainOfExchange_113 : decode cX5_gainOfExchange 113 = .ok (.iload 5, 2) := by decide +kernel
theorem dX5_gainOfExchange_115 : decode cX5_gainOfExchange 115 = .ok (.ixor, 1) := by decide +kernel
theorem dX5_gainOfExchange_116 : decode cX5_gainOfExchange 116 = .ok (.invokevirtual 176, 3) := by decide +kernel
theorem dX5_gainOfExchange_119 : decode cX5_gainOfExchange 119 = .ok (.aload_n 0, 1) := by decide +kernel
theorem dX5_gainOfExchange_120 : decode cX5_gainOfExchange 120 = .ok (.getfield 20, 3) := by decide +kernel
theorem dX5_gainOfExchange_123 : decode cX5_gainOfExchange 123 = .ok (.iload 4, 2) := by decide +kernel
theorem dX5_gainOfExchange_125 : decode cX5_gainOfExchange 125 = .ok (.aload_n 0, 1) := by decide +kernel
theorem dX5_gainOfExchange_126 : decode cX5_gainOfExchange 126 = .ok (.getfield 20, 3) := by decide +kernel
theorem dX5_gainOfExchange_129 : decode cX5_gainOfExchange 129 = .ok (.iload 4, 2) := by decide +kernel
theorem dX5_gainOfExchange_131 : decode cX5_gainOfExchange 131 = .ok (.invokevirtual 121, 3) := by decide +kernel
theorem dX5_gainOfExchange_134 : decode cX5_gainOfExchange 134 = .ok (.invokevirtual 176, 3) := by decide +kernel
theorem dX5_gainOfExchange_137 : decode cX5_gainOfExchange 137 = .ok (.isub, 1) := by decide +kernel
theorem dX5_gainOfExchange_138 : decode cX5_gainOfExchange 138 = .ok (.istore 7, 2) := by decide +kernel
theorem dX5_gainOfExchange_140 : decode cX5_gainOfExchange 140 = .ok (.iload 6, 2) := by decide +kernel
theorem dX5_gainOfExchange_142 : decode cX5_gainOfExchange 142 = .ok (.ifCond .lt 8, 3) := by decide +kernel
theorem dX5_gainOfExchange_145 : decode cX5_gainOfExchange 145 = .ok (.iload 7, 2) := by decide +kernel
theorem dX5_gainOfExchange_147 : decode cX5_gainOfExchange 147 = .ok (.ifCond .ge 7, 3) := by decide +kernel
theorem dX5_gainOfExchange_150 : decode cX5_gainOfExchange 150 = .ok (.iconst 0, 1) := by decide +kernel
theorem dX5_gainOfExchange_151 : decode cX5_gainOfExchange 151 = .ok (.goto 8, 3) := by decide +kernel
theorem dX5_gainOfExchange_154 : decode cX5_gainOfExchange 154 = .ok (.iload 6, 2) := by decide +kernel
theorem dX5_gainOfExchange_156 : decode cX5_gainOfExchange 156 = .ok (.iload 7, 2) := by decide +kernel
theorem dX5_gainOfExchange_158 : decode cX5_gainOfExchange 158 = .ok (.iadd, 1) := by decide +kernel
theorem dX5_gainOfExchange_159 : decode cX5_gainOfExchange 159 = .ok (.ireturn, 1) := by decide +kernel
theorem dX5_begins_0 : decode cX5_begins 0 = .ok (.aload_n 0, 1) := by decide +kernel
theorem dX5_begins_1 : decode cX5_begins 1 = .ok (.bipush 31, 2) := by decide +kernel
theorem dX5_begins_3 : decode cX5_begins 3 = .ok (.aload_n 0, 1) := by decide +kernel
theorem dX5_begins_4 : decode cX5_begins 4 = .ok (.getfield 48, 3) := by decide +kernel
theorem dX5_begins_7 : decode cX5_begins 7 = .ok (.imul, 1) := by decide +kernel
theorem dX5_begins_8 : decode cX5_begins 8 = .ok (.iload_n 1, 1) := by decide +kernel
theorem dX5_begins_9 : decode cX5_begins 9 = .ok (.iadd, 1) := by decide +kernel
theorem dX5_begins_10 : decode cX5_begins 10 = .ok (.putfield 48, 3) := by decide +kernel
theorem dX5_begins_13 : decode cX5_begins 13 = .ok (.return_, 1) := by decide +kernel
theorem dX5_toldByClear_0 : decode cX5_toldByClear 0 = .ok (.aload_n 0, 1) := by decide +kernel
theorem dX5_toldByClear_1 : decode cX5_toldByClear 1 = .ok (.iconst 1, 1) := by decide +kernel
theorem dX5_toldByClear_2 : decode cX5_toldByClear 2 = .ok (.invokevirtual 271, 3) := by decide +kernel
theorem dX5_toldByClear_5 : decode cX5_toldByClear 5 = .ok (.aload_n 0, 1) := by decide +kernel
theorem dX5_toldByClear_6 : decode cX5_toldByClear 6 = .ok (.getfield 20, 3) := by decide +kernel
theorem dX5_toldByClear_9 : decode cX5_toldByClear 9 = .ok (.getfield 106, 3) := by decide +kernel
theorem dX5_toldByClear_12 : decode cX5_toldByClear 12 = .ok (.iload_n 1, 1) := by decide +kernel
theorem dX5_toldByClear_13 : decode cX5_toldByClear 13 = .ok (.iaload, 1) := by decide +kernel
theorem dX5_toldByClear_14 : decode cX5_toldByClear 14 = .ok (.ireturn, 1) := by decide +kernel
theorem dX5_toldByFrost_0 : decode cX5_toldByFrost 0 = .ok (.aload_n 0, 1) := by decide +kernel
theorem dX5_toldByFrost_1 : decode cX5_toldByFrost 1 = .ok (.iconst 2, 1) := by decide +kernel
theorem dX5_toldByFrost_2 : decode cX5_toldByFrost 2 = .ok (.invokevirtual 271, 3) := by decide +kernel
theorem dX5_toldByFrost_5 : decode cX5_toldByFrost 5 = .ok (.aload_n 0, 1) := by decide +kernel
theorem dX5_toldByFrost_6 : decode cX5_toldByFrost 6 = .ok (.iload_n 1, 1) := by decide +kernel
theorem dX5_toldByFrost_7 : decode cX5_toldByFrost 7 = .ok (.invokevirtual 246, 3) := by decide +kernel
theorem dX5_toldByFrost_10 : decode cX5_toldByFrost 10 = .ok (.bipush 100, 2) := by decide +kernel
theorem dX5_toldByFrost_12 : decode cX5_toldByFrost 12 = .ok (.iadd, 1) := by decide +kernel
theorem dX5_toldByFrost_13 : decode cX5_toldByFrost 13 = .ok (.ireturn, 1) := by decide +kernel
theorem dX5_toldByPainted_0 : decode cX5_toldByPainted 0 = .ok (.aload_n 0, 1) := by decide +kernel
theorem dX5_toldByPainted_1 : decode cX5_toldByPainted 1 = .ok (.iconst 3, 1) := by decide +kernel
theorem dX5_toldByPainted_2 : decode cX5_toldByPainted 2 = .ok (.invokevirtual 271, 3) := by decide +kernel
theorem dX5_toldByPainted_5 : decode cX5_toldByPainted 5 = .ok (.aload_n 0, 1) := by decide +kernel
theorem dX5_toldByPainted_6 : decode cX5_toldByPainted 6 = .ok (.iload_n 1, 1) := by decide +kernel
theorem dX5_toldByPainted_7 : decode cX5_toldByPainted 7 = .ok (.invokevirtual 240, 3) := by decide +kernel
theorem dX5_toldByPainted_10 : decode cX5_toldByPainted 10 = .ok (.istore_n 2, 1) := by decide +kernel
theorem dX5_toldByPainted_11 : decode cX5_toldByPainted 11 = .ok (.iload_n 2, 1) := by decide +kernel
theorem dX5_toldByPainted_12 : decode cX5_toldByPainted 12 = .ok (.aload_n 0, 1) := by decide +kernel
theorem dX5_toldByPainted_13 : decode cX5_toldByPainted 13 = .ok (.iload_n 1, 1) := by decide +kernel
theorem dX5_toldByPainted_14 : decode cX5_toldByPainted 14 = .ok (.invokevirtual 246, 3) := by decide +kernel
theorem dX5_toldByPainted_17 : decode cX5_toldByPainted 17 = .ok (.iadd, 1) := by decide +kernel
theorem dX5_toldByPainted_18 : decode cX5_toldByPainted 18 = .ok (.ireturn, 1) := by decide +kernel
theorem dX5_crowedByLent_0 : decode cX5_crowedByLent 0 = .ok (.aload_n 0, 1) := by decide +kernel
theorem dX5_crowedByLent_1 : decode cX5_crowedByLent 1 = .ok (.iconst 4, 1) := by decide +kernel
theorem dX5_crowedByLent_2 : decode cX5_crowedByLent 2 = .ok (.invokevirtual 271, 3) := by decide +kernel
theorem dX5_crowedByLent_5 : decode cX5_crowedByLent 5 = .ok (.iload_n 1, 1) := by decide +kernel
theorem dX5_crowedByLent_6 : decode cX5_crowedByLent 6 = .ok (.ireturn, 1) := by decide +kernel
theorem dX5_crowedByPainted_0 : decode cX5_crowedByPainted 0 = .ok (.aload_n 0, 1) := by decide +kernel
theorem dX5_crowedByPainted_1 : decode cX5_crowedByPainted 1 = .ok (.iconst 5, 1) := by decide +kernel
theorem dX5_crowedByPainted_2 : decode cX5_crowedByPainted 2 = .ok (.invokevirtual 271, 3) := by decide +kernel
theorem dX5_crowedByPainted_5 : decode cX5_crowedByPainted 5 = .ok (.bipush 70, 2) := by decide +kernel
theorem dX5_crowedByPainted_7 : decode cX5_crowedByPainted 7 = .ok (.ireturn, 1) := by decide +kernel
