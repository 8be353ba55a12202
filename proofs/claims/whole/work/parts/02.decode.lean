theorem dX0_init_0 : decode cX0_init 0 = .ok (.aload_n 0, 1) := by decide +kernel
theorem dX0_init_1 : decode cX0_init 1 = .ok (.invokespecial 3, 3) := by decide +kernel
theorem dX0_init_4 : decode cX0_init 4 = .ok (.aload_n 0, 1) := by decide +kernel
theorem dX0_init_5 : decode cX0_init 5 = .ok (.iconst (-1), 1) := by decide +kernel
theorem dX0_init_6 : decode cX0_init 6 = .ok (.putfield 9, 3) := by decide +kernel
theorem dX0_init_9 : decode cX0_init 9 = .ok (.return_, 1) := by decide +kernel
theorem dX0_read_0 : decode cX0_read 0 = .ok (.aload_n 2, 1) := by decide +kernel
theorem dX0_read_1 : decode cX0_read 1 = .ok (.invokevirtual 15, 3) := by decide +kernel
theorem dX0_read_4 : decode cX0_read 4 = .ok (.aload_n 0, 1) := by decide +kernel
theorem dX0_read_5 : decode cX0_read 5 = .ok (.iconst 0, 1) := by decide +kernel
theorem dX0_read_6 : decode cX0_read 6 = .ok (.putfield 20, 3) := by decide +kernel
theorem dX0_read_9 : decode cX0_read 9 = .ok (.aload_n 0, 1) := by decide +kernel
theorem dX0_read_10 : decode cX0_read 10 = .ok (.iconst (-1), 1) := by decide +kernel
theorem dX0_read_11 : decode cX0_read 11 = .ok (.putfield 9, 3) := by decide +kernel
theorem dX0_read_14 : decode cX0_read 14 = .ok (.iconst 0, 1) := by decide +kernel
theorem dX0_read_15 : decode cX0_read 15 = .ok (.istore_n 3, 1) := by decide +kernel
theorem dX0_read_16 : decode cX0_read 16 = .ok (.aload_n 1, 1) := by decide +kernel
theorem dX0_read_17 : decode cX0_read 17 = .ok (.iconst 0, 1) := by decide +kernel
theorem dX0_read_18 : decode cX0_read 18 = .ok (.invokestatic 23, 3) := by decide +kernel
theorem dX0_read_21 : decode cX0_read 21 = .ok (.istore 4, 2) := by decide +kernel
theorem dX0_read_23 : decode cX0_read 23 = .ok (.iconst 0, 1) := by decide +kernel
theorem dX0_read_24 : decode cX0_read 24 = .ok (.istore 5, 2) := by decide +kernel
theorem dX0_read_26 : decode cX0_read 26 = .ok (.iload 5, 2) := by decide +kernel
theorem dX0_read_28 : decode cX0_read 28 = .ok (.sipush 600, 3) := by decide +kernel
theorem dX0_read_31 : decode cX0_read 31 = .ok (.if_icmp .ge 71, 3) := by decide +kernel
theorem dX0_read_34 : decode cX0_read 34 = .ok (.iload 4, 2) := by decide +kernel
theorem dX0_read_36 : decode cX0_read 36 = .ok (.aload_n 1, 1) := by decide +kernel
theorem dX0_read_37 : decode cX0_read 37 = .ok (.getfield 27, 3) := by decide +kernel
theorem dX0_read_40 : decode cX0_read 40 = .ok (.if_icmp .ge 62, 3) := by decide +kernel
theorem dX0_read_43 : decode cX0_read 43 = .ok (.aload_n 1, 1) := by decide +kernel
theorem dX0_read_44 : decode cX0_read 44 = .ok (.iload 4, 2) := by decide +kernel
theorem dX0_read_46 : decode cX0_read 46 = .ok (.invokestatic 32, 3) := by decide +kernel
theorem dX0_read_49 : decode cX0_read 49 = .ok (.istore 6, 2) := by decide +kernel
theorem dX0_read_51 : decode cX0_read 51 = .ok (.aload_n 0, 1) := by decide +kernel
theorem dX0_read_52 : decode cX0_read 52 = .ok (.aload_n 0, 1) := by decide +kernel
theorem dX0_read_53 : decode cX0_read 53 = .ok (.aload_n 1, 1) := by decide +kernel
theorem dX0_read_54 : decode cX0_read 54 = .ok (.iload 4, 2) := by decide +kernel
theorem dX0_read_56 : decode cX0_read 56 = .ok (.iload 6, 2) := by decide +kernel
theorem dX0_read_58 : decode cX0_read 58 = .ok (.iload_n 3, 1) := by decide +kernel
theorem dX0_read_59 : decode cX0_read 59 = .ok (.aload_n 2, 1) := by decide +kernel
theorem dX0_read_60 : decode cX0_read 60 = .ok (.invokevirtual 35, 3) := by decide +kernel
theorem dX0_read_63 : decode cX0_read 63 = .ok (.putfield 20, 3) := by decide +kernel
theorem dX0_read_66 : decode cX0_read 66 = .ok (.aload_n 0, 1) := by decide +kernel
theorem dX0_read_67 : decode cX0_read 67 = .ok (.getfield 20, 3) := by decide +kernel
theorem dX0_read_70 : decode cX0_read 70 = .ok (.ifCond .eq 11, 3) := by decide +kernel
theorem dX0_read_73 : decode cX0_read 73 = .ok (.aload_n 0, 1) := by decide +kernel
theorem dX0_read_74 : decode cX0_read 74 = .ok (.iload 4, 2) := by decide +kernel
theorem dX0_read_76 : decode cX0_read 76 = .ok (.putfield 9, 3) := by decide +kernel
theorem dX0_read_79 : decode cX0_read 79 = .ok (.iconst 0, 1) := by decide +kernel
theorem dX0_read_80 : decode cX0_read 80 = .ok (.ireturn, 1) := by decide +kernel
theorem dX0_read_81 : decode cX0_read 81 = .ok (.iload_n 3, 1) := by decide +kernel
theorem dX0_read_82 : decode cX0_read 82 = .ok (.iconst 1, 1) := by decide +kernel
theorem dX0_read_83 : decode cX0_read 83 = .ok (.iadd, 1) := by decide +kernel
theorem dX0_read_84 : decode cX0_read 84 = .ok (.bipush 9, 2) := by decide +kernel
theorem dX0_read_86 : decode cX0_read 86 = .ok (.irem, 1) := by decide +kernel
theorem dX0_read_87 : decode cX0_read 87 = .ok (.istore_n 3, 1) := by decide +kernel
theorem dX0_read_88 : decode cX0_read 88 = .ok (.aload_n 1, 1) := by decide +kernel
theorem dX0_read_89 : decode cX0_read 89 = .ok (.iload 6, 2) := by decide +kernel
theorem dX0_read_91 : decode cX0_read 91 = .ok (.invokestatic 23, 3) := by decide +kernel
theorem dX0_read_94 : decode cX0_read 94 = .ok (.istore 4, 2) := by decide +kernel
theorem dX0_read_96 : decode cX0_read 96 = .ok (.iinc 5 1, 3) := by decide +kernel
theorem dX0_read_99 : decode cX0_read 99 = .ok (.goto (-73), 3) := by decide +kernel
theorem dX0_read_102 : decode cX0_read 102 = .ok (.iload_n 3, 1) := by decide +kernel
theorem dX0_read_103 : decode cX0_read 103 = .ok (.ifCond .eq 16, 3) := by decide +kernel
theorem dX0_read_106 : decode cX0_read 106 = .ok (.aload_n 0, 1) := by decide +kernel
theorem dX0_read_107 : decode cX0_read 107 = .ok (.iconst 1, 1) := by decide +kernel
theorem dX0_read_108 : decode cX0_read 108 = .ok (.putfield 20, 3) := by decide +kernel
theorem dX0_read_111 : decode cX0_read 111 = .ok (.aload_n 0, 1) := by decide +kernel
theorem dX0_read_112 : decode cX0_read 112 = .ok (.aload_n 1, 1) := by decide +kernel
theorem dX0_read_113 : decode cX0_read 113 = .ok (.getfield 27, 3) := by decide +kernel
theorem dX0_read_116 : decode cX0_read 116 = .ok (.putfield 9, 3) := by decide +kernel
theorem dX0_read_119 : decode cX0_read 119 = .ok (.iload_n 3, 1) := by decide +kernel
theorem dX0_read_120 : decode cX0_read 120 = .ok (.ifCond .ne 7, 3) := by decide +kernel
theorem dX0_read_123 : decode cX0_read 123 = .ok (.iconst 1, 1) := by decide +kernel
theorem dX0_read_124 : decode cX0_read 124 = .ok (.goto 4, 3) := by decide +kernel
theorem dX0_read_127 : decode cX0_read 127 = .ok (.iconst 0, 1) := by decide +kernel
theorem dX0_read_128 : decode cX0_read 128 = .ok (.ireturn, 1) := by decide +kernel
theorem dX0_faultOf_0 : decode cX0_faultOf 0 = .ok (.iload 4, 2) := by decide +kernel
theorem dX0_faultOf_2 : decode cX0_faultOf 2 = .ok (.bipush 8, 2) := by decide +kernel
theorem dX0_faultOf_4 : decode cX0_faultOf 4 = .ok (.if_icmp .ne 38, 3) := by decide +kernel
theorem dX0_faultOf_7 : decode cX0_faultOf 7 = .ok (.aload_n 1, 1) := by decide +kernel
theorem dX0_faultOf_8 : decode cX0_faultOf 8 = .ok (.iload_n 2, 1) := by decide +kernel
theorem dX0_faultOf_9 : decode cX0_faultOf 9 = .ok (.invokevirtual 39, 3) := by decide +kernel
theorem dX0_faultOf_12 : decode cX0_faultOf 12 = .ok (.bipush 59, 2) := by decide +kernel
theorem dX0_faultOf_14 : decode cX0_faultOf 14 = .ok (.if_icmp .eq 5, 3) := by decide +kernel
theorem dX0_faultOf_17 : decode cX0_faultOf 17 = .ok (.iconst 1, 1) := by decide +kernel
theorem dX0_faultOf_18 : decode cX0_faultOf 18 = .ok (.ireturn, 1) := by decide +kernel
theorem dX0_faultOf_19 : decode cX0_faultOf 19 = .ok (.aload 5, 2) := by decide +kernel
theorem dX0_faultOf_21 : decode cX0_faultOf 21 = .ok (.aload_n 0, 1) := by decide +kernel
theorem dX0_faultOf_22 : decode cX0_faultOf 22 = .ok (.getfield 43, 3) := by decide +kernel
theorem dX0_faultOf_25 : decode cX0_faultOf 25 = .ok (.aload_n 0, 1) := by decide +kernel
theorem dX0_faultOf_26 : decode cX0_faultOf 26 = .ok (.getfield 46, 3) := by decide +kernel
theorem dX0_faultOf_29 : decode cX0_faultOf 29 = .ok (.aload_n 0, 1) := by decide +kernel
theorem dX0_faultOf_30 : decode cX0_faultOf 30 = .ok (.getfield 49, 3) := by decide +kernel
theorem dX0_faultOf_33 : decode cX0_faultOf 33 = .ok (.aload_n 0, 1) := by decide +kernel
theorem dX0_faultOf_34 : decode cX0_faultOf 34 = .ok (.getfield 52, 3) := by decide +kernel
theorem dX0_faultOf_37 : decode cX0_faultOf 37 = .ok (.invokevirtual 55, 3) := by decide +kernel
theorem dX0_faultOf_40 : decode cX0_faultOf 40 = .ok (.iconst 0, 1) := by decide +kernel
theorem dX0_faultOf_41 : decode cX0_faultOf 41 = .ok (.ireturn, 1) := by decide +kernel
theorem dX0_faultOf_42 : decode cX0_faultOf 42 = .ok (.iload 4, 2) := by decide +kernel
theorem dX0_faultOf_44 : decode cX0_faultOf 44 = .ok (.iconst 2, 1) := by decide +kernel
theorem dX0_faultOf_45 : decode cX0_faultOf 45 = .ok (.irem, 1) := by decide +kernel
theorem dX0_faultOf_46 : decode cX0_faultOf 46 = .ok (.ifCond .ne 23, 3) := by decide +kernel
theorem dX0_faultOf_49 : decode cX0_faultOf 49 = .ok (.aload_n 1, 1) := by decide +kernel
theorem dX0_faultOf_50 : decode cX0_faultOf 50 = .ok (.iload_n 2, 1) := by decide +kernel
theorem dX0_faultOf_51 : decode cX0_faultOf 51 = .ok (.iload_n 3, 1) := by decide +kernel
theorem dX0_faultOf_52 : decode cX0_faultOf 52 = .ok (.iload 4, 2) := by decide +kernel
theorem dX0_faultOf_54 : decode cX0_faultOf 54 = .ok (.invokestatic 59, 3) := by decide +kernel
theorem dX0_faultOf_57 : decode cX0_faultOf 57 = .ok (.invokestatic 63, 3) := by decide +kernel
theorem dX0_faultOf_60 : decode cX0_faultOf 60 = .ok (.ifCond .eq 7, 3) := by decide +kernel
theorem dX0_faultOf_63 : decode cX0_faultOf 63 = .ok (.iconst 0, 1) := by decide +kernel
theorem dX0_faultOf_64 : decode cX0_faultOf 64 = .ok (.goto 4, 3) := by decide +kernel
theorem dX0_faultOf_67 : decode cX0_faultOf 67 = .ok (.iconst 1, 1) := by decide +kernel
theorem dX0_faultOf_68 : decode cX0_faultOf 68 = .ok (.ireturn, 1) := by decide +kernel
theorem dX0_faultOf_69 : decode cX0_faultOf 69 = .ok (.aload_n 1, 1) := by decide +kernel
theorem dX0_faultOf_70 : decode cX0_faultOf 70 = .ok (.iload_n 2, 1) := by decide +kernel
theorem dX0_faultOf_71 : decode cX0_faultOf 71 = .ok (.iload_n 3, 1) := by decide +kernel
theorem dX0_faultOf_72 : decode cX0_faultOf 72 = .ok (.invokestatic 67, 3) := by decide +kernel
theorem dX0_faultOf_75 : decode cX0_faultOf 75 = .ok (.istore 6, 2) := by decide +kernel
theorem dX0_faultOf_77 : decode cX0_faultOf 77 = .ok (.iload 6, 2) := by decide +kernel
theorem dX0_faultOf_79 : decode cX0_faultOf 79 = .ok (.iconst (-1), 1) := by decide +kernel
theorem dX0_faultOf_80 : decode cX0_faultOf 80 = .ok (.if_icmp .ne 7, 3) := by decide +kernel
theorem dX0_faultOf_83 : decode cX0_faultOf 83 = .ok (.iconst 1, 1) := by decide +kernel
theorem dX0_faultOf_84 : decode cX0_faultOf 84 = .ok (.goto 13, 3) := by decide +kernel
theorem dX0_faultOf_87 : decode cX0_faultOf 87 = .ok (.aload_n 0, 1) := by decide +kernel
theorem dX0_faultOf_88 : decode cX0_faultOf 88 = .ok (.iload 6, 2) := by decide +kernel
theorem dX0_faultOf_90 : decode cX0_faultOf 90 = .ok (.iload 4, 2) := by decide +kernel
theorem dX0_faultOf_92 : decode cX0_faultOf 92 = .ok (.aload 5, 2) := by decide +kernel
theorem dX0_faultOf_94 : decode cX0_faultOf 94 = .ok (.invokevirtual 71, 3) := by decide +kernel
theorem dX0_faultOf_97 : decode cX0_faultOf 97 = .ok (.ireturn, 1) := by decide +kernel
theorem dX0_faultOfNumber_0 : decode cX0_faultOfNumber 0 = .ok (.iload_n 2, 1) := by decide +kernel
theorem dX0_faultOfNumber_1 : decode cX0_faultOfNumber 1 = .ok (.tableswitch 149 1 7 #[43, 149, 71, 149, 100, 149, 127], 43) := by decide +kernel
theorem dX0_faultOfNumber_44 : decode cX0_faultOfNumber 44 = .ok (.aload_n 0, 1) := by decide +kernel
theorem dX0_faultOfNumber_45 : decode cX0_faultOfNumber 45 = .ok (.iload_n 1, 1) := by decide +kernel
theorem dX0_faultOfNumber_46 : decode cX0_faultOfNumber 46 = .ok (.putfield 43, 3) := by decide +kernel
theorem dX0_faultOfNumber_49 : decode cX0_faultOfNumber 49 = .ok (.iload_n 1, 1) := by decide +kernel
theorem dX0_faultOfNumber_50 : decode cX0_faultOfNumber 50 = .ok (.invokestatic 75, 3) := by decide +kernel
theorem dX0_faultOfNumber_53 : decode cX0_faultOfNumber 53 = .ok (.ifCond .ne 5, 3) := by decide +kernel
theorem dX0_faultOfNumber_56 : decode cX0_faultOfNumber 56 = .ok (.iconst 2, 1) := by decide +kernel
theorem dX0_faultOfNumber_57 : decode cX0_faultOfNumber 57 = .ok (.ireturn, 1) := by decide +kernel
theorem dX0_faultOfNumber_58 : decode cX0_faultOfNumber 58 = .ok (.aload_n 3, 1) := by decide +kernel
theorem dX0_faultOfNumber_59 : decode cX0_faultOfNumber 59 = .ok (.iload_n 1, 1) := by decide +kernel
theorem dX0_faultOfNumber_60 : decode cX0_faultOfNumber 60 = .ok (.invokevirtual 79, 3) := by decide +kernel
theorem dX0_faultOfNumber_63 : decode cX0_faultOfNumber 63 = .ok (.ifCond .eq 7, 3) := by decide +kernel
theorem dX0_faultOfNumber_66 : decode cX0_faultOfNumber 66 = .ok (.iconst 3, 1) := by decide +kernel
theorem dX0_faultOfNumber_67 : decode cX0_faultOfNumber 67 = .ok (.goto 4, 3) := by decide +kernel
theorem dX0_faultOfNumber_70 : decode cX0_faultOfNumber 70 = .ok (.iconst 0, 1) := by decide +kernel
theorem dX0_faultOfNumber_71 : decode cX0_faultOfNumber 71 = .ok (.ireturn, 1) := by decide +kernel
theorem dX0_faultOfNumber_72 : decode cX0_faultOfNumber 72 = .ok (.aload_n 0, 1) := by decide +kernel
theorem dX0_faultOfNumber_73 : decode cX0_faultOfNumber 73 = .ok (.iload_n 1, 1) := by decide +kernel
theorem dX0_faultOfNumber_74 : decode cX0_faultOfNumber 74 = .ok (.putfield 46, 3) := by decide +kernel
theorem dX0_faultOfNumber_77 : decode cX0_faultOfNumber 77 = .ok (.iload_n 1, 1) := by decide +kernel
theorem dX0_faultOfNumber_78 : decode cX0_faultOfNumber 78 = .ok (.aload_n 3, 1) := by decide +kernel
theorem dX0_faultOfNumber_79 : decode cX0_faultOfNumber 79 = .ok (.aload_n 0, 1) := by decide +kernel
theorem dX0_faultOfNumber_80 : decode cX0_faultOfNumber 80 = .ok (.getfield 43, 3) := by decide +kernel
theorem dX0_faultOfNumber_83 : decode cX0_faultOfNumber 83 = .ok (.invokevirtual 82, 3) := by decide +kernel
theorem dX0_faultOfNumber_86 : decode cX0_faultOfNumber 86 = .ok (.sipush 899, 3) := by decide +kernel
theorem dX0_faultOfNumber_89 : decode cX0_faultOfNumber 89 = .ok (.invokestatic 85, 3) := by decide +kernel
theorem dX0_faultOfNumber_92 : decode cX0_faultOfNumber 92 = .ok (.ifCond .eq 7, 3) := by decide +kernel
theorem dX0_faultOfNumber_95 : decode cX0_faultOfNumber 95 = .ok (.iconst 0, 1) := by decide +kernel
theorem dX0_faultOfNumber_96 : decode cX0_faultOfNumber 96 = .ok (.goto 4, 3) := by decide +kernel
theorem dX0_faultOfNumber_99 : decode cX0_faultOfNumber 99 = .ok (.iconst 2, 1) := by decide +kernel
theorem dX0_faultOfNumber_100 : decode cX0_faultOfNumber 100 = .ok (.ireturn, 1) := by decide +kernel
theorem dX0_faultOfNumber_101 : decode cX0_faultOfNumber 101 = .ok (.aload_n 0, 1) := by decide +kernel
theorem dX0_faultOfNumber_102 : decode cX0_faultOfNumber 102 = .ok (.iload_n 1, 1) := by decide +kernel
theorem dX0_faultOfNumber_103 : decode cX0_faultOfNumber 103 = .ok (.putfield 49, 3) := by decide +kernel
theorem dX0_faultOfNumber_106 : decode cX0_faultOfNumber 106 = .ok (.iload_n 1, 1) := by decide +kernel
theorem dX0_faultOfNumber_107 : decode cX0_faultOfNumber 107 = .ok (.aload_n 0, 1) := by decide +kernel
theorem dX0_faultOfNumber_108 : decode cX0_faultOfNumber 108 = .ok (.getfield 46, 3) := by decide +kernel
theorem dX0_faultOfNumber_111 : decode cX0_faultOfNumber 111 = .ok (.iconst 1, 1) := by decide +kernel
theorem dX0_faultOfNumber_112 : decode cX0_faultOfNumber 112 = .ok (.iadd, 1) := by decide +kernel
theorem dX0_faultOfNumber_113 : decode cX0_faultOfNumber 113 = .ok (.sipush 900, 3) := by decide +kernel
theorem dX0_faultOfNumber_116 : decode cX0_faultOfNumber 116 = .ok (.invokestatic 85, 3) := by decide +kernel
theorem dX0_faultOfNumber_119 : decode cX0_faultOfNumber 119 = .ok (.ifCond .eq 7, 3) := by decide +kernel
theorem dX0_faultOfNumber_122 : decode cX0_faultOfNumber 122 = .ok (.iconst 0, 1) := by decide +kernel
theorem dX0_faultOfNumber_123 : decode cX0_faultOfNumber 123 = .ok (.goto 4, 3) := by decide +kernel
theorem dX0_faultOfNumber_126 : decode cX0_faultOfNumber 126 = .ok (.iconst 2, 1) := by decide +kernel
theorem dX0_faultOfNumber_127 : decode cX0_faultOfNumber 127 = .ok (.ireturn, 1) := by decide +kernel
theorem dX0_faultOfNumber_128 : decode cX0_faultOfNumber 128 = .ok (.aload_n 0, 1) := by decide +kernel
theorem dX0_faultOfNumber_129 : decode cX0_faultOfNumber 129 = .ok (.iload_n 1, 1) := by decide +kernel
theorem dX0_faultOfNumber_130 : decode cX0_faultOfNumber 130 = .ok (.putfield 52, 3) := by decide +kernel
theorem dX0_faultOfNumber_133 : decode cX0_faultOfNumber 133 = .ok (.iload_n 1, 1) := by decide +kernel
theorem dX0_faultOfNumber_134 : decode cX0_faultOfNumber 134 = .ok (.bipush 10, 2) := by decide +kernel
theorem dX0_faultOfNumber_136 : decode cX0_faultOfNumber 136 = .ok (.bipush 99, 2) := by decide +kernel
theorem dX0_faultOfNumber_138 : decode cX0_faultOfNumber 138 = .ok (.invokestatic 85, 3) := by decide +kernel
theorem dX0_faultOfNumber_141 : decode cX0_faultOfNumber 141 = .ok (.ifCond .eq 7, 3) := by decide +kernel
theorem dX0_faultOfNumber_144 : decode cX0_faultOfNumber 144 = .ok (.iconst 0, 1) := by decide +kernel
theorem dX0_faultOfNumber_145 : decode cX0_faultOfNumber 145 = .ok (.goto 4, 3) := by decide +kernel
theorem dX0_faultOfNumber_148 : decode cX0_faultOfNumber 148 = .ok (.iconst 2, 1) := by decide +kernel
theorem dX0_faultOfNumber_149 : decode cX0_faultOfNumber 149 = .ok (.ireturn, 1) := by decide +kernel
theorem dX0_faultOfNumber_150 : decode cX0_faultOfNumber 150 = .ok (.iconst 1, 1) := by decide +kernel
theorem dX0_faultOfNumber_151 : decode cX0_faultOfNumber 151 = .ok (.ireturn, 1) := by decide +kernel
theorem dX0_keywordOf_0 : decode cX0_keywordOf 0 = .ok (.iload_n 0, 1) := by decide +kernel
theorem dX0_keywordOf_1 : decode cX0_keywordOf 1 = .ok (.tableswitch 44 0 4 #[35, 44, 38, 44, 41], 35) := by decide +kernel
theorem dX0_keywordOf_36 : decode cX0_keywordOf 36 = .ok (.ldc 89, 2) := by decide +kernel
theorem dX0_keywordOf_38 : decode cX0_keywordOf 38 = .ok (.areturn, 1) := by decide +kernel
theorem dX0_keywordOf_39 : decode cX0_keywordOf 39 = .ok (.ldc 91, 2) := by decide +kernel
theorem dX0_keywordOf_41 : decode cX0_keywordOf 41 = .ok (.areturn, 1) := by decide +kernel
theorem dX0_keywordOf_42 : decode cX0_keywordOf 42 = .ok (.ldc 92, 2) := by decide +kernel
theorem dX0_keywordOf_44 : decode cX0_keywordOf 44 = .ok (.areturn, 1) := by decide +kernel
theorem dX0_keywordOf_45 : decode cX0_keywordOf 45 = .ok (.ldc 93, 2) := by decide +kernel
theorem dX0_keywordOf_47 : decode cX0_keywordOf 47 = .ok (.areturn, 1) := by decide +kernel
theorem dX0_behindBlanks_0 : decode cX0_behindBlanks 0 = .ok (.iload_n 1, 1) := by decide +kernel
theorem dX0_behindBlanks_1 : decode cX0_behindBlanks 1 = .ok (.istore_n 2, 1) := by decide +kernel
theorem dX0_behindBlanks_2 : decode cX0_behindBlanks 2 = .ok (.iload_n 2, 1) := by decide +kernel
theorem dX0_behindBlanks_3 : decode cX0_behindBlanks 3 = .ok (.aload_n 0, 1) := by decide +kernel
theorem dX0_behindBlanks_4 : decode cX0_behindBlanks 4 = .ok (.getfield 27, 3) := by decide +kernel
theorem dX0_behindBlanks_7 : decode cX0_behindBlanks 7 = .ok (.if_icmp .ge 20, 3) := by decide +kernel
theorem dX0_behindBlanks_10 : decode cX0_behindBlanks 10 = .ok (.aload_n 0, 1) := by decide +kernel
theorem dX0_behindBlanks_11 : decode cX0_behindBlanks 11 = .ok (.iload_n 2, 1) := by decide +kernel
theorem dX0_behindBlanks_12 : decode cX0_behindBlanks 12 = .ok (.invokevirtual 39, 3) := by decide +kernel
theorem dX0_behindBlanks_15 : decode cX0_behindBlanks 15 = .ok (.invokestatic 95, 3) := by decide +kernel
theorem dX0_behindBlanks_18 : decode cX0_behindBlanks 18 = .ok (.ifCond .eq 9, 3) := by decide +kernel
theorem dX0_behindBlanks_21 : decode cX0_behindBlanks 21 = .ok (.iinc 2 1, 3) := by decide +kernel
theorem dX0_behindBlanks_24 : decode cX0_behindBlanks 24 = .ok (.goto (-22), 3) := by decide +kernel
theorem dX0_behindBlanks_27 : decode cX0_behindBlanks 27 = .ok (.iload_n 2, 1) := by decide +kernel
theorem dX0_behindBlanks_28 : decode cX0_behindBlanks 28 = .ok (.ireturn, 1) := by decide +kernel
theorem dX0_behindToken_0 : decode cX0_behindToken 0 = .ok (.iload_n 1, 1) := by decide +kernel
theorem dX0_behindToken_1 : decode cX0_behindToken 1 = .ok (.iconst 1, 1) := by decide +kernel
theorem dX0_behindToken_2 : decode cX0_behindToken 2 = .ok (.iadd, 1) := by decide +kernel
theorem dX0_behindToken_3 : decode cX0_behindToken 3 = .ok (.istore_n 2, 1) := by decide +kernel
theorem dX0_behindToken_4 : decode cX0_behindToken 4 = .ok (.aload_n 0, 1) := by decide +kernel
theorem dX0_behindToken_5 : decode cX0_behindToken 5 = .ok (.iload_n 1, 1) := by decide +kernel
theorem dX0_behindToken_6 : decode cX0_behindToken 6 = .ok (.invokevirtual 39, 3) := by decide +kernel
theorem dX0_behindToken_9 : decode cX0_behindToken 9 = .ok (.invokestatic 98, 3) := by decide +kernel
theorem dX0_behindToken_12 : decode cX0_behindToken 12 = .ok (.ifCond .eq 28, 3) := by decide +kernel
theorem dX0_behindToken_15 : decode cX0_behindToken 15 = .ok (.iload_n 2, 1) := by decide +kernel
theorem dX0_behindToken_16 : decode cX0_behindToken 16 = .ok (.aload_n 0, 1) := by decide +kernel
theorem dX0_behindToken_17 : decode cX0_behindToken 17 = .ok (.getfield 27, 3) := by decide +kernel
theorem dX0_behindToken_20 : decode cX0_behindToken 20 = .ok (.if_icmp .ge 56, 3) := by decide +kernel
theorem dX0_behindToken_23 : decode cX0_behindToken 23 = .ok (.aload_n 0, 1) := by decide +kernel
theorem dX0_behindToken_24 : decode cX0_behindToken 24 = .ok (.iload_n 2, 1) := by decide +kernel
theorem dX0_behindToken_25 : decode cX0_behindToken 25 = .ok (.invokevirtual 39, 3) := by decide +kernel
theorem dX0_behindToken_28 : decode cX0_behindToken 28 = .ok (.invokestatic 98, 3) := by decide +kernel
theorem dX0_behindToken_31 : decode cX0_behindToken 31 = .ok (.ifCond .eq 45, 3) := by decide +kernel
theorem dX0_behindToken_34 : decode cX0_behindToken 34 = .ok (.iinc 2 1, 3) := by decide +kernel
theorem dX0_behindToken_37 : decode cX0_behindToken 37 = .ok (.goto (-22), 3) := by decide +kernel
theorem dX0_behindToken_40 : decode cX0_behindToken 40 = .ok (.aload_n 0, 1) := by decide +kernel
theorem dX0_behindToken_41 : decode cX0_behindToken 41 = .ok (.iload_n 1, 1) := by decide +kernel
theorem dX0_behindToken_42 : decode cX0_behindToken 42 = .ok (.invokevirtual 39, 3) := by decide +kernel
theorem dX0_behindToken_45 : decode cX0_behindToken 45 = .ok (.invokestatic 101, 3) := by decide +kernel
theorem dX0_behindToken_48 : decode cX0_behindToken 48 = .ok (.ifCond .eq 28, 3) := by decide +kernel
theorem dX0_behindToken_51 : decode cX0_behindToken 51 = .ok (.iload_n 2, 1) := by decide +kernel
theorem dX0_behindToken_52 : decode cX0_behindToken 52 = .ok (.aload_n 0, 1) := by decide +kernel
theorem dX0_behindToken_53 : decode cX0_behindToken 53 = .ok (.getfield 27, 3) := by decide +kernel
theorem dX0_behindToken_56 : decode cX0_behindToken 56 = .ok (.if_icmp .ge 20, 3) := by decide +kernel
theorem dX0_behindToken_59 : decode cX0_behindToken 59 = .ok (.aload_n 0, 1) := by decide +kernel
theorem dX0_behindToken_60 : decode cX0_behindToken 60 = .ok (.iload_n 2, 1) := by decide +kernel
theorem dX0_behindToken_61 : decode cX0_behindToken 61 = .ok (.invokevirtual 39, 3) := by decide +kernel
theorem dX0_behindToken_64 : decode cX0_behindToken 64 = .ok (.invokestatic 101, 3) := by decide +kernel
theorem dX0_behindToken_67 : decode cX0_behindToken 67 = .ok (.ifCond .eq 9, 3) := by decide +kernel
theorem dX0_behindToken_70 : decode cX0_behindToken 70 = .ok (.iinc 2 1, 3) := by decide +kernel
theorem dX0_behindToken_73 : decode cX0_behindToken 73 = .ok (.goto (-22), 3) := by decide +kernel
theorem dX0_behindToken_76 : decode cX0_behindToken 76 = .ok (.iload_n 2, 1) := by decide +kernel
theorem dX0_behindToken_77 : decode cX0_behindToken 77 = .ok (.ireturn, 1) := by decide +kernel
theorem dX0_isWord_0 : decode cX0_isWord 0 = .ok (.iload_n 2, 1) := by decide +kernel
theorem dX0_isWord_1 : decode cX0_isWord 1 = .ok (.iload_n 1, 1) := by decide +kernel
theorem dX0_isWord_2 : decode cX0_isWord 2 = .ok (.isub, 1) := by decide +kernel
theorem dX0_isWord_3 : decode cX0_isWord 3 = .ok (.aload_n 3, 1) := by decide +kernel
theorem dX0_isWord_4 : decode cX0_isWord 4 = .ok (.invokevirtual 104, 3) := by decide +kernel
theorem dX0_isWord_7 : decode cX0_isWord 7 = .ok (.if_icmp .eq 5, 3) := by decide +kernel
theorem dX0_isWord_10 : decode cX0_isWord 10 = .ok (.iconst 0, 1) := by decide +kernel
theorem dX0_isWord_11 : decode cX0_isWord 11 = .ok (.ireturn, 1) := by decide +kernel
theorem dX0_isWord_12 : decode cX0_isWord 12 = .ok (.iconst 0, 1) := by decide +kernel
theorem dX0_isWord_13 : decode cX0_isWord 13 = .ok (.istore 4, 2) := by decide +kernel
theorem dX0_isWord_15 : decode cX0_isWord 15 = .ok (.iload 4, 2) := by decide +kernel
theorem dX0_isWord_17 : decode cX0_isWord 17 = .ok (.aload_n 3, 1) := by decide +kernel
theorem dX0_isWord_18 : decode cX0_isWord 18 = .ok (.invokevirtual 104, 3) := by decide +kernel
theorem dX0_isWord_21 : decode cX0_isWord 21 = .ok (.if_icmp .ge 28, 3) := by decide +kernel
theorem dX0_isWord_24 : decode cX0_isWord 24 = .ok (.aload_n 0, 1) := by decide +kernel
theorem dX0_isWord_25 : decode cX0_isWord 25 = .ok (.iload_n 1, 1) := by decide +kernel
theorem dX0_isWord_26 : decode cX0_isWord 26 = .ok (.iload 4, 2) := by decide +kernel
theorem dX0_isWord_28 : decode cX0_isWord 28 = .ok (.iadd, 1) := by decide +kernel
theorem dX0_isWord_29 : decode cX0_isWord 29 = .ok (.invokevirtual 39, 3) := by decide +kernel
theorem dX0_isWord_32 : decode cX0_isWord 32 = .ok (.aload_n 3, 1) := by decide +kernel
theorem dX0_isWord_33 : decode cX0_isWord 33 = .ok (.iload 4, 2) := by decide +kernel
theorem dX0_isWord_35 : decode cX0_isWord 35 = .ok (.invokevirtual 109, 3) := by decide +kernel
theorem dX0_isWord_38 : decode cX0_isWord 38 = .ok (.if_icmp .eq 5, 3) := by decide +kernel
theorem dX0_isWord_41 : decode cX0_isWord 41 = .ok (.iconst 0, 1) := by decide +kernel
theorem dX0_isWord_42 : decode cX0_isWord 42 = .ok (.ireturn, 1) := by decide +kernel
theorem dX0_isWord_43 : decode cX0_isWord 43 = .ok (.iinc 4 1, 3) := by decide +kernel
theorem dX0_isWord_46 : decode cX0_isWord 46 = .ok (.goto (-31), 3) := by decide +kernel
theorem dX0_isWord_49 : decode cX0_isWord 49 = .ok (.iconst 1, 1) := by decide +kernel
theorem dX0_isWord_50 : decode cX0_isWord 50 = .ok (.ireturn, 1) := by decide +kernel
theorem dX0_numberOf_0 : decode cX0_numberOf 0 = .ok (.aload_n 0, 1) := by decide +kernel
theorem dX0_numberOf_1 : decode cX0_numberOf 1 = .ok (.iload_n 1, 1) := by decide +kernel
theorem dX0_numberOf_2 : decode cX0_numberOf 2 = .ok (.invokevirtual 39, 3) := by decide +kernel
theorem dX0_numberOf_5 : decode cX0_numberOf 5 = .ok (.invokestatic 101, 3) := by decide +kernel
theorem dX0_numberOf_8 : decode cX0_numberOf 8 = .ok (.ifCond .eq 10, 3) := by decide +kernel
theorem dX0_numberOf_11 : decode cX0_numberOf 11 = .ok (.iload_n 2, 1) := by decide +kernel
theorem dX0_numberOf_12 : decode cX0_numberOf 12 = .ok (.iload_n 1, 1) := by decide +kernel
theorem dX0_numberOf_13 : decode cX0_numberOf 13 = .ok (.isub, 1) := by decide +kernel
theorem dX0_numberOf_14 : decode cX0_numberOf 14 = .ok (.iconst 3, 1) := by decide +kernel
theorem dX0_numberOf_15 : decode cX0_numberOf 15 = .ok (.if_icmp .le 5, 3) := by decide +kernel
theorem dX0_numberOf_18 : decode cX0_numberOf 18 = .ok (.iconst (-1), 1) := by decide +kernel
theorem dX0_numberOf_19 : decode cX0_numberOf 19 = .ok (.ireturn, 1) := by decide +kernel
theorem dX0_numberOf_20 : decode cX0_numberOf 20 = .ok (.iconst 0, 1) := by decide +kernel
theorem dX0_numberOf_21 : decode cX0_numberOf 21 = .ok (.istore_n 3, 1) := by decide +kernel
theorem dX0_numberOf_22 : decode cX0_numberOf 22 = .ok (.iload_n 1, 1) := by decide +kernel
theorem dX0_numberOf_23 : decode cX0_numberOf 23 = .ok (.istore 4, 2) := by decide +kernel
theorem dX0_numberOf_25 : decode cX0_numberOf 25 = .ok (.iload 4, 2) := by decide +kernel
theorem dX0_numberOf_27 : decode cX0_numberOf 27 = .ok (.iload_n 2, 1) := by decide +kernel
theorem dX0_numberOf_28 : decode cX0_numberOf 28 = .ok (.if_icmp .ge 24, 3) := by decide +kernel
theorem dX0_numberOf_31 : decode cX0_numberOf 31 = .ok (.bipush 10, 2) := by decide +kernel
theorem dX0_numberOf_33 : decode cX0_numberOf 33 = .ok (.iload_n 3, 1) := by decide +kernel
theorem dX0_numberOf_34 : decode cX0_numberOf 34 = .ok (.imul, 1) := by decide +kernel
theorem dX0_numberOf_35 : decode cX0_numberOf 35 = .ok (.aload_n 0, 1) := by decide +kernel
theorem dX0_numberOf_36 : decode cX0_numberOf 36 = .ok (.iload 4, 2) := by decide +kernel
theorem dX0_numberOf_38 : decode cX0_numberOf 38 = .ok (.invokevirtual 39, 3) := by decide +kernel
theorem dX0_numberOf_41 : decode cX0_numberOf 41 = .ok (.bipush 48, 2) := by decide +kernel
theorem dX0_numberOf_43 : decode cX0_numberOf 43 = .ok (.isub, 1) := by decide +kernel
theorem dX0_numberOf_44 : decode cX0_numberOf 44 = .ok (.iadd, 1) := by decide +kernel
theorem dX0_numberOf_45 : decode cX0_numberOf 45 = .ok (.istore_n 3, 1) := by decide +kernel
theorem dX0_numberOf_46 : decode cX0_numberOf 46 = .ok (.iinc 4 1, 3) := by decide +kernel
theorem dX0_numberOf_49 : decode cX0_numberOf 49 = .ok (.goto (-24), 3) := by decide +kernel
theorem dX0_numberOf_52 : decode cX0_numberOf 52 = .ok (.iload_n 3, 1) := by decide +kernel
theorem dX0_numberOf_53 : decode cX0_numberOf 53 = .ok (.ireturn, 1) := by decide +kernel
theorem dX0_isBlank_0 : decode cX0_isBlank 0 = .ok (.iload_n 0, 1) := by decide +kernel
theorem dX0_isBlank_1 : decode cX0_isBlank 1 = .ok (.bipush 32, 2) := by decide +kernel
theorem dX0_isBlank_3 : decode cX0_isBlank 3 = .ok (.if_icmp .eq 9, 3) := by decide +kernel
theorem dX0_isBlank_6 : decode cX0_isBlank 6 = .ok (.iload_n 0, 1) := by decide +kernel
theorem dX0_isBlank_7 : decode cX0_isBlank 7 = .ok (.bipush 10, 2) := by decide +kernel
theorem dX0_isBlank_9 : decode cX0_isBlank 9 = .ok (.if_icmp .ne 7, 3) := by decide +kernel
theorem dX0_isBlank_12 : decode cX0_isBlank 12 = .ok (.iconst 1, 1) := by decide +kernel
theorem dX0_isBlank_13 : decode cX0_isBlank 13 = .ok (.goto 4, 3) := by decide +kernel
theorem dX0_isBlank_16 : decode cX0_isBlank 16 = .ok (.iconst 0, 1) := by decide +kernel
theorem dX0_isBlank_17 : decode cX0_isBlank 17 = .ok (.ireturn, 1) := by decide +kernel
theorem dX0_isDigit_0 : decode cX0_isDigit 0 = .ok (.iload_n 0, 1) := by decide +kernel
theorem dX0_isDigit_1 : decode cX0_isDigit 1 = .ok (.bipush 48, 2) := by decide +kernel
theorem dX0_isDigit_3 : decode cX0_isDigit 3 = .ok (.bipush 57, 2) := by decide +kernel
theorem dX0_isDigit_5 : decode cX0_isDigit 5 = .ok (.invokestatic 85, 3) := by decide +kernel
theorem dX0_isDigit_8 : decode cX0_isDigit 8 = .ok (.ireturn, 1) := by decide +kernel
theorem dX0_isLetter_0 : decode cX0_isLetter 0 = .ok (.iload_n 0, 1) := by decide +kernel
theorem dX0_isLetter_1 : decode cX0_isLetter 1 = .ok (.bipush 97, 2) := by decide +kernel
theorem dX0_isLetter_3 : decode cX0_isLetter 3 = .ok (.bipush 122, 2) := by decide +kernel
theorem dX0_isLetter_5 : decode cX0_isLetter 5 = .ok (.invokestatic 85, 3) := by decide +kernel
theorem dX0_isLetter_8 : decode cX0_isLetter 8 = .ok (.ifCond .ne 14, 3) := by decide +kernel
theorem dX0_isLetter_11 : decode cX0_isLetter 11 = .ok (.iload_n 0, 1) := by decide +kernel
theorem dX0_isLetter_12 : decode cX0_isLetter 12 = .ok (.bipush 65, 2) := by decide +kernel
theorem dX0_isLetter_14 : decode cX0_isLetter 14 = .ok (.bipush 90, 2) := by decide +kernel
theorem dX0_isLetter_16 : decode cX0_isLetter 16 = .ok (.invokestatic 85, 3) := by decide +kernel
theorem dX0_isLetter_19 : decode cX0_isLetter 19 = .ok (.ifCond .eq 7, 3) := by decide +kernel
theorem dX0_isLetter_22 : decode cX0_isLetter 22 = .ok (.iconst 1, 1) := by decide +kernel
theorem dX0_isLetter_23 : decode cX0_isLetter 23 = .ok (.goto 4, 3) := by decide +kernel
theorem dX0_isLetter_26 : decode cX0_isLetter 26 = .ok (.iconst 0, 1) := by decide +kernel
theorem dX0_isLetter_27 : decode cX0_isLetter 27 = .ok (.ireturn, 1) := by decide +kernel
theorem dX1_init_0 : decode cX1_init 0 = .ok (.aload_n 0, 1) := by decide +kernel
theorem dX1_init_1 : decode cX1_init 1 = .ok (.invokespecial 3, 3) := by decide +kernel
theorem dX1_init_4 : decode cX1_init 4 = .ok (.aload_n 0, 1) := by decide +kernel
theorem dX1_init_5 : decode cX1_init 5 = .ok (.bipush 7, 2) := by decide +kernel
theorem dX1_init_7 : decode cX1_init 7 = .ok (.newarray .int, 2) := by decide +kernel
theorem dX1_init_9 : decode cX1_init 9 = .ok (.dup, 1) := by decide +kernel
theorem dX1_init_10 : decode cX1_init 10 = .ok (.iconst 0, 1) := by decide +kernel
theorem dX1_init_11 : decode cX1_init 11 = .ok (.bipush 100, 2) := by decide +kernel
theorem dX1_init_13 : decode cX1_init 13 = .ok (.iastore, 1) := by decide +kernel
theorem dX1_init_14 : decode cX1_init 14 = .ok (.dup, 1) := by decide +kernel
theorem dX1_init_15 : decode cX1_init 15 = .ok (.iconst 1, 1) := by decide +kernel
theorem dX1_init_16 : decode cX1_init 16 = .ok (.bipush 100, 2) := by decide +kernel
theorem dX1_init_18 : decode cX1_init 18 = .ok (.iastore, 1) := by decide +kernel
theorem dX1_init_19 : decode cX1_init 19 = .ok (.dup, 1) := by decide +kernel
theorem dX1_init_20 : decode cX1_init 20 = .ok (.iconst 2, 1) := by decide +kernel
theorem dX1_init_21 : decode cX1_init 21 = .ok (.bipush 100, 2) := by decide +kernel
theorem dX1_init_23 : decode cX1_init 23 = .ok (.iastore, 1) := by decide +kernel
theorem dX1_init_24 : decode cX1_init 24 = .ok (.dup, 1) := by decide +kernel
theorem dX1_init_25 : decode cX1_init 25 = .ok (.iconst 3, 1) := by decide +kernel
theorem dX1_init_26 : decode cX1_init 26 = .ok (.bipush 100, 2) := by decide +kernel
theorem dX1_init_28 : decode cX1_init 28 = .ok (.iastore, 1) := by decide +kernel
theorem dX1_init_29 : decode cX1_init 29 = .ok (.dup, 1) := by decide +kernel
theorem dX1_init_30 : decode cX1_init 30 = .ok (.iconst 4, 1) := by decide +kernel
theorem dX1_init_31 : decode cX1_init 31 = .ok (.bipush 100, 2) := by decide +kernel
theorem dX1_init_33 : decode cX1_init 33 = .ok (.iastore, 1) := by decide +kernel
theorem dX1_init_34 : decode cX1_init 34 = .ok (.dup, 1) := by decide +kernel
theorem dX1_init_35 : decode cX1_init 35 = .ok (.iconst 5, 1) := by decide +kernel
theorem dX1_init_36 : decode cX1_init 36 = .ok (.bipush 100, 2) := by decide +kernel
theorem dX1_init_38 : decode cX1_init 38 = .ok (.iastore, 1) := by decide +kernel
theorem dX1_init_39 : decode cX1_init 39 = .ok (.dup, 1) := by decide +kernel
theorem dX1_init_40 : decode cX1_init 40 = .ok (.bipush 6, 2) := by decide +kernel
theorem dX1_init_42 : decode cX1_init 42 = .ok (.bipush 100, 2) := by decide +kernel
theorem dX1_init_44 : decode cX1_init 44 = .ok (.iastore, 1) := by decide +kernel
theorem dX1_init_45 : decode cX1_init 45 = .ok (.putfield 9, 3) := by decide +kernel
theorem dX1_init_48 : decode cX1_init 48 = .ok (.aload_n 0, 1) := by decide +kernel
theorem dX1_init_49 : decode cX1_init 49 = .ok (.bipush 7, 2) := by decide +kernel
theorem dX1_init_51 : decode cX1_init 51 = .ok (.newarray .int, 2) := by decide +kernel
theorem dX1_init_53 : decode cX1_init 53 = .ok (.dup, 1) := by decide +kernel
theorem dX1_init_54 : decode cX1_init 54 = .ok (.iconst 0, 1) := by decide +kernel
theorem dX1_init_55 : decode cX1_init 55 = .ok (.bipush 6, 2) := by decide +kernel
theorem dX1_init_57 : decode cX1_init 57 = .ok (.iastore, 1) := by decide +kernel
theorem dX1_init_58 : decode cX1_init 58 = .ok (.dup, 1) := by decide +kernel
theorem dX1_init_59 : decode cX1_init 59 = .ok (.iconst 1, 1) := by decide +kernel
theorem dX1_init_60 : decode cX1_init 60 = .ok (.bipush 6, 2) := by decide +kernel
theorem dX1_init_62 : decode cX1_init 62 = .ok (.iastore, 1) := by decide +kernel
theorem dX1_init_63 : decode cX1_init 63 = .ok (.dup, 1) := by decide +kernel
theorem dX1_init_64 : decode cX1_init 64 = .ok (.iconst 2, 1) := by decide +kernel
theorem dX1_init_65 : decode cX1_init 65 = .ok (.bipush 6, 2) := by decide +kernel
theorem dX1_init_67 : decode cX1_init 67 = .ok (.iastore, 1) := by decide +kernel
theorem dX1_init_68 : decode cX1_init 68 = .ok (.dup, 1) := by decide +kernel
theorem dX1_init_69 : decode cX1_init 69 = .ok (.iconst 3, 1) := by decide +kernel
theorem dX1_init_70 : decode cX1_init 70 = .ok (.bipush 6, 2) := by decide +kernel
theorem dX1_init_72 : decode cX1_init 72 = .ok (.iastore, 1) := by decide +kernel
theorem dX1_init_73 : decode cX1_init 73 = .ok (.dup, 1) := by decide +kernel
theorem dX1_init_74 : decode cX1_init 74 = .ok (.iconst 4, 1) := by decide +kernel
theorem dX1_init_75 : decode cX1_init 75 = .ok (.bipush 6, 2) := by decide +kernel
theorem dX1_init_77 : decode cX1_init 77 = .ok (.iastore, 1) := by decide +kernel
theorem dX1_init_78 : decode cX1_init 78 = .ok (.dup, 1) := by decide +kernel
theorem dX1_init_79 : decode cX1_init 79 = .ok (.iconst 5, 1) := by decide +kernel
theorem dX1_init_80 : decode cX1_init 80 = .ok (.bipush 6, 2) := by decide +kernel
theorem dX1_init_82 : decode cX1_init 82 = .ok (.iastore, 1) := by decide +kernel
theorem dX1_init_83 : decode cX1_init 83 = .ok (.dup, 1) := by decide +kernel
theorem dX1_init_84 : decode cX1_init 84 = .ok (.bipush 6, 2) := by decide +kernel
theorem dX1_init_86 : decode cX1_init 86 = .ok (.bipush 6, 2) := by decide +kernel
theorem dX1_init_88 : decode cX1_init 88 = .ok (.iastore, 1) := by decide +kernel
theorem dX1_init_89 : decode cX1_init 89 = .ok (.putfield 15, 3) := by decide +kernel
theorem dX1_init_92 : decode cX1_init 92 = .ok (.return_, 1) := by decide +kernel
theorem dX1_kilometerOf_0 : decode cX1_kilometerOf 0 = .ok (.iconst 0, 1) := by decide +kernel
theorem dX1_kilometerOf_1 : decode cX1_kilometerOf 1 = .ok (.istore_n 2, 1) := by decide +kernel
theorem dX1_kilometerOf_2 : decode cX1_kilometerOf 2 = .ok (.iconst 0, 1) := by decide +kernel
theorem dX1_kilometerOf_3 : decode cX1_kilometerOf 3 = .ok (.istore_n 3, 1) := by decide +kernel
theorem dX1_kilometerOf_4 : decode cX1_kilometerOf 4 = .ok (.iload_n 3, 1) := by decide +kernel
theorem dX1_kilometerOf_5 : decode cX1_kilometerOf 5 = .ok (.iload_n 1, 1) := by decide +kernel
theorem dX1_kilometerOf_6 : decode cX1_kilometerOf 6 = .ok (.if_icmp .ge 24, 3) := by decide +kernel
theorem dX1_kilometerOf_9 : decode cX1_kilometerOf 9 = .ok (.iload_n 3, 1) := by decide +kernel
theorem dX1_kilometerOf_10 : decode cX1_kilometerOf 10 = .ok (.bipush 7, 2) := by decide +kernel
theorem dX1_kilometerOf_12 : decode cX1_kilometerOf 12 = .ok (.if_icmp .ge 18, 3) := by decide +kernel
theorem dX1_kilometerOf_15 : decode cX1_kilometerOf 15 = .ok (.iload_n 2, 1) := by decide +kernel
theorem dX1_kilometerOf_16 : decode cX1_kilometerOf 16 = .ok (.aload_n 0, 1) := by decide +kernel
theorem dX1_kilometerOf_17 : decode cX1_kilometerOf 17 = .ok (.getfield 9, 3) := by decide +kernel
theorem dX1_kilometerOf_20 : decode cX1_kilometerOf 20 = .ok (.iload_n 3, 1) := by decide +kernel
theorem dX1_kilometerOf_21 : decode cX1_kilometerOf 21 = .ok (.iaload, 1) := by decide +kernel
theorem dX1_kilometerOf_22 : decode cX1_kilometerOf 22 = .ok (.iadd, 1) := by decide +kernel
theorem dX1_kilometerOf_23 : decode cX1_kilometerOf 23 = .ok (.istore_n 2, 1) := by decide +kernel
theorem dX1_kilometerOf_24 : decode cX1_kilometerOf 24 = .ok (.iinc 3 1, 3) := by decide +kernel
theorem dX1_kilometerOf_27 : decode cX1_kilometerOf 27 = .ok (.goto (-23), 3) := by decide +kernel
theorem dX1_kilometerOf_30 : decode cX1_kilometerOf 30 = .ok (.iload_n 2, 1) := by decide +kernel
theorem dX1_kilometerOf_31 : decode cX1_kilometerOf 31 = .ok (.ireturn, 1) := by decide +kernel
theorem dX1_begins_0 : decode cX1_begins 0 = .ok (.iload_n 1, 1) := by decide +kernel
theorem dX1_begins_1 : decode cX1_begins 1 = .ok (.invokestatic 18, 3) := by decide +kernel
theorem dX1_begins_4 : decode cX1_begins 4 = .ok (.ifCond .eq 21, 3) := by decide +kernel
theorem dX1_begins_7 : decode cX1_begins 7 = .ok (.iload_n 1, 1) := by decide +kernel
theorem dX1_begins_8 : decode cX1_begins 8 = .ok (.sipush 1440, 3) := by decide +kernel
theorem dX1_begins_11 : decode cX1_begins 11 = .ok (.imul, 1) := by decide +kernel
theorem dX1_begins_12 : decode cX1_begins 12 = .ok (.aload_n 0, 1) := by decide +kernel
theorem dX1_begins_13 : decode cX1_begins 13 = .ok (.getfield 15, 3) := by decide +kernel
theorem dX1_begins_16 : decode cX1_begins 16 = .ok (.iload_n 1, 1) := by decide +kernel
theorem dX1_begins_17 : decode cX1_begins 17 = .ok (.iaload, 1) := by decide +kernel
theorem dX1_begins_18 : decode cX1_begins 18 = .ok (.bipush 60, 2) := by decide +kernel
theorem dX1_begins_20 : decode cX1_begins 20 = .ok (.imul, 1) := by decide +kernel
theorem dX1_begins_21 : decode cX1_begins 21 = .ok (.iadd, 1) := by decide +kernel
theorem dX1_begins_22 : decode cX1_begins 22 = .ok (.goto 4, 3) := by decide +kernel
theorem dX1_begins_25 : decode cX1_begins 25 = .ok (.iconst (-1), 1) := by decide +kernel
theorem dX1_begins_26 : decode cX1_begins 26 = .ok (.ireturn, 1) := by decide +kernel
theorem dX2_init_0 : decode cX2_init 0 = .ok (.aload_n 0, 1) := by decide +kernel
theorem dX2_init_1 : decode cX2_init 1 = .ok (.invokespecial 3, 3) := by decide +kernel
theorem dX2_init_4 : decode cX2_init 4 = .ok (.aload_n 0, 1) := by decide +kernel
theorem dX2_init_5 : decode cX2_init 5 = .ok (.bipush 8, 2) := by decide +kernel
theorem dX2_init_7 : decode cX2_init 7 = .ok (.newarray .int, 2) := by decide +kernel
theorem dX2_init_9 : decode cX2_init 9 = .ok (.putfield 9, 3) := by decide +kernel
theorem dX2_init_12 : decode cX2_init 12 = .ok (.aload_n 0, 1) := by decide +kernel
theorem dX2_init_13 : decode cX2_init 13 = .ok (.bipush 8, 2) := by decide +kernel
theorem dX2_init_15 : decode cX2_init 15 = .ok (.newarray .int, 2) := by decide +kernel
theorem dX2_init_17 : decode cX2_init 17 = .ok (.putfield 15, 3) := by decide +kernel
theorem dX2_init_20 : decode cX2_init 20 = .ok (.aload_n 0, 1) := by decide +kernel
theorem dX2_init_21 : decode cX2_init 21 = .ok (.bipush 8, 2) := by decide +kernel
theorem dX2_init_23 : decode cX2_init 23 = .ok (.newarray .int, 2) := by decide +kernel
theorem dX2_init_25 : decode cX2_init 25 = .ok (.putfield 18, 3) := by decide +kernel
theorem dX2_init_28 : decode cX2_init 28 = .ok (.aload_n 0, 1) := by decide +kernel
theorem dX2_init_29 : decode cX2_init 29 = .ok (.bipush 8, 2) := by decide +kernel
theorem dX2_init_31 : decode cX2_init 31 = .ok (.newarray .int, 2) := by decide +kernel
theorem dX2_init_33 : decode cX2_init 33 = .ok (.putfield 21, 3) := by decide +kernel
theorem dX2_init_36 : decode cX2_init 36 = .ok (.aload_n 0, 1) := by decide +kernel
theorem dX2_init_37 : decode cX2_init 37 = .ok (.bipush 7, 2) := by decide +kernel
theorem dX2_init_39 : decode cX2_init 39 = .ok (.newarray .int, 2) := by decide +kernel
theorem dX2_init_41 : decode cX2_init 41 = .ok (.putfield 24, 3) := by decide +kernel
theorem dX2_init_44 : decode cX2_init 44 = .ok (.return_, 1) := by decide +kernel
theorem dX2_plan_0 : decode cX2_plan 0 = .ok (.aload_n 0, 1) := by decide +kernel
theorem dX2_plan_1 : decode cX2_plan 1 = .ok (.iconst 0, 1) := by decide +kernel
theorem dX2_plan_2 : decode cX2_plan 2 = .ok (.putfield 27, 3) := by decide +kernel
theorem dX2_plan_5 : decode cX2_plan 5 = .ok (.aload_n 0, 1) := by decide +kernel
theorem dX2_plan_6 : decode cX2_plan 6 = .ok (.aload_n 3, 1) := by decide +kernel
theorem dX2_plan_7 : decode cX2_plan 7 = .ok (.iconst 2, 1) := by decide +kernel
theorem dX2_plan_8 : decode cX2_plan 8 = .ok (.iaload, 1) := by decide +kernel
theorem dX2_plan_9 : decode cX2_plan 9 = .ok (.putfield 31, 3) := by decide +kernel
theorem dX2_plan_12 : decode cX2_plan 12 = .ok (.iconst 1, 1) := by decide +kernel
theorem dX2_plan_13 : decode cX2_plan 13 = .ok (.istore 4, 2) := by decide +kernel
theorem dX2_plan_15 : decode cX2_plan 15 = .ok (.iload 4, 2) := by decide +kernel
theorem dX2_plan_17 : decode cX2_plan 17 = .ok (.bipush 8, 2) := by decide +kernel
theorem dX2_plan_19 : decode cX2_plan 19 = .ok (.if_icmp .ge 78, 3) := by decide +kernel
theorem dX2_plan_22 : decode cX2_plan 22 = .ok (.aload_n 2, 1) := by decide +kernel
theorem dX2_plan_23 : decode cX2_plan 23 = .ok (.getfield 34, 3) := by decide +kernel
theorem dX2_plan_26 : decode cX2_plan 26 = .ok (.iload 4, 2) := by decide +kernel
theorem dX2_plan_28 : decode cX2_plan 28 = .ok (.iconst 1, 1) := by decide +kernel
theorem dX2_plan_29 : decode cX2_plan 29 = .ok (.isub, 1) := by decide +kernel
theorem dX2_plan_30 : decode cX2_plan 30 = .ok (.iaload, 1) := by decide +kernel
theorem dX2_plan_31 : decode cX2_plan 31 = .ok (.ifCond .le 66, 3) := by decide +kernel
theorem dX2_plan_34 : decode cX2_plan 34 = .ok (.aload_n 0, 1) := by decide +kernel
theorem dX2_plan_35 : decode cX2_plan 35 = .ok (.iload 4, 2) := by decide +kernel
theorem dX2_plan_37 : decode cX2_plan 37 = .ok (.putfield 27, 3) := by decide +kernel
theorem dX2_plan_40 : decode cX2_plan 40 = .ok (.aload_n 0, 1) := by decide +kernel
theorem dX2_plan_41 : decode cX2_plan 41 = .ok (.getfield 9, 3) := by decide +kernel
theorem dX2_plan_44 : decode cX2_plan 44 = .ok (.iload 4, 2) := by decide +kernel
theorem dX2_plan_46 : decode cX2_plan 46 = .ok (.aload_n 2, 1) := by decide +kernel
theorem dX2_plan_47 : decode cX2_plan 47 = .ok (.iload 4, 2) := by decide +kernel
theorem dX2_plan_49 : decode cX2_plan 49 = .ok (.iconst 1, 1) := by decide +kernel
theorem dX2_plan_50 : decode cX2_plan 50 = .ok (.isub, 1) := by decide +kernel
theorem dX2_plan_51 : decode cX2_plan 51 = .ok (.invokevirtual 39, 3) := by decide +kernel
theorem dX2_plan_54 : decode cX2_plan 54 = .ok (.aload_n 3, 1) := by decide +kernel
theorem dX2_plan_55 : decode cX2_plan 55 = .ok (.iconst 0, 1) := by decide +kernel
theorem dX2_plan_56 : decode cX2_plan 56 = .ok (.iaload, 1) := by decide +kernel
theorem dX2_plan_57 : decode cX2_plan 57 = .ok (.isub, 1) := by decide +kernel
theorem dX2_plan_58 : decode cX2_plan 58 = .ok (.iastore, 1) := by decide +kernel
theorem dX2_plan_59 : decode cX2_plan 59 = .ok (.aload_n 0, 1) := by decide +kernel
theorem dX2_plan_60 : decode cX2_plan 60 = .ok (.getfield 15, 3) := by decide +kernel
theorem dX2_plan_63 : decode cX2_plan 63 = .ok (.iload 4, 2) := by decide +kernel
theorem dX2_plan_65 : decode cX2_plan 65 = .ok (.aload_n 2, 1) := by decide +kernel
theorem dX2_plan_66 : decode cX2_plan 66 = .ok (.iload 4, 2) := by decide +kernel
theorem dX2_plan_68 : decode cX2_plan 68 = .ok (.iconst 1, 1) := by decide +kernel
theorem dX2_plan_69 : decode cX2_plan 69 = .ok (.isub, 1) := by decide +kernel
theorem dX2_plan_70 : decode cX2_plan 70 = .ok (.invokevirtual 43, 3) := by decide +kernel
theorem dX2_plan_73 : decode cX2_plan 73 = .ok (.aload_n 3, 1) := by decide +kernel
theorem dX2_plan_74 : decode cX2_plan 74 = .ok (.iconst 1, 1) := by decide +kernel
theorem dX2_plan_75 : decode cX2_plan 75 = .ok (.iaload, 1) := by decide +kernel
theorem dX2_plan_76 : decode cX2_plan 76 = .ok (.iadd, 1) := by decide +kernel
theorem dX2_plan_77 : decode cX2_plan 77 = .ok (.iastore, 1) := by decide +kernel
theorem dX2_plan_78 : decode cX2_plan 78 = .ok (.aload_n 0, 1) := by decide +kernel
theorem dX2_plan_79 : decode cX2_plan 79 = .ok (.getfield 21, 3) := by decide +kernel
theorem dX2_plan_82 : decode cX2_plan 82 = .ok (.iload 4, 2) := by decide +kernel
theorem dX2_plan_84 : decode cX2_plan 84 = .ok (.aload_n 1, 1) := by decide +kernel
theorem dX2_plan_85 : decode cX2_plan 85 = .ok (.iload 4, 2) := by decide +kernel
theorem dX2_plan_87 : decode cX2_plan 87 = .ok (.invokevirtual 46, 3) := by decide +kernel
theorem dX2_plan_90 : decode cX2_plan 90 = .ok (.iastore, 1) := by decide +kernel
theorem dX2_plan_91 : decode cX2_plan 91 = .ok (.iinc 4 1, 3) := by decide +kernel
theorem dX2_plan_94 : decode cX2_plan 94 = .ok (.goto (-79), 3) := by decide +kernel
theorem dX2_plan_97 : decode cX2_plan 97 = .ok (.aload_n 0, 1) := by decide +kernel
theorem dX2_plan_98 : decode cX2_plan 98 = .ok (.aload_n 0, 1) := by decide +kernel
theorem dX2_plan_99 : decode cX2_plan 99 = .ok (.invokevirtual 51, 3) := by decide +kernel
theorem dX2_plan_102 : decode cX2_plan 102 = .ok (.putfield 55, 3) := by decide +kernel
theorem dX2_plan_105 : decode cX2_plan 105 = .ok (.return_, 1) := by decide +kernel
theorem dX2_fewestSets_0 : decode cX2_fewestSets 0 = .ok (.iconst 0, 1) := by decide +kernel
theorem dX2_fewestSets_1 : decode cX2_fewestSets 1 = .ok (.istore_n 1, 1) := by decide +kernel
theorem dX2_fewestSets_2 : decode cX2_fewestSets 2 = .ok (.iload_n 1, 1) := by decide +kernel
theorem dX2_fewestSets_3 : decode cX2_fewestSets 3 = .ok (.aload_n 0, 1) := by decide +kernel
theorem dX2_fewestSets_4 : decode cX2_fewestSets 4 = .ok (.getfield 27, 3) := by decide +kernel
theorem dX2_fewestSets_7 : decode cX2_fewestSets 7 = .ok (.if_icmp .gt 21, 3) := by decide +kernel
theorem dX2_fewestSets_10 : decode cX2_fewestSets 10 = .ok (.aload_n 0, 1) := by decide +kernel
theorem dX2_fewestSets_11 : decode cX2_fewestSets 11 = .ok (.iconst 1, 1) := by decide +kernel
theorem dX2_fewestSets_12 : decode cX2_fewestSets 12 = .ok (.iconst 0, 1) := by decide +kernel
theorem dX2_fewestSets_13 : decode cX2_fewestSets 13 = .ok (.iload_n 1, 1) := by decide +kernel
theorem dX2_fewestSets_14 : decode cX2_fewestSets 14 = .ok (.invokevirtual 58, 3) := by decide +kernel
theorem dX2_fewestSets_17 : decode cX2_fewestSets 17 = .ok (.ifCond .eq 5, 3) := by decide +kernel
theorem dX2_fewestSets_20 : decode cX2_fewestSets 20 = .ok (.iload_n 1, 1) := by decide +kernel
theorem dX2_fewestSets_21 : decode cX2_fewestSets 21 = .ok (.ireturn, 1) := by decide +kernel
theorem dX2_fewestSets_22 : decode cX2_fewestSets 22 = .ok (.iinc 1 1, 3) := by decide +kernel
theorem dX2_fewestSets_25 : decode cX2_fewestSets 25 = .ok (.goto (-23), 3) := by decide +kernel
theorem dX2_fewestSets_28 : decode cX2_fewestSets 28 = .ok (.aload_n 0, 1) := by decide +kernel
theorem dX2_fewestSets_29 : decode cX2_fewestSets 29 = .ok (.getfield 27, 3) := by decide +kernel
theorem dX2_fewestSets_32 : decode cX2_fewestSets 32 = .ok (.ireturn, 1) := by decide +kernel
theorem dX2_firstCampOf_0 : decode cX2_firstCampOf 0 = .ok (.iconst 1, 1) := by decide +kernel
theorem dX2_firstCampOf_1 : decode cX2_firstCampOf 1 = .ok (.istore_n 2, 1) := by decide +kernel
theorem dX2_firstCampOf_2 : decode cX2_firstCampOf 2 = .ok (.iload_n 2, 1) := by decide +kernel
theorem dX2_firstCampOf_3 : decode cX2_firstCampOf 3 = .ok (.aload_n 0, 1) := by decide +kernel
theorem dX2_firstCampOf_4 : decode cX2_firstCampOf 4 = .ok (.getfield 27, 3) := by decide +kernel
theorem dX2_firstCampOf_7 : decode cX2_firstCampOf 7 = .ok (.if_icmp .gt 21, 3) := by decide +kernel
theorem dX2_firstCampOf_10 : decode cX2_firstCampOf 10 = .ok (.aload_n 0, 1) := by decide +kernel
theorem dX2_firstCampOf_11 : decode cX2_firstCampOf 11 = .ok (.getfield 18, 3) := by decide +kernel
theorem dX2_firstCampOf_14 : decode cX2_firstCampOf 14 = .ok (.iload_n 2, 1) := by decide +kernel
theorem dX2_firstCampOf_15 : decode cX2_firstCampOf 15 = .ok (.iaload, 1) := by decide +kernel
theorem dX2_firstCampOf_16 : decode cX2_firstCampOf 16 = .ok (.iload_n 1, 1) := by decide +kernel
theorem dX2_firstCampOf_17 : decode cX2_firstCampOf 17 = .ok (.if_icmp .ne 5, 3) := by decide +kernel
theorem dX2_firstCampOf_20 : decode cX2_firstCampOf 20 = .ok (.iload_n 2, 1) := by decide +kernel
theorem dX2_firstCampOf_21 : decode cX2_firstCampOf 21 = .ok (.ireturn, 1) := by decide +kernel
theorem dX2_firstCampOf_22 : decode cX2_firstCampOf 22 = .ok (.iinc 2 1, 3) := by decide +kernel
theorem dX2_firstCampOf_25 : decode cX2_firstCampOf 25 = .ok (.goto (-23), 3) := by decide +kernel
theorem dX2_firstCampOf_28 : decode cX2_firstCampOf 28 = .ok (.iconst 0, 1) := by decide +kernel
theorem dX2_firstCampOf_29 : decode cX2_firstCampOf 29 = .ok (.ireturn, 1) := by decide +kernel
theorem dX2_lastCampOf_0 : decode cX2_lastCampOf 0 = .ok (.aload_n 0, 1) := by decide +kernel
theorem dX2_lastCampOf_1 : decode cX2_lastCampOf 1 = .ok (.getfield 27, 3) := by decide +kernel
theorem dX2_lastCampOf_4 : decode cX2_lastCampOf 4 = .ok (.istore_n 2, 1) := by decide +kernel
theorem dX2_lastCampOf_5 : decode cX2_lastCampOf 5 = .ok (.iload_n 2, 1) := by decide +kernel
theorem dX2_lastCampOf_6 : decode cX2_lastCampOf 6 = .ok (.ifCond .le 21, 3) := by decide +kernel
theorem dX2_lastCampOf_9 : decode cX2_lastCampOf 9 = .ok (.aload_n 0, 1) := by decide +kernel
theorem dX2_lastCampOf_10 : decode cX2_lastCampOf 10 = .ok (.getfield 18, 3) := by decide +kernel
theorem dX2_lastCampOf_13 : decode cX2_lastCampOf 13 = .ok (.iload_n 2, 1) := by decide +kernel
theorem dX2_lastCampOf_14 : decode cX2_lastCampOf 14 = .ok (.iaload, 1) := by decide +kernel
theorem dX2_lastCampOf_15 : decode cX2_lastCampOf 15 = .ok (.iload_n 1, 1) := by decide +kernel
theorem dX2_lastCampOf_16 : decode cX2_lastCampOf 16 = .ok (.if_icmp .ne 5, 3) := by decide +kernel
theorem dX2_lastCampOf_19 : decode cX2_lastCampOf 19 = .ok (.iload_n 2, 1) := by decide +kernel
theorem dX2_lastCampOf_20 : decode cX2_lastCampOf 20 = .ok (.ireturn, 1) := by decide +kernel
theorem dX2_lastCampOf_21 : decode cX2_lastCampOf 21 = .ok (.iinc 2 (-1), 3) := by decide +kernel
theorem dX2_lastCampOf_24 : decode cX2_lastCampOf 24 = .ok (.goto (-19), 3) := by decide +kernel
theorem dX2_lastCampOf_27 : decode cX2_lastCampOf 27 = .ok (.iconst 0, 1) := by decide +kernel
theorem dX2_lastCampOf_28 : decode cX2_lastCampOf 28 = .ok (.ireturn, 1) := by decide +kernel
theorem dX2_share_0 : decode cX2_share 0 = .ok (.iload_n 1, 1) := by decide +kernel
theorem dX2_share_1 : decode cX2_share 1 = .ok (.aload_n 0, 1) := by decide +kernel
theorem dX2_share_2 : decode cX2_share 2 = .ok (.getfield 27, 3) := by decide +kernel
theorem dX2_share_5 : decode cX2_share 5 = .ok (.if_icmp .gt 9, 3) := by decide +kernel
theorem dX2_share_8 : decode cX2_share 8 = .ok (.iload_n 1, 1) := by decide +kernel
theorem dX2_share_9 : decode cX2_share 9 = .ok (.bipush 8, 2) := by decide +kernel
theorem dX2_share_11 : decode cX2_share 11 = .ok (.if_icmp .lt 5, 3) := by decide +kernel
theorem dX2_share_14 : decode cX2_share 14 = .ok (.iconst 1, 1) := by decide +kernel
theorem dX2_share_15 : decode cX2_share 15 = .ok (.ireturn, 1) := by decide +kernel
theorem dX2_share_16 : decode cX2_share 16 = .ok (.iconst 0, 1) := by decide +kernel
theorem dX2_share_17 : decode cX2_share 17 = .ok (.istore 4, 2) := by decide +kernel
theorem dX2_share_19 : decode cX2_share 19 = .ok (.iload 4, 2) := by decide +kernel
theorem dX2_share_21 : decode cX2_share 21 = .ok (.iload_n 2, 1) := by decide +kernel
theorem dX2_share_22 : decode cX2_share 22 = .ok (.if_icmp .gt 98, 3) := by decide +kernel
theorem dX2_share_25 : decode cX2_share 25 = .ok (.iload 4, 2) := by decide +kernel
theorem dX2_share_27 : decode cX2_share 27 = .ok (.iload_n 3, 1) := by decide +kernel
theorem dX2_share_28 : decode cX2_share 28 = .ok (.if_icmp .ge 92, 3) := by decide +kernel
theorem dX2_share_31 : decode cX2_share 31 = .ok (.iload 4, 2) := by decide +kernel
theorem dX2_share_33 : decode cX2_share 33 = .ok (.bipush 7, 2) := by decide +kernel
theorem dX2_share_35 : decode cX2_share 35 = .ok (.if_icmp .ge 85, 3) := by decide +kernel
theorem dX2_share_38 : decode cX2_share 38 = .ok (.aload_n 0, 1) := by decide +kernel
theorem dX2_share_39 : decode cX2_share 39 = .ok (.getfield 24, 3) := by decide +kernel
theorem dX2_share_42 : decode cX2_share 42 = .ok (.iload 4, 2) := by decide +kernel
theorem dX2_share_44 : decode cX2_share 44 = .ok (.iaload, 1) := by decide +kernel
theorem dX2_share_45 : decode cX2_share 45 = .ok (.istore 5, 2) := by decide +kernel
theorem dX2_share_47 : decode cX2_share 47 = .ok (.iload 4, 2) := by decide +kernel
theorem dX2_share_49 : decode cX2_share 49 = .ok (.iload_n 2, 1) := by decide +kernel
theorem dX2_share_50 : decode cX2_share 50 = .ok (.if_icmp .eq 13, 3) := by decide +kernel
theorem dX2_share_53 : decode cX2_share 53 = .ok (.aload_n 0, 1) := by decide +kernel
theorem dX2_share_54 : decode cX2_share 54 = .ok (.iload_n 1, 1) := by decide +kernel
theorem dX2_share_55 : decode cX2_share 55 = .ok (.iload 5, 2) := by decide +kernel
theorem dX2_share_57 : decode cX2_share 57 = .ok (.invokevirtual 62, 3) := by decide +kernel
theorem dX2_share_60 : decode cX2_share 60 = .ok (.ifCond .eq 54, 3) := by decide +kernel
theorem dX2_share_63 : decode cX2_share 63 = .ok (.aload_n 0, 1) := by decide +kernel
theorem dX2_share_64 : decode cX2_share 64 = .ok (.getfield 18, 3) := by decide +kernel
theorem dX2_share_67 : decode cX2_share 67 = .ok (.iload_n 1, 1) := by decide +kernel
theorem dX2_share_68 : decode cX2_share 68 = .ok (.iload 4, 2) := by decide +kernel
theorem dX2_share_70 : decode cX2_share 70 = .ok (.iastore, 1) := by decide +kernel
theorem dX2_share_71 : decode cX2_share 71 = .ok (.aload_n 0, 1) := by decide +kernel
theorem dX2_share_72 : decode cX2_share 72 = .ok (.getfield 24, 3) := by decide +kernel
theorem dX2_share_75 : decode cX2_share 75 = .ok (.iload 4, 2) := by decide +kernel
theorem dX2_share_77 : decode cX2_share 77 = .ok (.iload_n 1, 1) := by decide +kernel
theorem dX2_share_78 : decode cX2_share 78 = .ok (.iastore, 1) := by decide +kernel
theorem dX2_share_79 : decode cX2_share 79 = .ok (.aload_n 0, 1) := by decide +kernel
theorem dX2_share_80 : decode cX2_share 80 = .ok (.iload_n 1, 1) := by decide +kernel
theorem dX2_share_81 : decode cX2_share 81 = .ok (.iconst 1, 1) := by decide +kernel
theorem dX2_share_82 : decode cX2_share 82 = .ok (.iadd, 1) := by decide +kernel
theorem dX2_share_83 : decode cX2_share 83 = .ok (.iload 4, 2) := by decide +kernel
theorem dX2_share_85 : decode cX2_share 85 = .ok (.iload_n 2, 1) := by decide +kernel
theorem dX2_share_86 : decode cX2_share 86 = .ok (.if_icmp .ne 9, 3) := by decide +kernel
theorem dX2_share_89 : decode cX2_share 89 = .ok (.iload_n 2, 1) := by decide +kernel
theorem dX2_share_90 : decode cX2_share 90 = .ok (.iconst 1, 1) := by decide +kernel
theorem dX2_share_91 : decode cX2_share 91 = .ok (.iadd, 1) := by decide +kernel
theorem dX2_share_92 : decode cX2_share 92 = .ok (.goto 4, 3) := by decide +kernel
theorem dX2_share_95 : decode cX2_share 95 = .ok (.iload_n 2, 1) := by decide +kernel
theorem dX2_share_96 : decode cX2_share 96 = .ok (.iload_n 3, 1) := by decide +kernel
theorem dX2_share_97 : decode cX2_share 97 = .ok (.invokevirtual 58, 3) := by decide +kernel
theorem dX2_share_100 : decode cX2_share 100 = .ok (.ifCond .eq 5, 3) := by decide +kernel
theorem dX2_share_103 : decode cX2_share 103 = .ok (.iconst 1, 1) := by decide +kernel
theorem dX2_share_104 : decode cX2_share 104 = .ok (.ireturn, 1) := by decide +kernel
theorem dX2_share_105 : decode cX2_share 105 = .ok (.aload_n 0, 1) := by decide +kernel
theorem dX2_share_106 : decode cX2_share 106 = .ok (.getfield 24, 3) := by decide +kernel
theorem dX2_share_109 : decode cX2_share 109 = .ok (.iload 4, 2) := by decide +kernel
theorem dX2_share_111 : decode cX2_share 111 = .ok (.iload 5, 2) := by decide +kernel
theorem dX2_share_113 : decode cX2_share 113 = .ok (.iastore, 1) := by decide +kernel
theorem dX2_share_114 : decode cX2_share 114 = .ok (.iinc 4 1, 3) := by decide +kernel
theorem dX2_share_117 : decode cX2_share 117 = .ok (.goto (-98), 3) := by decide +kernel
theorem dX2_share_120 : decode cX2_share 120 = .ok (.iconst 0, 1) := by decide +kernel
theorem dX2_share_121 : decode cX2_share 121 = .ok (.ireturn, 1) := by decide +kernel
theorem dX2_canDo_0 : decode cX2_canDo 0 = .ok (.aload_n 0, 1) := by decide +kernel
theorem dX2_canDo_1 : decode cX2_canDo 1 = .ok (.getfield 21, 3) := by decide +kernel
theorem dX2_canDo_4 : decode cX2_canDo 4 = .ok (.iload_n 1, 1) := by decide +kernel
theorem dX2_canDo_5 : decode cX2_canDo 5 = .ok (.iaload, 1) := by decide +kernel
theorem dX2_canDo_6 : decode cX2_canDo 6 = .ok (.aload_n 0, 1) := by decide +kernel
theorem dX2_canDo_7 : decode cX2_canDo 7 = .ok (.getfield 21, 3) := by decide +kernel
theorem dX2_canDo_10 : decode cX2_canDo 10 = .ok (.iload_n 2, 1) := by decide +kernel
theorem dX2_canDo_11 : decode cX2_canDo 11 = .ok (.iaload, 1) := by decide +kernel
theorem dX2_canDo_12 : decode cX2_canDo 12 = .ok (.isub, 1) := by decide +kernel
theorem dX2_canDo_13 : decode cX2_canDo 13 = .ok (.aload_n 0, 1) := by decide +kernel
theorem dX2_canDo_14 : decode cX2_canDo 14 = .ok (.getfield 31, 3) := by decide +kernel
theorem dX2_canDo_17 : decode cX2_canDo 17 = .ok (.invokestatic 66, 3) := by decide +kernel
theorem dX2_canDo_20 : decode cX2_canDo 20 = .ok (.istore_n 3, 1) := by decide +kernel
theorem dX2_canDo_21 : decode cX2_canDo 21 = .ok (.aload_n 0, 1) := by decide +kernel
theorem dX2_canDo_22 : decode cX2_canDo 22 = .ok (.getfield 15, 3) := by decide +kernel
theorem dX2_canDo_25 : decode cX2_canDo 25 = .ok (.iload_n 2, 1) := by decide +kernel
theorem dX2_canDo_26 : decode cX2_canDo 26 = .ok (.iaload, 1) := by decide +kernel
theorem dX2_canDo_27 : decode cX2_canDo 27 = .ok (.iload_n 3, 1) := by decide +kernel
theorem dX2_canDo_28 : decode cX2_canDo 28 = .ok (.iadd, 1) := by decide +kernel
theorem dX2_canDo_29 : decode cX2_canDo 29 = .ok (.aload_n 0, 1) := by decide +kernel
theorem dX2_canDo_30 : decode cX2_canDo 30 = .ok (.getfield 9, 3) := by decide +kernel
theorem dX2_canDo_33 : decode cX2_canDo 33 = .ok (.iload_n 1, 1) := by decide +kernel
theorem dX2_canDo_34 : decode cX2_canDo 34 = .ok (.iaload, 1) := by decide +kernel
theorem dX2_canDo_35 : decode cX2_canDo 35 = .ok (.if_icmp .gt 7, 3) := by decide +kernel
theorem dX2_canDo_38 : decode cX2_canDo 38 = .ok (.iconst 1, 1) := by decide +kernel
theorem dX2_canDo_39 : decode cX2_canDo 39 = .ok (.goto 4, 3) := by decide +kernel
theorem dX2_canDo_42 : decode cX2_canDo 42 = .ok (.iconst 0, 1) := by decide +kernel
theorem dX2_canDo_43 : decode cX2_canDo 43 = .ok (.ireturn, 1) := by decide +kernel
theorem dX3_init_0 : decode cX3_init 0 = .ok (.aload_n 0, 1) := by decide +kernel
theorem dX3_init_1 : decode cX3_init 1 = .ok (.invokespecial 3, 3) := by decide +kernel
theorem dX3_init_4 : decode cX3_init 4 = .ok (.aload_n 0, 1) := by decide +kernel
theorem dX3_init_5 : decode cX3_init 5 = .ok (.bipush 7, 2) := by decide +kernel
theorem dX3_init_7 : decode cX3_init 7 = .ok (.bipush 10, 2) := by decide +kernel
theorem dX3_init_9 : decode cX3_init 9 = .ok (.multianewarray 9 2, 4) := by decide +kernel
theorem dX3_init_13 : decode cX3_init 13 = .ok (.putfield 11, 3) := by decide +kernel
theorem dX3_init_16 : decode cX3_init 16 = .ok (.aload_n 0, 1) := by decide +kernel
theorem dX3_init_17 : decode cX3_init 17 = .ok (.bipush 7, 2) := by decide +kernel
theorem dX3_init_19 : decode cX3_init 19 = .ok (.bipush 10, 2) := by decide +kernel
theorem dX3_init_21 : decode cX3_init 21 = .ok (.multianewarray 9 2, 4) := by decide +kernel
theorem dX3_init_25 : decode cX3_init 25 = .ok (.putfield 16, 3) := by decide +kernel
theorem dX3_init_28 : decode cX3_init 28 = .ok (.aload_n 0, 1) := by decide +kernel
theorem dX3_init_29 : decode cX3_init 29 = .ok (.bipush 7, 2) := by decide +kernel
theorem dX3_init_31 : decode cX3_init 31 = .ok (.bipush 10, 2) := by decide +kernel
theorem dX3_init_33 : decode cX3_init 33 = .ok (.multianewarray 9 2, 4) := by decide +kernel
theorem dX3_init_37 : decode cX3_init 37 = .ok (.putfield 19, 3) := by decide +kernel
theorem dX3_init_40 : decode cX3_init 40 = .ok (.aload_n 0, 1) := by decide +kernel
theorem dX3_init_41 : decode cX3_init 41 = .ok (.bipush 7, 2) := by decide +kernel
theorem dX3_init_43 : decode cX3_init 43 = .ok (.bipush 10, 2) := by decide +kernel
theorem dX3_init_45 : decode cX3_init 45 = .ok (.multianewarray 9 2, 4) := by decide +kernel
theorem dX3_init_49 : decode cX3_init 49 = .ok (.putfield 22, 3) := by decide +kernel
theorem dX3_init_52 : decode cX3_init 52 = .ok (.aload_n 0, 1) := by decide +kernel
theorem dX3_init_53 : decode cX3_init 53 = .ok (.bipush 7, 2) := by decide +kernel
theorem dX3_init_55 : decode cX3_init 55 = .ok (.bipush 10, 2) := by decide +kernel
theorem dX3_init_57 : decode cX3_init 57 = .ok (.multianewarray 9 2, 4) := by decide +kernel
theorem dX3_init_61 : decode cX3_init 61 = .ok (.putfield 25, 3) := by decide +kernel
theorem dX3_init_64 : decode cX3_init 64 = .ok (.aload_n 0, 1) := by decide +kernel
theorem dX3_init_65 : decode cX3_init 65 = .ok (.bipush 7, 2) := by decide +kernel
theorem dX3_init_67 : decode cX3_init 67 = .ok (.bipush 10, 2) := by decide +kernel
theorem dX3_init_69 : decode cX3_init 69 = .ok (.multianewarray 9 2, 4) := by decide +kernel
theorem dX3_init_73 : decode cX3_init 73 = .ok (.putfield 28, 3) := by decide +kernel
theorem dX3_init_76 : decode cX3_init 76 = .ok (.aload_n 0, 1) := by decide +kernel
theorem dX3_init_77 : decode cX3_init 77 = .ok (.bipush 7, 2) := by decide +kernel
theorem dX3_init_79 : decode cX3_init 79 = .ok (.newarray .int, 2) := by decide +kernel
theorem dX3_init_81 : decode cX3_init 81 = .ok (.putfield 31, 3) := by decide +kernel
theorem dX3_init_84 : decode cX3_init 84 = .ok (.aload_n 0, 1) := by decide +kernel
theorem dX3_init_85 : decode cX3_init 85 = .ok (.bipush 7, 2) := by decide +kernel
theorem dX3_init_87 : decode cX3_init 87 = .ok (.newarray .int, 2) := by decide +kernel
theorem dX3_init_89 : decode cX3_init 89 = .ok (.putfield 35, 3) := by decide +kernel
theorem dX3_init_92 : decode cX3_init 92 = .ok (.aload_n 0, 1) := by decide +kernel
theorem dX3_init_93 : decode cX3_init 93 = .ok (.bipush 7, 2) := by decide +kernel
theorem dX3_init_95 : decode cX3_init 95 = .ok (.newarray .int, 2) := by decide +kernel
theorem dX3_init_97 : decode cX3_init 97 = .ok (.putfield 38, 3) := by decide +kernel
theorem dX3_init_100 : decode cX3_init 100 = .ok (.return_, 1) := by decide +kernel
theorem dX3_run_0 : decode cX3_run 0 = .ok (.iconst 0, 1) := by decide +kernel
theorem dX3_run_1 : decode cX3_run 1 = .ok (.istore 4, 2) := by decide +kernel
theorem dX3_run_3 : decode cX3_run 3 = .ok (.iload 4, 2) := by decide +kernel
theorem dX3_run_5 : decode cX3_run 5 = .ok (.bipush 7, 2) := by decide +kernel
theorem dX3_run_7 : decode cX3_run 7 = .ok (.if_icmp .ge 89, 3) := by decide +kernel
theorem dX3_run_10 : decode cX3_run 10 = .ok (.aload_n 0, 1) := by decide +kernel
theorem dX3_run_11 : decode cX3_run 11 = .ok (.iload 4, 2) := by decide +kernel
theorem dX3_run_13 : decode cX3_run 13 = .ok (.invokevirtual 41, 3) := by decide +kernel
theorem dX3_run_16 : decode cX3_run 16 = .ok (.aload_n 0, 1) := by decide +kernel
theorem dX3_run_17 : decode cX3_run 17 = .ok (.getfield 38, 3) := by decide +kernel
theorem dX3_run_20 : decode cX3_run 20 = .ok (.iload 4, 2) := by decide +kernel
theorem dX3_run_22 : decode cX3_run 22 = .ok (.aload_n 1, 1) := by decide +kernel
theorem dX3_run_23 : decode cX3_run 23 = .ok (.iload 4, 2) := by decide +kernel
theorem dX3_run_25 : decode cX3_run 25 = .ok (.invokevirtual 45, 3) := by decide +kernel
theorem dX3_run_28 : decode cX3_run 28 = .ok (.iastore, 1) := by decide +kernel
theorem dX3_run_29 : decode cX3_run 29 = .ok (.iconst 0, 1) := by decide +kernel
theorem dX3_run_30 : decode cX3_run 30 = .ok (.istore 5, 2) := by decide +kernel
theorem dX3_run_32 : decode cX3_run 32 = .ok (.iload 5, 2) := by decide +kernel
theorem dX3_run_34 : decode cX3_run 34 = .ok (.aload_n 2, 1) := by decide +kernel
theorem dX3_run_35 : decode cX3_run 35 = .ok (.getfield 50, 3) := by decide +kernel
theorem dX3_run_38 : decode cX3_run 38 = .ok (.if_icmp .ge 39, 3) := by decide +kernel
theorem dX3_run_41 : decode cX3_run 41 = .ok (.aload_n 0, 1) := by decide +kernel
theorem dX3_run_42 : decode cX3_run 42 = .ok (.getfield 11, 3) := by decide +kernel
theorem dX3_run_45 : decode cX3_run 45 = .ok (.iload 4, 2) := by decide +kernel
theorem dX3_run_47 : decode cX3_run 47 = .ok (.aaload, 1) := by decide +kernel
theorem dX3_run_48 : decode cX3_run 48 = .ok (.iload 5, 2) := by decide +kernel
theorem dX3_run_50 : decode cX3_run 50 = .ok (.aload_n 2, 1) := by decide +kernel
theorem dX3_run_51 : decode cX3_run 51 = .ok (.getfield 56, 3) := by decide +kernel
theorem dX3_run_54 : decode cX3_run 54 = .ok (.iload 5, 2) := by decide +kernel
theorem dX3_run_56 : decode cX3_run 56 = .ok (.iaload, 1) := by decide +kernel
theorem dX3_run_57 : decode cX3_run 57 = .ok (.aload_n 1, 1) := by decide +kernel
theorem dX3_run_58 : decode cX3_run 58 = .ok (.getfield 59, 3) := by decide +kernel
theorem dX3_run_61 : decode cX3_run 61 = .ok (.iload 4, 2) := by decide +kernel
theorem dX3_run_63 : decode cX3_run 63 = .ok (.iaload, 1) := by decide +kernel
theorem dX3_run_64 : decode cX3_run 64 = .ok (.aload_n 3, 1) := by decide +kernel
theorem dX3_run_65 : decode cX3_run 65 = .ok (.iload 4, 2) := by decide +kernel
theorem dX3_run_67 : decode cX3_run 67 = .ok (.invokestatic 62, 3) := by decide +kernel
theorem dX3_run_70 : decode cX3_run 70 = .ok (.iastore, 1) := by decide +kernel
theorem dX3_run_71 : decode cX3_run 71 = .ok (.iinc 5 1, 3) := by decide +kernel
theorem dX3_run_74 : decode cX3_run 74 = .ok (.goto (-42), 3) := by decide +kernel
theorem dX3_run_77 : decode cX3_run 77 = .ok (.aload_n 0, 1) := by decide +kernel
theorem dX3_run_78 : decode cX3_run 78 = .ok (.iload 4, 2) := by decide +kernel
theorem dX3_run_80 : decode cX3_run 80 = .ok (.aload_n 2, 1) := by decide +kernel
theorem dX3_run_81 : decode cX3_run 81 = .ok (.invokevirtual 66, 3) := by decide +kernel
theorem dX3_run_84 : decode cX3_run 84 = .ok (.aload_n 0, 1) := by decide +kernel
theorem dX3_run_85 : decode cX3_run 85 = .ok (.iload 4, 2) := by decide +kernel
theorem dX3_run_87 : decode cX3_run 87 = .ok (.invokevirtual 70, 3) := by decide +kernel
theorem dX3_run_90 : decode cX3_run 90 = .ok (.iinc 4 1, 3) := by decide +kernel
theorem dX3_run_93 : decode cX3_run 93 = .ok (.goto (-90), 3) := by decide +kernel
theorem dX3_run_96 : decode cX3_run 96 = .ok (.return_, 1) := by decide +kernel
theorem dX3_lastStart_0 : decode cX3_lastStart 0 = .ok (.iload_n 1, 1) := by decide +kernel
theorem dX3_lastStart_1 : decode cX3_lastStart 1 = .ok (.invokestatic 73, 3) := by decide +kernel
theorem dX3_lastStart_4 : decode cX3_lastStart 4 = .ok (.ifCond .eq 23, 3) := by decide +kernel
theorem dX3_lastStart_7 : decode cX3_lastStart 7 = .ok (.aload_n 0, 1) := by decide +kernel
theorem dX3_lastStart_8 : decode cX3_lastStart 8 = .ok (.getfield 38, 3) := by decide +kernel
theorem dX3_lastStart_11 : decode cX3_lastStart 11 = .ok (.iload_n 1, 1) := by decide +kernel
theorem dX3_lastStart_12 : decode cX3_lastStart 12 = .ok (.iaload, 1) := by decide +kernel
theorem dX3_lastStart_13 : decode cX3_lastStart 13 = .ok (.iconst 2, 1) := by decide +kernel
theorem dX3_lastStart_14 : decode cX3_lastStart 14 = .ok (.aload_n 0, 1) := by decide +kernel
theorem dX3_lastStart_15 : decode cX3_lastStart 15 = .ok (.getfield 35, 3) := by decide +kernel
theorem dX3_lastStart_18 : decode cX3_lastStart 18 = .ok (.iload_n 1, 1) := by decide +kernel
theorem dX3_lastStart_19 : decode cX3_lastStart 19 = .ok (.iaload, 1) := by decide +kernel
theorem dX3_lastStart_20 : decode cX3_lastStart 20 = .ok (.iconst 1, 1) := by decide +kernel
theorem dX3_lastStart_21 : decode cX3_lastStart 21 = .ok (.isub, 1) := by decide +kernel
theorem dX3_lastStart_22 : decode cX3_lastStart 22 = .ok (.imul, 1) := by decide +kernel
theorem dX3_lastStart_23 : decode cX3_lastStart 23 = .ok (.iadd, 1) := by decide +kernel
theorem dX3_lastStart_24 : decode cX3_lastStart 24 = .ok (.goto 4, 3) := by decide +kernel
theorem dX3_lastStart_27 : decode cX3_lastStart 27 = .ok (.iconst (-1), 1) := by decide +kernel
theorem dX3_lastStart_28 : decode cX3_lastStart 28 = .ok (.ireturn, 1) := by decide +kernel
theorem dX3_brokenDown_0 : decode cX3_brokenDown 0 = .ok (.iconst 0, 1) := by decide +kernel
theorem dX3_brokenDown_1 : decode cX3_brokenDown 1 = .ok (.istore_n 3, 1) := by decide +kernel
theorem dX3_brokenDown_2 : decode cX3_brokenDown 2 = .ok (.iconst 0, 1) := by decide +kernel
theorem dX3_brokenDown_3 : decode cX3_brokenDown 3 = .ok (.istore 4, 2) := by decide +kernel
theorem dX3_brokenDown_5 : decode cX3_brokenDown 5 = .ok (.iload 4, 2) := by decide +kernel
theorem dX3_brokenDown_7 : decode cX3_brokenDown 7 = .ok (.aload_n 2, 1) := by decide +kernel
theorem dX3_brokenDown_8 : decode cX3_brokenDown 8 = .ok (.getfield 50, 3) := by decide +kernel
theorem dX3_brokenDown_11 : decode cX3_brokenDown 11 = .ok (.if_icmp .ge 47, 3) := by decide +kernel
theorem dX3_brokenDown_14 : decode cX3_brokenDown 14 = .ok (.iload_n 1, 1) := by decide +kernel
theorem dX3_brokenDown_15 : decode cX3_brokenDown 15 = .ok (.invokestatic 73, 3) := by decide +kernel
theorem dX3_brokenDown_18 : decode cX3_brokenDown 18 = .ok (.ifCond .eq 34, 3) := by decide +kernel
theorem dX3_brokenDown_21 : decode cX3_brokenDown 21 = .ok (.aload_n 2, 1) := by decide +kernel
theorem dX3_brokenDown_22 : decode cX3_brokenDown 22 = .ok (.getfield 77, 3) := by decide +kernel
theorem dX3_brokenDown_25 : decode cX3_brokenDown 25 = .ok (.iload 4, 2) := by decide +kernel
theorem dX3_brokenDown_27 : decode cX3_brokenDown 27 = .ok (.iaload, 1) := by decide +kernel
theorem dX3_brokenDown_28 : decode cX3_brokenDown 28 = .ok (.iload_n 1, 1) := by decide +kernel
theorem dX3_brokenDown_29 : decode cX3_brokenDown 29 = .ok (.if_icmp .ne 23, 3) := by decide +kernel
theorem dX3_brokenDown_32 : decode cX3_brokenDown 32 = .ok (.aload_n 0, 1) := by decide +kernel
theorem dX3_brokenDown_33 : decode cX3_brokenDown 33 = .ok (.getfield 16, 3) := by decide +kernel
theorem dX3_brokenDown_36 : decode cX3_brokenDown 36 = .ok (.iload_n 1, 1) := by decide +kernel
theorem dX3_brokenDown_37 : decode cX3_brokenDown 37 = .ok (.aaload, 1) := by decide +kernel
theorem dX3_brokenDown_38 : decode cX3_brokenDown 38 = .ok (.iload 4, 2) := by decide +kernel
theorem dX3_brokenDown_40 : decode cX3_brokenDown 40 = .ok (.iaload, 1) := by decide +kernel
theorem dX3_brokenDown_41 : decode cX3_brokenDown 41 = .ok (.iconst (-1), 1) := by decide +kernel
theorem dX3_brokenDown_42 : decode cX3_brokenDown 42 = .ok (.if_icmp .eq 10, 3) := by decide +kernel
theorem dX3_brokenDown_45 : decode cX3_brokenDown 45 = .ok (.iload_n 3, 1) := by decide +kernel
theorem dX3_brokenDown_46 : decode cX3_brokenDown 46 = .ok (.iconst 1, 1) := by decide +kernel
theorem dX3_brokenDown_47 : decode cX3_brokenDown 47 = .ok (.iload 4, 2) := by decide +kernel
theorem dX3_brokenDown_49 : decode cX3_brokenDown 49 = .ok (.ishl, 1) := by decide +kernel
theorem dX3_brokenDown_50 : decode cX3_brokenDown 50 = .ok (.ior, 1) := by decide +kernel
theorem dX3_brokenDown_51 : decode cX3_brokenDown 51 = .ok (.istore_n 3, 1) := by decide +kernel
theorem dX3_brokenDown_52 : decode cX3_brokenDown 52 = .ok (.iinc 4 1, 3) := by decide +kernel
theorem dX3_brokenDown_55 : decode cX3_brokenDown 55 = .ok (.goto (-50), 3) := by decide +kernel
theorem dX3_brokenDown_58 : decode cX3_brokenDown 58 = .ok (.iload_n 3, 1) := by decide +kernel
theorem dX3_brokenDown_59 : decode cX3_brokenDown 59 = .ok (.ireturn, 1) := by decide +kernel
theorem dX3_firstArrival_0 : decode cX3_firstArrival 0 = .ok (.iconst (-1), 1) := by decide +kernel
theorem dX3_firstArrival_1 : decode cX3_firstArrival 1 = .ok (.istore_n 2, 1) := by decide +kernel
theorem dX3_firstArrival_2 : decode cX3_firstArrival 2 = .ok (.iconst 0, 1) := by decide +kernel
theorem dX3_firstArrival_3 : decode cX3_firstArrival 3 = .ok (.istore_n 3, 1) := by decide +kernel
theorem dX3_firstArrival_4 : decode cX3_firstArrival 4 = .ok (.iload_n 1, 1) := by decide +kernel
theorem dX3_firstArrival_5 : decode cX3_firstArrival 5 = .ok (.invokestatic 73, 3) := by decide +kernel
theorem dX3_firstArrival_8 : decode cX3_firstArrival 8 = .ok (.ifCond .eq 53, 3) := by decide +kernel
theorem dX3_firstArrival_11 : decode cX3_firstArrival 11 = .ok (.iload_n 3, 1) := by decide +kernel
theorem dX3_firstArrival_12 : decode cX3_firstArrival 12 = .ok (.aload_n 0, 1) := by decide +kernel
theorem dX3_firstArrival_13 : decode cX3_firstArrival 13 = .ok (.getfield 31, 3) := by decide +kernel
theorem dX3_firstArrival_16 : decode cX3_firstArrival 16 = .ok (.iload_n 1, 1) := by decide +kernel
theorem dX3_firstArrival_17 : decode cX3_firstArrival 17 = .ok (.iaload, 1) := by decide +kernel
theorem dX3_firstArrival_18 : decode cX3_firstArrival 18 = .ok (.if_icmp .ge 43, 3) := by decide +kernel
theorem dX3_firstArrival_21 : decode cX3_firstArrival 21 = .ok (.aload_n 0, 1) := by decide +kernel
theorem dX3_firstArrival_22 : decode cX3_firstArrival 22 = .ok (.getfield 19, 3) := by decide +kernel
theorem dX3_firstArrival_25 : decode cX3_firstArrival 25 = .ok (.iload_n 1, 1) := by decide +kernel
theorem dX3_firstArrival_26 : decode cX3_firstArrival 26 = .ok (.aaload, 1) := by decide +kernel
theorem dX3_firstArrival_27 : decode cX3_firstArrival 27 = .ok (.aload_n 0, 1) := by decide +kernel
theorem dX3_firstArrival_28 : decode cX3_firstArrival 28 = .ok (.getfield 28, 3) := by decide +kernel
theorem dX3_firstArrival_31 : decode cX3_firstArrival 31 = .ok (.iload_n 1, 1) := by decide +kernel
theorem dX3_firstArrival_32 : decode cX3_firstArrival 32 = .ok (.aaload, 1) := by decide +kernel
theorem dX3_firstArrival_33 : decode cX3_firstArrival 33 = .ok (.iload_n 3, 1) := by decide +kernel
theorem dX3_firstArrival_34 : decode cX3_firstArrival 34 = .ok (.iaload, 1) := by decide +kernel
theorem dX3_firstArrival_35 : decode cX3_firstArrival 35 = .ok (.iaload, 1) := by decide +kernel
theorem dX3_firstArrival_36 : decode cX3_firstArrival 36 = .ok (.istore 4, 2) := by decide +kernel
theorem dX3_firstArrival_38 : decode cX3_firstArrival 38 = .ok (.iload_n 2, 1) := by decide +kernel
theorem dX3_firstArrival_39 : decode cX3_firstArrival 39 = .ok (.iconst (-1), 1) := by decide +kernel
theorem dX3_firstArrival_40 : decode cX3_firstArrival 40 = .ok (.if_icmp .ne 8, 3) := by decide +kernel
theorem dX3_firstArrival_43 : decode cX3_firstArrival 43 = .ok (.iload 4, 2) := by decide +kernel
theorem dX3_firstArrival_45 : decode cX3_firstArrival 45 = .ok (.goto 9, 3) := by decide +kernel
theorem dX3_firstArrival_48 : decode cX3_firstArrival 48 = .ok (.iload_n 2, 1) := by decide +kernel
theorem dX3_firstArrival_49 : decode cX3_firstArrival 49 = .ok (.iload 4, 2) := by decide +kernel
theorem dX3_firstArrival_51 : decode cX3_firstArrival 51 = .ok (.invokestatic 80, 3) := by decide +kernel
theorem dX3_firstArrival_54 : decode cX3_firstArrival 54 = .ok (.istore_n 2, 1) := by decide +kernel
theorem dX3_firstArrival_55 : decode cX3_firstArrival 55 = .ok (.iinc 3 1, 3) := by decide +kernel
theorem dX3_firstArrival_58 : decode cX3_firstArrival 58 = .ok (.goto (-54), 3) := by decide +kernel
theorem dX3_firstArrival_61 : decode cX3_firstArrival 61 = .ok (.iload_n 2, 1) := by decide +kernel
theorem dX3_firstArrival_62 : decode cX3_firstArrival 62 = .ok (.ireturn, 1) := by decide +kernel
theorem dX3_lastArrival_0 : decode cX3_lastArrival 0 = .ok (.iconst (-1), 1) := by decide +kernel
theorem dX3_lastArrival_1 : decode cX3_lastArrival 1 = .ok (.istore_n 2, 1) := by decide +kernel
theorem dX3_lastArrival_2 : decode cX3_lastArrival 2 = .ok (.iconst 0, 1) := by decide +kernel
theorem dX3_lastArrival_3 : decode cX3_lastArrival 3 = .ok (.istore_n 3, 1) := by decide +kernel
theorem dX3_lastArrival_4 : decode cX3_lastArrival 4 = .ok (.iload_n 1, 1) := by decide +kernel
theorem dX3_lastArrival_5 : decode cX3_lastArrival 5 = .ok (.invokestatic 73, 3) := by decide +kernel
theorem dX3_lastArrival_8 : decode cX3_lastArrival 8 = .ok (.ifCond .eq 39, 3) := by decide +kernel
theorem dX3_lastArrival_11 : decode cX3_lastArrival 11 = .ok (.iload_n 3, 1) := by decide +kernel
theorem dX3_lastArrival_12 : decode cX3_lastArrival 12 = .ok (.aload_n 0, 1) := by decide +kernel
theorem dX3_lastArrival_13 : decode cX3_lastArrival 13 = .ok (.getfield 31, 3) := by decide +kernel
theorem dX3_lastArrival_16 : decode cX3_lastArrival 16 = .ok (.iload_n 1, 1) := by decide +kernel
theorem dX3_lastArrival_17 : decode cX3_lastArrival 17 = .ok (.iaload, 1) := by decide +kernel
theorem dX3_lastArrival_18 : decode cX3_lastArrival 18 = .ok (.if_icmp .ge 29, 3) := by decide +kernel
theorem dX3_lastArrival_21 : decode cX3_lastArrival 21 = .ok (.iload_n 2, 1) := by decide +kernel
theorem dX3_lastArrival_22 : decode cX3_lastArrival 22 = .ok (.aload_n 0, 1) := by decide +kernel
theorem dX3_lastArrival_23 : decode cX3_lastArrival 23 = .ok (.getfield 19, 3) := by decide +kernel
theorem dX3_lastArrival_26 : decode cX3_lastArrival 26 = .ok (.iload_n 1, 1) := by decide +kernel
theorem dX3_lastArrival_27 : decode cX3_lastArrival 27 = .ok (.aaload, 1) := by decide +kernel
theorem dX3_lastArrival_28 : decode cX3_lastArrival 28 = .ok (.aload_n 0, 1) := by decide +kernel
theorem dX3_lastArrival_29 : decode cX3_lastArrival 29 = .ok (.getfield 28, 3) := by decide +kernel
theorem dX3_lastArrival_32 : decode cX3_lastArrival 32 = .ok (.iload_n 1, 1) := by decide +kernel
theorem dX3_lastArrival_33 : decode cX3_lastArrival 33 = .ok (.aaload, 1) := by decide +kernel
theorem dX3_lastArrival_34 : decode cX3_lastArrival 34 = .ok (.iload_n 3, 1) := by decide +kernel
theorem dX3_lastArrival_35 : decode cX3_lastArrival 35 = .ok (.iaload, 1) := by decide +kernel
theorem dX3_lastArrival_36 : decode cX3_lastArrival 36 = .ok (.iaload, 1) := by decide +kernel
theorem dX3_lastArrival_37 : decode cX3_lastArrival 37 = .ok (.invokestatic 86, 3) := by decide +kernel
theorem dX3_lastArrival_40 : decode cX3_lastArrival 40 = .ok (.istore_n 2, 1) := by decide +kernel
theorem dX3_lastArrival_41 : decode cX3_lastArrival 41 = .ok (.iinc 3 1, 3) := by decide +kernel
theorem dX3_lastArrival_44 : decode cX3_lastArrival 44 = .ok (.goto (-40), 3) := by decide +kernel
theorem dX3_lastArrival_47 : decode cX3_lastArrival 47 = .ok (.iload_n 2, 1) := by decide +kernel
theorem dX3_lastArrival_48 : decode cX3_lastArrival 48 = .ok (.ireturn, 1) := by decide +kernel
theorem dX3_forget_0 : decode cX3_forget 0 = .ok (.iconst 0, 1) := by decide +kernel
theorem dX3_forget_1 : decode cX3_forget 1 = .ok (.istore_n 2, 1) := by decide +kernel
theorem dX3_forget_2 : decode cX3_forget 2 = .ok (.iload_n 2, 1) := by decide +kernel
theorem dX3_forget_3 : decode cX3_forget 3 = .ok (.bipush 10, 2) := by decide +kernel
theorem dX3_forget_5 : decode cX3_forget 5 = .ok (.if_icmp .ge 45, 3) := by decide +kernel
theorem dX3_forget_8 : decode cX3_forget 8 = .ok (.aload_n 0, 1) := by decide +kernel
theorem dX3_forget_9 : decode cX3_forget 9 = .ok (.getfield 16, 3) := by decide +kernel
theorem dX3_forget_12 : decode cX3_forget 12 = .ok (.iload_n 1, 1) := by decide +kernel
theorem dX3_forget_13 : decode cX3_forget 13 = .ok (.aaload, 1) := by decide +kernel
theorem dX3_forget_14 : decode cX3_forget 14 = .ok (.iload_n 2, 1) := by decide +kernel
theorem dX3_forget_15 : decode cX3_forget 15 = .ok (.iconst (-1), 1) := by decide +kernel
theorem dX3_forget_16 : decode cX3_forget 16 = .ok (.iastore, 1) := by decide +kernel
theorem dX3_forget_17 : decode cX3_forget 17 = .ok (.aload_n 0, 1) := by decide +kernel
theorem dX3_forget_18 : decode cX3_forget 18 = .ok (.getfield 19, 3) := by decide +kernel
theorem dX3_forget_21 : decode cX3_forget 21 = .ok (.iload_n 1, 1) := by decide +kernel
theorem dX3_forget_22 : decode cX3_forget 22 = .ok (.aaload, 1) := by decide +kernel
theorem dX3_forget_23 : decode cX3_forget 23 = .ok (.iload_n 2, 1) := by decide +kernel
theorem dX3_forget_24 : decode cX3_forget 24 = .ok (.iconst (-1), 1) := by decide +kernel
theorem dX3_forget_25 : decode cX3_forget 25 = .ok (.iastore, 1) := by decide +kernel
theorem dX3_forget_26 : decode cX3_forget 26 = .ok (.aload_n 0, 1) := by decide +kernel
theorem dX3_forget_27 : decode cX3_forget 27 = .ok (.getfield 22, 3) := by decide +kernel
theorem dX3_forget_30 : decode cX3_forget 30 = .ok (.iload_n 1, 1) := by decide +kernel
theorem dX3_forget_31 : decode cX3_forget 31 = .ok (.aaload, 1) := by decide +kernel
theorem dX3_forget_32 : decode cX3_forget 32 = .ok (.iload_n 2, 1) := by decide +kernel
theorem dX3_forget_33 : decode cX3_forget 33 = .ok (.iconst (-1), 1) := by decide +kernel
theorem dX3_forget_34 : decode cX3_forget 34 = .ok (.iastore, 1) := by decide +kernel
theorem dX3_forget_35 : decode cX3_forget 35 = .ok (.aload_n 0, 1) := by decide +kernel
theorem dX3_forget_36 : decode cX3_forget 36 = .ok (.getfield 25, 3) := by decide +kernel
theorem dX3_forget_39 : decode cX3_forget 39 = .ok (.iload_n 1, 1) := by decide +kernel
theorem dX3_forget_40 : decode cX3_forget 40 = .ok (.aaload, 1) := by decide +kernel
theorem dX3_forget_41 : decode cX3_forget 41 = .ok (.iload_n 2, 1) := by decide +kernel
theorem dX3_forget_42 : decode cX3_forget 42 = .ok (.iconst (-1), 1) := by decide +kernel
theorem dX3_forget_43 : decode cX3_forget 43 = .ok (.iastore, 1) := by decide +kernel
theorem dX3_forget_44 : decode cX3_forget 44 = .ok (.iinc 2 1, 3) := by decide +kernel
theorem dX3_forget_47 : decode cX3_forget 47 = .ok (.goto (-45), 3) := by decide +kernel
theorem dX3_forget_50 : decode cX3_forget 50 = .ok (.aload_n 0, 1) := by decide +kernel
theorem dX3_forget_51 : decode cX3_forget 51 = .ok (.getfield 31, 3) := by decide +kernel
theorem dX3_forget_54 : decode cX3_forget 54 = .ok (.iload_n 1, 1) := by decide +kernel
theorem dX3_forget_55 : decode cX3_forget 55 = .ok (.iconst 0, 1) := by decide +kernel
theorem dX3_forget_56 : decode cX3_forget 56 = .ok (.iastore, 1) := by decide +kernel
theorem dX3_forget_57 : decode cX3_forget 57 = .ok (.aload_n 0, 1) := by decide +kernel
theorem dX3_forget_58 : decode cX3_forget 58 = .ok (.getfield 35, 3) := by decide +kernel
theorem dX3_forget_61 : decode cX3_forget 61 = .ok (.iload_n 1, 1) := by decide +kernel
theorem dX3_forget_62 : decode cX3_forget 62 = .ok (.iconst 0, 1) := by decide +kernel
theorem dX3_forget_63 : decode cX3_forget 63 = .ok (.iastore, 1) := by decide +kernel
theorem dX3_forget_64 : decode cX3_forget 64 = .ok (.return_, 1) := by decide +kernel
theorem dX3_runStage_0 : decode cX3_runStage 0 = .ok (.iload_n 1, 1) := by decide +kernel
theorem dX3_runStage_1 : decode cX3_runStage 1 = .ok (.ifCond .ne 10, 3) := by decide +kernel
theorem dX3_runStage_4 : decode cX3_runStage 4 = .ok (.aload_n 2, 1) := by decide +kernel
theorem dX3_runStage_5 : decode cX3_runStage 5 = .ok (.getfield 50, 3) := by decide +kernel
theorem dX3_runStage_8 : decode cX3_runStage 8 = .ok (.goto 11, 3) := by decide +kernel
theorem dX3_runStage_11 : decode cX3_runStage 11 = .ok (.aload_n 0, 1) := by decide +kernel
theorem dX3_runStage_12 : decode cX3_runStage 12 = .ok (.getfield 31, 3) := by decide +kernel
theorem dX3_runStage_15 : decode cX3_runStage 15 = .ok (.iload_n 1, 1) := by decide +kernel
theorem dX3_runStage_16 : decode cX3_runStage 16 = .ok (.iconst 1, 1) := by decide +kernel
theorem dX3_runStage_17 : decode cX3_runStage 17 = .ok (.isub, 1) := by decide +kernel
theorem dX3_runStage_18 : decode cX3_runStage 18 = .ok (.iaload, 1) := by decide +kernel
theorem dX3_runStage_19 : decode cX3_runStage 19 = .ok (.istore_n 3, 1) := by decide +kernel
theorem dX3_runStage_20 : decode cX3_runStage 20 = .ok (.iconst 0, 1) := by decide +kernel
theorem dX3_runStage_21 : decode cX3_runStage 21 = .ok (.istore 4, 2) := by decide +kernel
theorem dX3_runStage_23 : decode cX3_runStage 23 = .ok (.iload 4, 2) := by decide +kernel
theorem dX3_runStage_25 : decode cX3_runStage 25 = .ok (.iload_n 3, 1) := by decide +kernel
theorem dX3_runStage_26 : decode cX3_runStage 26 = .ok (.if_icmp .ge 135, 3) := by decide +kernel
theorem dX3_runStage_29 : decode cX3_runStage 29 = .ok (.iload_n 1, 1) := by decide +kernel
theorem dX3_runStage_30 : decode cX3_runStage 30 = .ok (.ifCond .ne 8, 3) := by decide +kernel
theorem dX3_runStage_33 : decode cX3_runStage 33 = .ok (.iload 4, 2) := by decide +kernel
theorem dX3_runStage_35 : decode cX3_runStage 35 = .ok (.goto 14, 3) := by decide +kernel
theorem dX3_runStage_38 : decode cX3_runStage 38 = .ok (.aload_n 0, 1) := by decide +kernel
theorem dX3_runStage_39 : decode cX3_runStage 39 = .ok (.getfield 28, 3) := by decide +kernel
theorem dX3_runStage_42 : decode cX3_runStage 42 = .ok (.iload_n 1, 1) := by decide +kernel
theorem dX3_runStage_43 : decode cX3_runStage 43 = .ok (.iconst 1, 1) := by decide +kernel
theorem dX3_runStage_44 : decode cX3_runStage 44 = .ok (.isub, 1) := by decide +kernel
theorem dX3_runStage_45 : decode cX3_runStage 45 = .ok (.aaload, 1) := by decide +kernel
theorem dX3_runStage_46 : decode cX3_runStage 46 = .ok (.iload 4, 2) := by decide +kernel
theorem dX3_runStage_48 : decode cX3_runStage 48 = .ok (.iaload, 1) := by decide +kernel
theorem dX3_runStage_49 : decode cX3_runStage 49 = .ok (.istore 5, 2) := by decide +kernel
theorem dX3_runStage_51 : decode cX3_runStage 51 = .ok (.aload_n 0, 1) := by decide +kernel
theorem dX3_runStage_52 : decode cX3_runStage 52 = .ok (.getfield 16, 3) := by decide +kernel
theorem dX3_runStage_55 : decode cX3_runStage 55 = .ok (.iload_n 1, 1) := by decide +kernel
theorem dX3_runStage_56 : decode cX3_runStage 56 = .ok (.aaload, 1) := by decide +kernel
theorem dX3_runStage_57 : decode cX3_runStage 57 = .ok (.iload 5, 2) := by decide +kernel
theorem dX3_runStage_59 : decode cX3_runStage 59 = .ok (.aload_n 0, 1) := by decide +kernel
theorem dX3_runStage_60 : decode cX3_runStage 60 = .ok (.getfield 38, 3) := by decide +kernel
theorem dX3_runStage_63 : decode cX3_runStage 63 = .ok (.iload_n 1, 1) := by decide +kernel
theorem dX3_runStage_64 : decode cX3_runStage 64 = .ok (.iaload, 1) := by decide +kernel
theorem dX3_runStage_65 : decode cX3_runStage 65 = .ok (.iconst 2, 1) := by decide +kernel
theorem dX3_runStage_66 : decode cX3_runStage 66 = .ok (.iload 4, 2) := by decide +kernel
theorem dX3_runStage_68 : decode cX3_runStage 68 = .ok (.imul, 1) := by decide +kernel
theorem dX3_runStage_69 : decode cX3_runStage 69 = .ok (.iadd, 1) := by decide +kernel
theorem dX3_runStage_70 : decode cX3_runStage 70 = .ok (.iastore, 1) := by decide +kernel
theorem dX3_runStage_71 : decode cX3_runStage 71 = .ok (.aload_n 2, 1) := by decide +kernel
theorem dX3_runStage_72 : decode cX3_runStage 72 = .ok (.getfield 77, 3) := by decide +kernel
theorem dX3_runStage_75 : decode cX3_runStage 75 = .ok (.iload 5, 2) := by decide +kernel
theorem dX3_runStage_77 : decode cX3_runStage 77 = .ok (.iaload, 1) := by decide +kernel
theorem dX3_runStage_78 : decode cX3_runStage 78 = .ok (.iload_n 1, 1) := by decide +kernel
theorem dX3_runStage_79 : decode cX3_runStage 79 = .ok (.if_icmp .eq 76, 3) := by decide +kernel
theorem dX3_runStage_82 : decode cX3_runStage 82 = .ok (.aload_n 0, 1) := by decide +kernel
theorem dX3_runStage_83 : decode cX3_runStage 83 = .ok (.getfield 19, 3) := by decide +kernel
theorem dX3_runStage_86 : decode cX3_runStage 86 = .ok (.iload_n 1, 1) := by decide +kernel
theorem dX3_runStage_87 : decode cX3_runStage 87 = .ok (.aaload, 1) := by decide +kernel
theorem dX3_runStage_88 : decode cX3_runStage 88 = .ok (.iload 5, 2) := by decide +kernel
theorem dX3_runStage_90 : decode cX3_runStage 90 = .ok (.aload_n 0, 1) := by decide +kernel
theorem dX3_runStage_91 : decode cX3_runStage 91 = .ok (.getfield 16, 3) := by decide +kernel
theorem dX3_runStage_94 : decode cX3_runStage 94 = .ok (.iload_n 1, 1) := by decide +kernel
theorem dX3_runStage_95 : decode cX3_runStage 95 = .ok (.aaload, 1) := by decide +kernel
theorem dX3_runStage_96 : decode cX3_runStage 96 = .ok (.iload 5, 2) := by decide +kernel
theorem dX3_runStage_98 : decode cX3_runStage 98 = .ok (.iaload, 1) := by decide +kernel
theorem dX3_runStage_99 : decode cX3_runStage 99 = .ok (.aload_n 0, 1) := by decide +kernel
theorem dX3_runStage_100 : decode cX3_runStage 100 = .ok (.getfield 11, 3) := by decide +kernel
theorem dX3_runStage_103 : decode cX3_runStage 103 = .ok (.iload_n 1, 1) := by decide +kernel
theorem dX3_runStage_104 : decode cX3_runStage 104 = .ok (.aaload, 1) := by decide +kernel
theorem dX3_runStage_105 : decode cX3_runStage 105 = .ok (.iload 5, 2) := by decide +kernel
theorem dX3_runStage_107 : decode cX3_runStage 107 = .ok (.iaload, 1) := by decide +kernel
theorem dX3_runStage_108 : decode cX3_runStage 108 = .ok (.iadd, 1) := by decide +kernel
theorem dX3_runStage_109 : decode cX3_runStage 109 = .ok (.iastore, 1) := by decide +kernel
theorem dX3_runStage_110 : decode cX3_runStage 110 = .ok (.aload_n 0, 1) := by decide +kernel
theorem dX3_runStage_111 : decode cX3_runStage 111 = .ok (.getfield 25, 3) := by decide +kernel
theorem dX3_runStage_114 : decode cX3_runStage 114 = .ok (.iload_n 1, 1) := by decide +kernel
theorem dX3_runStage_115 : decode cX3_runStage 115 = .ok (.aaload, 1) := by decide +kernel
theorem dX3_runStage_116 : decode cX3_runStage 116 = .ok (.iload 5, 2) := by decide +kernel
theorem dX3_runStage_118 : decode cX3_runStage 118 = .ok (.aload_n 0, 1) := by decide +kernel
theorem dX3_runStage_119 : decode cX3_runStage 119 = .ok (.getfield 11, 3) := by decide +kernel
theorem dX3_runStage_122 : decode cX3_runStage 122 = .ok (.iload_n 1, 1) := by decide +kernel
theorem dX3_runStage_123 : decode cX3_runStage 123 = .ok (.aaload, 1) := by decide +kernel
theorem dX3_runStage_124 : decode cX3_runStage 124 = .ok (.iload 5, 2) := by decide +kernel
theorem dX3_runStage_126 : decode cX3_runStage 126 = .ok (.iaload, 1) := by decide +kernel
theorem dX3_runStage_127 : decode cX3_runStage 127 = .ok (.iload_n 1, 1) := by decide +kernel
theorem dX3_runStage_128 : decode cX3_runStage 128 = .ok (.ifCond .ne 7, 3) := by decide +kernel
theorem dX3_runStage_131 : decode cX3_runStage 131 = .ok (.iconst 0, 1) := by decide +kernel
theorem dX3_runStage_132 : decode cX3_runStage 132 = .ok (.goto 14, 3) := by decide +kernel
theorem dX3_runStage_135 : decode cX3_runStage 135 = .ok (.aload_n 0, 1) := by decide +kernel
theorem dX3_runStage_136 : decode cX3_runStage 136 = .ok (.getfield 25, 3) := by decide +kernel
theorem dX3_runStage_139 : decode cX3_runStage 139 = .ok (.iload_n 1, 1) := by decide +kernel
theorem dX3_runStage_140 : decode cX3_runStage 140 = .ok (.iconst 1, 1) := by decide +kernel
theorem dX3_runStage_141 : decode cX3_runStage 141 = .ok (.isub, 1) := by decide +kernel
theorem dX3_runStage_142 : decode cX3_runStage 142 = .ok (.aaload, 1) := by decide +kernel
theorem dX3_runStage_143 : decode cX3_runStage 143 = .ok (.iload 5, 2) := by decide +kernel
theorem dX3_runStage_145 : decode cX3_runStage 145 = .ok (.iaload, 1) := by decide +kernel
theorem dX3_runStage_146 : decode cX3_runStage 146 = .ok (.iadd, 1) := by decide +kernel
theorem dX3_runStage_147 : decode cX3_runStage 147 = .ok (.iastore, 1) := by decide +kernel
theorem dX3_runStage_148 : decode cX3_runStage 148 = .ok (.aload_n 0, 1) := by decide +kernel
theorem dX3_runStage_149 : decode cX3_runStage 149 = .ok (.iload_n 1, 1) := by decide +kernel
theorem dX3_runStage_150 : decode cX3_runStage 150 = .ok (.iload 5, 2) := by decide +kernel
theorem dX3_runStage_152 : decode cX3_runStage 152 = .ok (.invokevirtual 89, 3) := by decide +kernel
theorem dX3_runStage_155 : decode cX3_runStage 155 = .ok (.iinc 4 1, 3) := by decide +kernel
theorem dX3_runStage_158 : decode cX3_runStage 158 = .ok (.goto (-135), 3) := by decide +kernel
theorem dX3_runStage_161 : decode cX3_runStage 161 = .ok (.aload_n 0, 1) := by decide +kernel
theorem dX3_runStage_162 : decode cX3_runStage 162 = .ok (.getfield 35, 3) := by decide +kernel
theorem dX3_runStage_165 : decode cX3_runStage 165 = .ok (.iload_n 1, 1) := by decide +kernel
theorem dX3_runStage_166 : decode cX3_runStage 166 = .ok (.iload_n 3, 1) := by decide +kernel
theorem dX3_runStage_167 : decode cX3_runStage 167 = .ok (.iastore, 1) := by decide +kernel
theorem dX3_runStage_168 : decode cX3_runStage 168 = .ok (.return_, 1) := by decide +kernel
theorem dX3_rank_0 : decode cX3_rank 0 = .ok (.aload_n 0, 1) := by decide +kernel
theorem dX3_rank_1 : decode cX3_rank 1 = .ok (.getfield 31, 3) := by decide +kernel
theorem dX3_rank_4 : decode cX3_rank 4 = .ok (.iload_n 1, 1) := by decide +kernel
theorem dX3_rank_5 : decode cX3_rank 5 = .ok (.iaload, 1) := by decide +kernel
theorem dX3_rank_6 : decode cX3_rank 6 = .ok (.istore_n 3, 1) := by decide +kernel
theorem dX3_rank_7 : decode cX3_rank 7 = .ok (.iload_n 3, 1) := by decide +kernel
theorem dX3_rank_8 : decode cX3_rank 8 = .ok (.ifCond .le 46, 3) := by decide +kernel
theorem dX3_rank_11 : decode cX3_rank 11 = .ok (.aload_n 0, 1) := by decide +kernel
theorem dX3_rank_12 : decode cX3_rank 12 = .ok (.iload_n 1, 1) := by decide +kernel
theorem dX3_rank_13 : decode cX3_rank 13 = .ok (.iload_n 2, 1) := by decide +kernel
theorem dX3_rank_14 : decode cX3_rank 14 = .ok (.aload_n 0, 1) := by decide +kernel
theorem dX3_rank_15 : decode cX3_rank 15 = .ok (.getfield 28, 3) := by decide +kernel
theorem dX3_rank_18 : decode cX3_rank 18 = .ok (.iload_n 1, 1) := by decide +kernel
theorem dX3_rank_19 : decode cX3_rank 19 = .ok (.aaload, 1) := by decide +kernel
theorem dX3_rank_20 : decode cX3_rank 20 = .ok (.iload_n 3, 1) := by decide +kernel
theorem dX3_rank_21 : decode cX3_rank 21 = .ok (.iconst 1, 1) := by decide +kernel
theorem dX3_rank_22 : decode cX3_rank 22 = .ok (.isub, 1) := by decide +kernel
theorem dX3_rank_23 : decode cX3_rank 23 = .ok (.iaload, 1) := by decide +kernel
theorem dX3_rank_24 : decode cX3_rank 24 = .ok (.invokevirtual 93, 3) := by decide +kernel
theorem dX3_rank_27 : decode cX3_rank 27 = .ok (.ifCond .eq 27, 3) := by decide +kernel
theorem dX3_rank_30 : decode cX3_rank 30 = .ok (.aload_n 0, 1) := by decide +kernel
theorem dX3_rank_31 : decode cX3_rank 31 = .ok (.getfield 28, 3) := by decide +kernel
theorem dX3_rank_34 : decode cX3_rank 34 = .ok (.iload_n 1, 1) := by decide +kernel
theorem dX3_rank_35 : decode cX3_rank 35 = .ok (.aaload, 1) := by decide +kernel
theorem dX3_rank_36 : decode cX3_rank 36 = .ok (.iload_n 3, 1) := by decide +kernel
theorem dX3_rank_37 : decode cX3_rank 37 = .ok (.aload_n 0, 1) := by decide +kernel
theorem dX3_rank_38 : decode cX3_rank 38 = .ok (.getfield 28, 3) := by decide +kernel
theorem dX3_rank_41 : decode cX3_rank 41 = .ok (.iload_n 1, 1) := by decide +kernel
theorem dX3_rank_42 : decode cX3_rank 42 = .ok (.aaload, 1) := by decide +kernel
theorem dX3_rank_43 : decode cX3_rank 43 = .ok (.iload_n 3, 1) := by decide +kernel
theorem dX3_rank_44 : decode cX3_rank 44 = .ok (.iconst 1, 1) := by decide +kernel
theorem dX3_rank_45 : decode cX3_rank 45 = .ok (.isub, 1) := by decide +kernel
theorem dX3_rank_46 : decode cX3_rank 46 = .ok (.iaload, 1) := by decide +kernel
theorem dX3_rank_47 : decode cX3_rank 47 = .ok (.iastore, 1) := by decide +kernel
theorem dX3_rank_48 : decode cX3_rank 48 = .ok (.iinc 3 (-1), 3) := by decide +kernel
theorem dX3_rank_51 : decode cX3_rank 51 = .ok (.goto (-44), 3) := by decide +kernel
theorem dX3_rank_54 : decode cX3_rank 54 = .ok (.aload_n 0, 1) := by decide +kernel
theorem dX3_rank_55 : decode cX3_rank 55 = .ok (.getfield 28, 3) := by decide +kernel
theorem dX3_rank_58 : decode cX3_rank 58 = .ok (.iload_n 1, 1) := by decide +kernel
theorem dX3_rank_59 : decode cX3_rank 59 = .ok (.aaload, 1) := by decide +kernel
theorem dX3_rank_60 : decode cX3_rank 60 = .ok (.iload_n 3, 1) := by decide +kernel
theorem dX3_rank_61 : decode cX3_rank 61 = .ok (.iload_n 2, 1) := by decide +kernel
theorem dX3_rank_62 : decode cX3_rank 62 = .ok (.iastore, 1) := by decide +kernel
theorem dX3_rank_63 : decode cX3_rank 63 = .ok (.aload_n 0, 1) := by decide +kernel
theorem dX3_rank_64 : decode cX3_rank 64 = .ok (.getfield 31, 3) := by decide +kernel
theorem dX3_rank_67 : decode cX3_rank 67 = .ok (.iload_n 1, 1) := by decide +kernel
theorem dX3_rank_68 : decode cX3_rank 68 = .ok (.dup2, 1) := by decide +kernel
theorem dX3_rank_69 : decode cX3_rank 69 = .ok (.iaload, 1) := by decide +kernel
theorem dX3_rank_70 : decode cX3_rank 70 = .ok (.iconst 1, 1) := by decide +kernel
theorem dX3_rank_71 : decode cX3_rank 71 = .ok (.iadd, 1) := by decide +kernel
theorem dX3_rank_72 : decode cX3_rank 72 = .ok (.iastore, 1) := by decide +kernel
theorem dX3_rank_73 : decode cX3_rank 73 = .ok (.return_, 1) := by decide +kernel
theorem dX3_isAhead_0 : decode cX3_isAhead 0 = .ok (.aload_n 0, 1) := by decide +kernel
theorem dX3_isAhead_1 : decode cX3_isAhead 1 = .ok (.getfield 25, 3) := by decide +kernel
theorem dX3_isAhead_4 : decode cX3_isAhead 4 = .ok (.iload_n 1, 1) := by decide +kernel
theorem dX3_isAhead_5 : decode cX3_isAhead 5 = .ok (.aaload, 1) := by decide +kernel
theorem dX3_isAhead_6 : decode cX3_isAhead 6 = .ok (.iload_n 2, 1) := by decide +kernel
theorem dX3_isAhead_7 : decode cX3_isAhead 7 = .ok (.iaload, 1) := by decide +kernel
theorem dX3_isAhead_8 : decode cX3_isAhead 8 = .ok (.aload_n 0, 1) := by decide +kernel
theorem dX3_isAhead_9 : decode cX3_isAhead 9 = .ok (.getfield 25, 3) := by decide +kernel
theorem dX3_isAhead_12 : decode cX3_isAhead 12 = .ok (.iload_n 1, 1) := by decide +kernel
theorem dX3_isAhead_13 : decode cX3_isAhead 13 = .ok (.aaload, 1) := by decide +kernel
theorem dX3_isAhead_14 : decode cX3_isAhead 14 = .ok (.iload_n 3, 1) := by decide +kernel
theorem dX3_isAhead_15 : decode cX3_isAhead 15 = .ok (.iaload, 1) := by decide +kernel
theorem dX3_isAhead_16 : decode cX3_isAhead 16 = .ok (.if_icmp .lt 27, 3) := by decide +kernel
theorem dX3_isAhead_19 : decode cX3_isAhead 19 = .ok (.aload_n 0, 1) := by decide +kernel
theorem dX3_isAhead_20 : decode cX3_isAhead 20 = .ok (.getfield 25, 3) := by decide +kernel
theorem dX3_isAhead_23 : decode cX3_isAhead 23 = .ok (.iload_n 1, 1) := by decide +kernel
theorem dX3_isAhead_24 : decode cX3_isAhead 24 = .ok (.aaload, 1) := by decide +kernel
theorem dX3_isAhead_25 : decode cX3_isAhead 25 = .ok (.iload_n 2, 1) := by decide +kernel
theorem dX3_isAhead_26 : decode cX3_isAhead 26 = .ok (.iaload, 1) := by decide +kernel
theorem dX3_isAhead_27 : decode cX3_isAhead 27 = .ok (.aload_n 0, 1) := by decide +kernel
theorem dX3_isAhead_28 : decode cX3_isAhead 28 = .ok (.getfield 25, 3) := by decide +kernel
theorem dX3_isAhead_31 : decode cX3_isAhead 31 = .ok (.iload_n 1, 1) := by decide +kernel
theorem dX3_isAhead_32 : decode cX3_isAhead 32 = .ok (.aaload, 1) := by decide +kernel
theorem dX3_isAhead_33 : decode cX3_isAhead 33 = .ok (.iload_n 3, 1) := by decide +kernel
theorem dX3_isAhead_34 : decode cX3_isAhead 34 = .ok (.iaload, 1) := by decide +kernel
theorem dX3_isAhead_35 : decode cX3_isAhead 35 = .ok (.if_icmp .ne 12, 3) := by decide +kernel
theorem dX3_isAhead_38 : decode cX3_isAhead 38 = .ok (.iload_n 2, 1) := by decide +kernel
theorem dX3_isAhead_39 : decode cX3_isAhead 39 = .ok (.iload_n 3, 1) := by decide +kernel
theorem dX3_isAhead_40 : decode cX3_isAhead 40 = .ok (.if_icmp .ge 7, 3) := by decide +kernel
theorem dX3_isAhead_43 : decode cX3_isAhead 43 = .ok (.iconst 1, 1) := by decide +kernel
theorem dX3_isAhead_44 : decode cX3_isAhead 44 = .ok (.goto 4, 3) := by decide +kernel
theorem dX3_isAhead_47 : decode cX3_isAhead 47 = .ok (.iconst 0, 1) := by decide +kernel
theorem dX3_isAhead_48 : decode cX3_isAhead 48 = .ok (.ireturn, 1) := by decide +kernel
theorem dX3_tellPlaces_0 : decode cX3_tellPlaces 0 = .ok (.iconst 0, 1) := by decide +kernel
theorem dX3_tellPlaces_1 : decode cX3_tellPlaces 1 = .ok (.istore_n 2, 1) := by decide +kernel
theorem dX3_tellPlaces_2 : decode cX3_tellPlaces 2 = .ok (.iload_n 2, 1) := by decide +kernel
theorem dX3_tellPlaces_3 : decode cX3_tellPlaces 3 = .ok (.aload_n 0, 1) := by decide +kernel
theorem dX3_tellPlaces_4 : decode cX3_tellPlaces 4 = .ok (.getfield 31, 3) := by decide +kernel
theorem dX3_tellPlaces_7 : decode cX3_tellPlaces 7 = .ok (.iload_n 1, 1) := by decide +kernel
theorem dX3_tellPlaces_8 : decode cX3_tellPlaces 8 = .ok (.iaload, 1) := by decide +kernel
theorem dX3_tellPlaces_9 : decode cX3_tellPlaces 9 = .ok (.if_icmp .ge 25, 3) := by decide +kernel
theorem dX3_tellPlaces_12 : decode cX3_tellPlaces 12 = .ok (.aload_n 0, 1) := by decide +kernel
theorem dX3_tellPlaces_13 : decode cX3_tellPlaces 13 = .ok (.getfield 22, 3) := by decide +kernel
theorem dX3_tellPlaces_16 : decode cX3_tellPlaces 16 = .ok (.iload_n 1, 1) := by decide +kernel
theorem dX3_tellPlaces_17 : decode cX3_tellPlaces 17 = .ok (.aaload, 1) := by decide +kernel
theorem dX3_tellPlaces_18 : decode cX3_tellPlaces 18 = .ok (.aload_n 0, 1) := by decide +kernel
theorem dX3_tellPlaces_19 : decode cX3_tellPlaces 19 = .ok (.getfield 28, 3) := by decide +kernel
theorem dX3_tellPlaces_22 : decode cX3_tellPlaces 22 = .ok (.iload_n 1, 1) := by decide +kernel
theorem dX3_tellPlaces_23 : decode cX3_tellPlaces 23 = .ok (.aaload, 1) := by decide +kernel
theorem dX3_tellPlaces_24 : decode cX3_tellPlaces 24 = .ok (.iload_n 2, 1) := by decide +kernel
theorem dX3_tellPlaces_25 : decode cX3_tellPlaces 25 = .ok (.iaload, 1) := by decide +kernel
theorem dX3_tellPlaces_26 : decode cX3_tellPlaces 26 = .ok (.iload_n 2, 1) := by decide +kernel
theorem dX3_tellPlaces_27 : decode cX3_tellPlaces 27 = .ok (.iastore, 1) := by decide +kernel
theorem dX3_tellPlaces_28 : decode cX3_tellPlaces 28 = .ok (.iinc 2 1, 3) := by decide +kernel
theorem dX3_tellPlaces_31 : decode cX3_tellPlaces 31 = .ok (.goto (-29), 3) := by decide +kernel
theorem dX3_tellPlaces_34 : decode cX3_tellPlaces 34 = .ok (.return_, 1) := by decide +kernel
theorem dX3_timeFor_0 : decode cX3_timeFor 0 = .ok (.lconst 0, 1) := by decide +kernel
theorem dX3_timeFor_1 : decode cX3_timeFor 1 = .ok (.lstore 4, 2) := by decide +kernel
theorem dX3_timeFor_3 : decode cX3_timeFor 3 = .ok (.lconst 1, 1) := by decide +kernel
theorem dX3_timeFor_4 : decode cX3_timeFor 4 = .ok (.lstore 6, 2) := by decide +kernel
theorem dX3_timeFor_6 : decode cX3_timeFor 6 = .ok (.iload_n 1, 1) := by decide +kernel
theorem dX3_timeFor_7 : decode cX3_timeFor 7 = .ok (.istore 8, 2) := by decide +kernel
theorem dX3_timeFor_9 : decode cX3_timeFor 9 = .ok (.iconst 0, 1) := by decide +kernel
theorem dX3_timeFor_10 : decode cX3_timeFor 10 = .ok (.istore 9, 2) := by decide +kernel
theorem dX3_timeFor_12 : decode cX3_timeFor 12 = .ok (.iload 9, 2) := by decide +kernel
theorem dX3_timeFor_14 : decode cX3_timeFor 14 = .ok (.aload_n 2, 1) := by decide +kernel
theorem dX3_timeFor_15 : decode cX3_timeFor 15 = .ok (.getfield 97, 3) := by decide +kernel
theorem dX3_timeFor_18 : decode cX3_timeFor 18 = .ok (.iload_n 3, 1) := by decide +kernel
theorem dX3_timeFor_19 : decode cX3_timeFor 19 = .ok (.iaload, 1) := by decide +kernel
theorem dX3_timeFor_20 : decode cX3_timeFor 20 = .ok (.if_icmp .ge 93, 3) := by decide +kernel
theorem dX3_timeFor_23 : decode cX3_timeFor 23 = .ok (.iload 9, 2) := by decide +kernel
theorem dX3_timeFor_25 : decode cX3_timeFor 25 = .ok (.iconst 4, 1) := by decide +kernel
theorem dX3_timeFor_26 : decode cX3_timeFor 26 = .ok (.if_icmp .ge 87, 3) := by decide +kernel
theorem dX3_timeFor_29 : decode cX3_timeFor 29 = .ok (.aload_n 2, 1) := by decide +kernel
theorem dX3_timeFor_30 : decode cX3_timeFor 30 = .ok (.getfield 102, 3) := by decide +kernel
theorem dX3_timeFor_33 : decode cX3_timeFor 33 = .ok (.iload_n 3, 1) := by decide +kernel
theorem dX3_timeFor_34 : decode cX3_timeFor 34 = .ok (.aaload, 1) := by decide +kernel
theorem dX3_timeFor_35 : decode cX3_timeFor 35 = .ok (.iload 9, 2) := by decide +kernel
theorem dX3_timeFor_37 : decode cX3_timeFor 37 = .ok (.iaload, 1) := by decide +kernel
theorem dX3_timeFor_38 : decode cX3_timeFor 38 = .ok (.iload_n 1, 1) := by decide +kernel
theorem dX3_timeFor_39 : decode cX3_timeFor 39 = .ok (.invokestatic 80, 3) := by decide +kernel
theorem dX3_timeFor_42 : decode cX3_timeFor 42 = .ok (.aload_n 2, 1) := by decide +kernel
theorem dX3_timeFor_43 : decode cX3_timeFor 43 = .ok (.getfield 105, 3) := by decide +kernel
theorem dX3_timeFor_46 : decode cX3_timeFor 46 = .ok (.iload_n 3, 1) := by decide +kernel
theorem dX3_timeFor_47 : decode cX3_timeFor 47 = .ok (.aaload, 1) := by decide +kernel
theorem dX3_timeFor_48 : decode cX3_timeFor 48 = .ok (.iload 9, 2) := by decide +kernel
theorem dX3_timeFor_50 : decode cX3_timeFor 50 = .ok (.iaload, 1) := by decide +kernel
theorem dX3_timeFor_51 : decode cX3_timeFor 51 = .ok (.iload_n 1, 1) := by decide +kernel
theorem dX3_timeFor_52 : decode cX3_timeFor 52 = .ok (.invokestatic 80, 3) := by decide +kernel
theorem dX3_timeFor_55 : decode cX3_timeFor 55 = .ok (.isub, 1) := by decide +kernel
theorem dX3_timeFor_56 : decode cX3_timeFor 56 = .ok (.istore 10, 2) := by decide +kernel
theorem dX3_timeFor_58 : decode cX3_timeFor 58 = .ok (.iload_n 0, 1) := by decide +kernel
theorem dX3_timeFor_59 : decode cX3_timeFor 59 = .ok (.aload_n 2, 1) := by decide +kernel
theorem dX3_timeFor_60 : decode cX3_timeFor 60 = .ok (.getfield 108, 3) := by decide +kernel
theorem dX3_timeFor_63 : decode cX3_timeFor 63 = .ok (.iload_n 3, 1) := by decide +kernel
theorem dX3_timeFor_64 : decode cX3_timeFor 64 = .ok (.aaload, 1) := by decide +kernel
theorem dX3_timeFor_65 : decode cX3_timeFor 65 = .ok (.iload 9, 2) := by decide +kernel
theorem dX3_timeFor_67 : decode cX3_timeFor 67 = .ok (.iaload, 1) := by decide +kernel
theorem dX3_timeFor_68 : decode cX3_timeFor 68 = .ok (.invokestatic 80, 3) := by decide +kernel
theorem dX3_timeFor_71 : decode cX3_timeFor 71 = .ok (.istore 11, 2) := by decide +kernel
theorem dX3_timeFor_73 : decode cX3_timeFor 73 = .ok (.lload 4, 2) := by decide +kernel
theorem dX3_timeFor_75 : decode cX3_timeFor 75 = .ok (.iload 11, 2) := by decide +kernel
theorem dX3_timeFor_77 : decode cX3_timeFor 77 = .ok (.i2l, 1) := by decide +kernel
theorem dX3_timeFor_78 : decode cX3_timeFor 78 = .ok (.lmul, 1) := by decide +kernel
theorem dX3_timeFor_79 : decode cX3_timeFor 79 = .ok (.iload 10, 2) := by decide +kernel
theorem dX3_timeFor_81 : decode cX3_timeFor 81 = .ok (.i2l, 1) := by decide +kernel
theorem dX3_timeFor_82 : decode cX3_timeFor 82 = .ok (.ldc2_w 110, 3) := by decide +kernel
theorem dX3_timeFor_85 : decode cX3_timeFor 85 = .ok (.lmul, 1) := by decide +kernel
theorem dX3_timeFor_86 : decode cX3_timeFor 86 = .ok (.lload 6, 2) := by decide +kernel
theorem dX3_timeFor_88 : decode cX3_timeFor 88 = .ok (.lmul, 1) := by decide +kernel
theorem dX3_timeFor_89 : decode cX3_timeFor 89 = .ok (.ladd, 1) := by decide +kernel
theorem dX3_timeFor_90 : decode cX3_timeFor 90 = .ok (.lstore 4, 2) := by decide +kernel
theorem dX3_timeFor_92 : decode cX3_timeFor 92 = .ok (.lload 6, 2) := by decide +kernel
theorem dX3_timeFor_94 : decode cX3_timeFor 94 = .ok (.iload 11, 2) := by decide +kernel
theorem dX3_timeFor_96 : decode cX3_timeFor 96 = .ok (.i2l, 1) := by decide +kernel
theorem dX3_timeFor_97 : decode cX3_timeFor 97 = .ok (.lmul, 1) := by decide +kernel
theorem dX3_timeFor_98 : decode cX3_timeFor 98 = .ok (.lstore 6, 2) := by decide +kernel
theorem dX3_timeFor_100 : decode cX3_timeFor 100 = .ok (.iload 8, 2) := by decide +kernel
theorem dX3_timeFor_102 : decode cX3_timeFor 102 = .ok (.iload 10, 2) := by decide +kernel
theorem dX3_timeFor_104 : decode cX3_timeFor 104 = .ok (.isub, 1) := by decide +kernel
theorem dX3_timeFor_105 : decode cX3_timeFor 105 = .ok (.istore 8, 2) := by decide +kernel
theorem dX3_timeFor_107 : decode cX3_timeFor 107 = .ok (.iinc 9 1, 3) := by decide +kernel
theorem dX3_timeFor_110 : decode cX3_timeFor 110 = .ok (.goto (-98), 3) := by decide +kernel
theorem dX3_timeFor_113 : decode cX3_timeFor 113 = .ok (.lload 4, 2) := by decide +kernel
theorem dX3_timeFor_115 : decode cX3_timeFor 115 = .ok (.iload_n 0, 1) := by decide +kernel
theorem dX3_timeFor_116 : decode cX3_timeFor 116 = .ok (.i2l, 1) := by decide +kernel
theorem dX3_timeFor_117 : decode cX3_timeFor 117 = .ok (.lmul, 1) := by decide +kernel
theorem dX3_timeFor_118 : decode cX3_timeFor 118 = .ok (.iload 8, 2) := by decide +kernel
theorem dX3_timeFor_120 : decode cX3_timeFor 120 = .ok (.i2l, 1) := by decide +kernel
theorem dX3_timeFor_121 : decode cX3_timeFor 121 = .ok (.ldc2_w 110, 3) := by decide +kernel
theorem dX3_timeFor_124 : decode cX3_timeFor 124 = .ok (.lmul, 1) := by decide +kernel
theorem dX3_timeFor_125 : decode cX3_timeFor 125 = .ok (.lload 6, 2) := by decide +kernel
theorem dX3_timeFor_127 : decode cX3_timeFor 127 = .ok (.lmul, 1) := by decide +kernel
theorem dX3_timeFor_128 : decode cX3_timeFor 128 = .ok (.ladd, 1) := by decide +kernel
theorem dX3_timeFor_129 : decode cX3_timeFor 129 = .ok (.lstore 4, 2) := by decide +kernel
theorem dX3_timeFor_131 : decode cX3_timeFor 131 = .ok (.lload 4, 2) := by decide +kernel
theorem dX3_timeFor_133 : decode cX3_timeFor 133 = .ok (.lload 6, 2) := by decide +kernel
theorem dX3_timeFor_135 : decode cX3_timeFor 135 = .ok (.iload_n 0, 1) := by decide +kernel
theorem dX3_timeFor_136 : decode cX3_timeFor 136 = .ok (.i2l, 1) := by decide +kernel
theorem dX3_timeFor_137 : decode cX3_timeFor 137 = .ok (.lmul, 1) := by decide +kernel
theorem dX3_timeFor_138 : decode cX3_timeFor 138 = .ok (.invokestatic 112, 3) := by decide +kernel
theorem dX3_timeFor_141 : decode cX3_timeFor 141 = .ok (.ireturn, 1) := by decide +kernel
theorem dX4_init_0 : decode cX4_init 0 = .ok (.aload_n 0, 1) := by decide +kernel
theorem dX4_init_1 : decode cX4_init 1 = .ok (.invokespecial 3, 3) := by decide +kernel
theorem dX4_init_4 : decode cX4_init 4 = .ok (.aload_n 0, 1) := by decide +kernel
theorem dX4_init_5 : decode cX4_init 5 = .ok (.bipush 10, 2) := by decide +kernel
theorem dX4_init_7 : decode cX4_init 7 = .ok (.newarray .int, 2) := by decide +kernel
theorem dX4_init_9 : decode cX4_init 9 = .ok (.putfield 9, 3) := by decide +kernel
theorem dX4_init_12 : decode cX4_init 12 = .ok (.aload_n 0, 1) := by decide +kernel
theorem dX4_init_13 : decode cX4_init 13 = .ok (.bipush 10, 2) := by decide +kernel
theorem dX4_init_15 : decode cX4_init 15 = .ok (.newarray .int, 2) := by decide +kernel
theorem dX4_init_17 : decode cX4_init 17 = .ok (.putfield 15, 3) := by decide +kernel
theorem dX4_init_20 : decode cX4_init 20 = .ok (.aload_n 0, 1) := by decide +kernel
theorem dX4_init_21 : decode cX4_init 21 = .ok (.bipush 10, 2) := by decide +kernel
theorem dX4_init_23 : decode cX4_init 23 = .ok (.newarray .int, 2) := by decide +kernel
theorem dX4_init_25 : decode cX4_init 25 = .ok (.putfield 18, 3) := by decide +kernel
theorem dX4_init_28 : decode cX4_init 28 = .ok (.return_, 1) := by decide +kernel
theorem dX4_has_0 : decode cX4_has 0 = .ok (.iload_n 1, 1) := by decide +kernel
theorem dX4_has_1 : decode cX4_has 1 = .ok (.iconst 0, 1) := by decide +kernel
theorem dX4_has_2 : decode cX4_has 2 = .ok (.aload_n 0, 1) := by decide +kernel
theorem dX4_has_3 : decode cX4_has 3 = .ok (.getfield 21, 3) := by decide +kernel
theorem dX4_has_6 : decode cX4_has 6 = .ok (.iconst 1, 1) := by decide +kernel
theorem dX4_has_7 : decode cX4_has 7 = .ok (.isub, 1) := by decide +kernel
theorem dX4_has_8 : decode cX4_has 8 = .ok (.invokestatic 25, 3) := by decide +kernel
theorem dX4_has_11 : decode cX4_has 11 = .ok (.ireturn, 1) := by decide +kernel
theorem dX4_add_0 : decode cX4_add 0 = .ok (.aload_n 0, 1) := by decide +kernel
theorem dX4_add_1 : decode cX4_add 1 = .ok (.getfield 21, 3) := by decide +kernel
theorem dX4_add_4 : decode cX4_add 4 = .ok (.bipush 10, 2) := by decide +kernel
theorem dX4_add_6 : decode cX4_add 6 = .ok (.if_icmp .lt 5, 3) := by decide +kernel
theorem dX4_add_9 : decode cX4_add 9 = .ok (.iconst (-1), 1) := by decide +kernel
theorem dX4_add_10 : decode cX4_add 10 = .ok (.ireturn, 1) := by decide +kernel
theorem dX4_add_11 : decode cX4_add 11 = .ok (.aload_n 0, 1) := by decide +kernel
theorem dX4_add_12 : decode cX4_add 12 = .ok (.getfield 9, 3) := by decide +kernel
theorem dX4_add_15 : decode cX4_add 15 = .ok (.aload_n 0, 1) := by decide +kernel
theorem dX4_add_16 : decode cX4_add 16 = .ok (.getfield 21, 3) := by decide +kernel
theorem dX4_add_19 : decode cX4_add 19 = .ok (.iload_n 1, 1) := by decide +kernel
theorem dX4_add_20 : decode cX4_add 20 = .ok (.iastore, 1) := by decide +kernel
theorem dX4_add_21 : decode cX4_add 21 = .ok (.aload_n 0, 1) := by decide +kernel
theorem dX4_add_22 : decode cX4_add 22 = .ok (.getfield 15, 3) := by decide +kernel
theorem dX4_add_25 : decode cX4_add 25 = .ok (.aload_n 0, 1) := by decide +kernel
theorem dX4_add_26 : decode cX4_add 26 = .ok (.getfield 21, 3) := by decide +kernel
theorem dX4_add_29 : decode cX4_add 29 = .ok (.iconst (-1), 1) := by decide +kernel
theorem dX4_add_30 : decode cX4_add 30 = .ok (.iastore, 1) := by decide +kernel
theorem dX4_add_31 : decode cX4_add 31 = .ok (.aload_n 0, 1) := by decide +kernel
theorem dX4_add_32 : decode cX4_add 32 = .ok (.dup, 1) := by decide +kernel
theorem dX4_add_33 : decode cX4_add 33 = .ok (.getfield 21, 3) := by decide +kernel
theorem dX4_add_36 : decode cX4_add 36 = .ok (.iconst 1, 1) := by decide +kernel
theorem dX4_add_37 : decode cX4_add 37 = .ok (.iadd, 1) := by decide +kernel
theorem dX4_add_38 : decode cX4_add 38 = .ok (.putfield 21, 3) := by decide +kernel
theorem dX4_add_41 : decode cX4_add 41 = .ok (.aload_n 0, 1) := by decide +kernel
theorem dX4_add_42 : decode cX4_add 42 = .ok (.getfield 21, 3) := by decide +kernel
theorem dX4_add_45 : decode cX4_add 45 = .ok (.iconst 1, 1) := by decide +kernel
theorem dX4_add_46 : decode cX4_add 46 = .ok (.isub, 1) := by decide +kernel
theorem dX4_add_47 : decode cX4_add 47 = .ok (.ireturn, 1) := by decide +kernel
theorem dX4_forgetBreaksFrom_0 : decode cX4_forgetBreaksFrom 0 = .ok (.iconst 0, 1) := by decide +kernel
theorem dX4_forgetBreaksFrom_1 : decode cX4_forgetBreaksFrom 1 = .ok (.istore_n 3, 1) := by decide +kernel
theorem dX4_forgetBreaksFrom_2 : decode cX4_forgetBreaksFrom 2 = .ok (.iload_n 3, 1) := by decide +kernel
theorem dX4_forgetBreaksFrom_3 : decode cX4_forgetBreaksFrom 3 = .ok (.aload_n 0, 1) := by decide +kernel
theorem dX4_forgetBreaksFrom_4 : decode cX4_forgetBreaksFrom 4 = .ok (.getfield 21, 3) := by decide +kernel
theorem dX4_forgetBreaksFrom_7 : decode cX4_forgetBreaksFrom 7 = .ok (.if_icmp .ge 36, 3) := by decide +kernel
theorem dX4_forgetBreaksFrom_10 : decode cX4_forgetBreaksFrom 10 = .ok (.aload_n 0, 1) := by decide +kernel
theorem dX4_forgetBreaksFrom_11 : decode cX4_forgetBreaksFrom 11 = .ok (.getfield 15, 3) := by decide +kernel
theorem dX4_forgetBreaksFrom_14 : decode cX4_forgetBreaksFrom 14 = .ok (.iload_n 3, 1) := by decide +kernel
theorem dX4_forgetBreaksFrom_15 : decode cX4_forgetBreaksFrom 15 = .ok (.iaload, 1) := by decide +kernel
theorem dX4_forgetBreaksFrom_16 : decode cX4_forgetBreaksFrom 16 = .ok (.iload_n 1, 1) := by decide +kernel
theorem dX4_forgetBreaksFrom_17 : decode cX4_forgetBreaksFrom 17 = .ok (.if_icmp .ne 20, 3) := by decide +kernel
theorem dX4_forgetBreaksFrom_20 : decode cX4_forgetBreaksFrom 20 = .ok (.aload_n 0, 1) := by decide +kernel
theorem dX4_forgetBreaksFrom_21 : decode cX4_forgetBreaksFrom 21 = .ok (.getfield 18, 3) := by decide +kernel
theorem dX4_forgetBreaksFrom_24 : decode cX4_forgetBreaksFrom 24 = .ok (.iload_n 3, 1) := by decide +kernel
theorem dX4_forgetBreaksFrom_25 : decode cX4_forgetBreaksFrom 25 = .ok (.iaload, 1) := by decide +kernel
theorem dX4_forgetBreaksFrom_26 : decode cX4_forgetBreaksFrom 26 = .ok (.iload_n 2, 1) := by decide +kernel
theorem dX4_forgetBreaksFrom_27 : decode cX4_forgetBreaksFrom 27 = .ok (.if_icmp .lt 10, 3) := by decide +kernel
theorem dX4_forgetBreaksFrom_30 : decode cX4_forgetBreaksFrom 30 = .ok (.aload_n 0, 1) := by decide +kernel
theorem dX4_forgetBreaksFrom_31 : decode cX4_forgetBreaksFrom 31 = .ok (.getfield 15, 3) := by decide +kernel
theorem dX4_forgetBreaksFrom_34 : decode cX4_forgetBreaksFrom 34 = .ok (.iload_n 3, 1) := by decide +kernel
theorem dX4_forgetBreaksFrom_35 : decode cX4_forgetBreaksFrom 35 = .ok (.iconst (-1), 1) := by decide +kernel
theorem dX4_forgetBreaksFrom_36 : decode cX4_forgetBreaksFrom 36 = .ok (.iastore, 1) := by decide +kernel
theorem dX4_forgetBreaksFrom_37 : decode cX4_forgetBreaksFrom 37 = .ok (.iinc 3 1, 3) := by decide +kernel
theorem dX4_forgetBreaksFrom_40 : decode cX4_forgetBreaksFrom 40 = .ok (.goto (-38), 3) := by decide +kernel
theorem dX4_forgetBreaksFrom_43 : decode cX4_forgetBreaksFrom 43 = .ok (.return_, 1) := by decide +kernel
theorem dX5_init_0 : decode cX5_init 0 = .ok (.aload_n 0, 1) := by decide +kernel
theorem dX5_init_1 : decode cX5_init 1 = .ok (.invokespecial 3, 3) := by decide +kernel
theorem dX5_init_4 : decode cX5_init 4 = .ok (.aload_n 0, 1) := by decide +kernel
theorem dX5_init_5 : decode cX5_init 5 = .ok (.bipush 7, 2) := by decide +kernel
theorem dX5_init_7 : decode cX5_init 7 = .ok (.newarray .int, 2) := by decide +kernel
theorem dX5_init_9 : decode cX5_init 9 = .ok (.putfield 9, 3) := by decide +kernel
theorem dX5_init_12 : decode cX5_init 12 = .ok (.aload_n 0, 1) := by decide +kernel
theorem dX5_init_13 : decode cX5_init 13 = .ok (.bipush 7, 2) := by decide +kernel
theorem dX5_init_15 : decode cX5_init 15 = .ok (.iconst 4, 1) := by decide +kernel
theorem dX5_init_16 : decode cX5_init 16 = .ok (.multianewarray 15 2, 4) := by decide +kernel
theorem dX5_init_20 : decode cX5_init 20 = .ok (.putfield 17, 3) := by decide +kernel
theorem dX5_init_23 : decode cX5_init 23 = .ok (.aload_n 0, 1) := by decide +kernel
theorem dX5_init_24 : decode cX5_init 24 = .ok (.bipush 7, 2) := by decide +kernel
theorem dX5_init_26 : decode cX5_init 26 = .ok (.iconst 4, 1) := by decide +kernel
theorem dX5_init_27 : decode cX5_init 27 = .ok (.multianewarray 15 2, 4) := by decide +kernel
theorem dX5_init_31 : decode cX5_init 31 = .ok (.putfield 20, 3) := by decide +kernel
theorem dX5_init_34 : decode cX5_init 34 = .ok (.aload_n 0, 1) := by decide +kernel
theorem dX5_init_35 : decode cX5_init 35 = .ok (.bipush 7, 2) := by decide +kernel
theorem dX5_init_37 : decode cX5_init 37 = .ok (.iconst 4, 1) := by decide +kernel
theorem dX5_init_38 : decode cX5_init 38 = .ok (.multianewarray 15 2, 4) := by decide +kernel
theorem dX5_init_42 : decode cX5_init 42 = .ok (.putfield 23, 3) := by decide +kernel
theorem dX5_init_45 : decode cX5_init 45 = .ok (.return_, 1) := by decide +kernel
theorem dX5_clear_0 : decode cX5_clear 0 = .ok (.iconst 0, 1) := by decide +kernel
theorem dX5_clear_1 : decode cX5_clear 1 = .ok (.istore_n 1, 1) := by decide +kernel
theorem dX5_clear_2 : decode cX5_clear 2 = .ok (.iload_n 1, 1) := by decide +kernel
theorem dX5_clear_3 : decode cX5_clear 3 = .ok (.bipush 7, 2) := by decide +kernel
theorem dX5_clear_5 : decode cX5_clear 5 = .ok (.if_icmp .ge 16, 3) := by decide +kernel
theorem dX5_clear_8 : decode cX5_clear 8 = .ok (.aload_n 0, 1) := by decide +kernel
theorem dX5_clear_9 : decode cX5_clear 9 = .ok (.getfield 9, 3) := by decide +kernel
theorem dX5_clear_12 : decode cX5_clear 12 = .ok (.iload_n 1, 1) := by decide +kernel
theorem dX5_clear_13 : decode cX5_clear 13 = .ok (.iconst 0, 1) := by decide +kernel
theorem dX5_clear_14 : decode cX5_clear 14 = .ok (.iastore, 1) := by decide +kernel
theorem dX5_clear_15 : decode cX5_clear 15 = .ok (.iinc 1 1, 3) := by decide +kernel
theorem dX5_clear_18 : decode cX5_clear 18 = .ok (.goto (-16), 3) := by decide +kernel
theorem dX5_clear_21 : decode cX5_clear 21 = .ok (.aload_n 0, 1) := by decide +kernel
theorem dX5_clear_22 : decode cX5_clear 22 = .ok (.iconst 0, 1) := by decide +kernel
theorem dX5_clear_23 : decode cX5_clear 23 = .ok (.putfield 26, 3) := by decide +kernel
theorem dX5_clear_26 : decode cX5_clear 26 = .ok (.return_, 1) := by decide +kernel
theorem dX5_isFull_0 : decode cX5_isFull 0 = .ok (.iload_n 1, 1) := by decide +kernel
theorem dX5_isFull_1 : decode cX5_isFull 1 = .ok (.invokestatic 30, 3) := by decide +kernel
theorem dX5_isFull_4 : decode cX5_isFull 4 = .ok (.ifCond .eq 13, 3) := by decide +kernel
theorem dX5_isFull_7 : decode cX5_isFull 7 = .ok (.aload_n 0, 1) := by decide +kernel
theorem dX5_isFull_8 : decode cX5_isFull 8 = .ok (.getfield 9, 3) := by decide +kernel
theorem dX5_isFull_11 : decode cX5_isFull 11 = .ok (.iload_n 1, 1) := by decide +kernel
theorem dX5_isFull_12 : decode cX5_isFull 12 = .ok (.iaload, 1) := by decide +kernel
theorem dX5_isFull_13 : decode cX5_isFull 13 = .ok (.iconst 4, 1) := by decide +kernel
theorem dX5_isFull_14 : decode cX5_isFull 14 = .ok (.if_icmp .lt 7, 3) := by decide +kernel
theorem dX5_isFull_17 : decode cX5_isFull 17 = .ok (.iconst 1, 1) := by decide +kernel
theorem dX5_isFull_18 : decode cX5_isFull 18 = .ok (.goto 4, 3) := by decide +kernel
theorem dX5_isFull_21 : decode cX5_isFull 21 = .ok (.iconst 0, 1) := by decide +kernel
theorem dX5_isFull_22 : decode cX5_isFull 22 = .ok (.ireturn, 1) := by decide +kernel
theorem dX5_reach_0 : decode cX5_reach 0 = .ok (.iload_n 1, 1) := by decide +kernel
theorem dX5_reach_1 : decode cX5_reach 1 = .ok (.invokestatic 30, 3) := by decide +kernel
theorem dX5_reach_4 : decode cX5_reach 4 = .ok (.ifCond .eq 17, 3) := by decide +kernel
theorem dX5_reach_7 : decode cX5_reach 7 = .ok (.aload_n 0, 1) := by decide +kernel
theorem dX5_reach_8 : decode cX5_reach 8 = .ok (.getfield 9, 3) := by decide +kernel
theorem dX5_reach_11 : decode cX5_reach 11 = .ok (.iload_n 1, 1) := by decide +kernel
theorem dX5_reach_12 : decode cX5_reach 12 = .ok (.iaload, 1) := by decide +kernel
theorem dX5_reach_13 : decode cX5_reach 13 = .ok (.iconst 1, 1) := by decide +kernel
theorem dX5_reach_14 : decode cX5_reach 14 = .ok (.iconst 4, 1) := by decide +kernel
theorem dX5_reach_15 : decode cX5_reach 15 = .ok (.invokestatic 34, 3) := by decide +kernel
theorem dX5_reach_18 : decode cX5_reach 18 = .ok (.ifCond .ne 5, 3) := by decide +kernel
theorem dX5_reach_21 : decode cX5_reach 21 = .ok (.iconst 0, 1) := by decide +kernel
theorem dX5_reach_22 : decode cX5_reach 22 = .ok (.ireturn, 1) := by decide +kernel
theorem dX5_reach_23 : decode cX5_reach 23 = .ok (.aload_n 0, 1) := by decide +kernel
theorem dX5_reach_24 : decode cX5_reach 24 = .ok (.getfield 20, 3) := by decide +kernel
theorem dX5_reach_27 : decode cX5_reach 27 = .ok (.iload_n 1, 1) := by decide +kernel
theorem dX5_reach_28 : decode cX5_reach 28 = .ok (.aaload, 1) := by decide +kernel
theorem dX5_reach_29 : decode cX5_reach 29 = .ok (.aload_n 0, 1) := by decide +kernel
theorem dX5_reach_30 : decode cX5_reach 30 = .ok (.getfield 9, 3) := by decide +kernel
theorem dX5_reach_33 : decode cX5_reach 33 = .ok (.iload_n 1, 1) := by decide +kernel
theorem dX5_reach_34 : decode cX5_reach 34 = .ok (.iaload, 1) := by decide +kernel
theorem dX5_reach_35 : decode cX5_reach 35 = .ok (.iconst 1, 1) := by decide +kernel
theorem dX5_reach_36 : decode cX5_reach 36 = .ok (.isub, 1) := by decide +kernel
theorem dX5_reach_37 : decode cX5_reach 37 = .ok (.iaload, 1) := by decide +kernel
theorem dX5_reach_38 : decode cX5_reach 38 = .ok (.ireturn, 1) := by decide +kernel
theorem dX5_add_0 : decode cX5_add 0 = .ok (.aload_n 0, 1) := by decide +kernel
theorem dX5_add_1 : decode cX5_add 1 = .ok (.iload_n 1, 1) := by decide +kernel
theorem dX5_add_2 : decode cX5_add 2 = .ok (.invokevirtual 38, 3) := by decide +kernel
theorem dX5_add_5 : decode cX5_add 5 = .ok (.ifCond .eq 4, 3) := by decide +kernel
theorem dX5_add_8 : decode cX5_add 8 = .ok (.return_, 1) := by decide +kernel
theorem dX5_add_9 : decode cX5_add 9 = .ok (.aload_n 0, 1) := by decide +kernel
theorem dX5_add_10 : decode cX5_add 10 = .ok (.getfield 9, 3) := by decide +kernel
theorem dX5_add_13 : decode cX5_add 13 = .ok (.iload_n 1, 1) := by decide +kernel
theorem dX5_add_14 : decode cX5_add 14 = .ok (.iaload, 1) := by decide +kernel
theorem dX5_add_15 : decode cX5_add 15 = .ok (.istore 5, 2) := by decide +kernel
theorem dX5_add_17 : decode cX5_add 17 = .ok (.aload_n 0, 1) := by decide +kernel
theorem dX5_add_18 : decode cX5_add 18 = .ok (.getfield 17, 3) := by decide +kernel
theorem dX5_add_21 : decode cX5_add 21 = .ok (.iload_n 1, 1) := by decide +kernel
theorem dX5_add_22 : decode cX5_add 22 = .ok (.aaload, 1) := by decide +kernel
theorem dX5_add_23 : decode cX5_add 23 = .ok (.iload 5, 2) := by decide +kernel
theorem dX5_add_25 : decode cX5_add 25 = .ok (.iload_n 2, 1) := by decide +kernel
theorem dX5_add_26 : decode cX5_add 26 = .ok (.iastore, 1) := by decide +kernel
theorem dX5_add_27 : decode cX5_add 27 = .ok (.aload_n 0, 1) := by decide +kernel
theorem dX5_add_28 : decode cX5_add 28 = .ok (.getfield 20, 3) := by decide +kernel
theorem dX5_add_31 : decode cX5_add 31 = .ok (.iload_n 1, 1) := by decide +kernel
theorem dX5_add_32 : decode cX5_add 32 = .ok (.aaload, 1) := by decide +kernel
theorem dX5_add_33 : decode cX5_add 33 = .ok (.iload 5, 2) := by decide +kernel
theorem dX5_add_35 : decode cX5_add 35 = .ok (.iload_n 3, 1) := by decide +kernel
theorem dX5_add_36 : decode cX5_add 36 = .ok (.iastore, 1) := by decide +kernel
theorem dX5_add_37 : decode cX5_add 37 = .ok (.aload_n 0, 1) := by decide +kernel
theorem dX5_add_38 : decode cX5_add 38 = .ok (.getfield 23, 3) := by decide +kernel
theorem dX5_add_41 : decode cX5_add 41 = .ok (.iload_n 1, 1) := by decide +kernel
theorem dX5_add_42 : decode cX5_add 42 = .ok (.aaload, 1) := by decide +kernel
theorem dX5_add_43 : decode cX5_add 43 = .ok (.iload 5, 2) := by decide +kernel
theorem dX5_add_45 : decode cX5_add 45 = .ok (.iload 4, 2) := by decide +kernel
theorem dX5_add_47 : decode cX5_add 47 = .ok (.iastore, 1) := by decide +kernel
theorem dX5_add_48 : decode cX5_add 48 = .ok (.aload_n 0, 1) := by decide +kernel
theorem dX5_add_49 : decode cX5_add 49 = .ok (.getfield 9, 3) := by decide +kernel
theorem dX5_add_52 : decode cX5_add 52 = .ok (.iload_n 1, 1) := by decide +kernel
theorem dX5_add_53 : decode cX5_add 53 = .ok (.dup2, 1) := by decide +kernel
theorem dX5_add_54 : decode cX5_add 54 = .ok (.iaload, 1) := by decide +kernel
theorem dX5_add_55 : decode cX5_add 55 = .ok (.iconst 1, 1) := by decide +kernel
theorem dX5_add_56 : decode cX5_add 56 = .ok (.iadd, 1) := by decide +kernel
theorem dX5_add_57 : decode cX5_add 57 = .ok (.iastore, 1) := by decide +kernel
theorem dX5_add_58 : decode cX5_add 58 = .ok (.aload_n 0, 1) := by decide +kernel
theorem dX5_add_59 : decode cX5_add 59 = .ok (.dup, 1) := by decide +kernel
theorem dX5_add_60 : decode cX5_add 60 = .ok (.getfield 26, 3) := by decide +kernel
theorem dX5_add_63 : decode cX5_add 63 = .ok (.iconst 1, 1) := by decide +kernel
theorem dX5_add_64 : decode cX5_add 64 = .ok (.iadd, 1) := by decide +kernel
theorem dX5_add_65 : decode cX5_add 65 = .ok (.putfield 26, 3) := by decide +kernel
theorem dX5_add_68 : decode cX5_add 68 = .ok (.return_, 1) := by decide +kernel
theorem dX6_init_0 : decode cX6_init 0 = .ok (.aload_n 0, 1) := by decide +kernel
theorem dX6_init_1 : decode cX6_init 1 = .ok (.invokespecial 3, 3) := by decide +kernel
theorem dX6_init_4 : decode cX6_init 4 = .ok (.aload_n 0, 1) := by decide +kernel
theorem dX6_init_5 : decode cX6_init 5 = .ok (.sipush 600, 3) := by decide +kernel
theorem dX6_init_8 : decode cX6_init 8 = .ok (.newarray .byte, 2) := by decide +kernel
theorem dX6_init_10 : decode cX6_init 10 = .ok (.putfield 9, 3) := by decide +kernel
theorem dX6_init_13 : decode cX6_init 13 = .ok (.return_, 1) := by decide +kernel
theorem dX6_append_0 : decode cX6_append 0 = .ok (.bipush 24, 2) := by decide +kernel
theorem dX6_append_2 : decode cX6_append 2 = .ok (.istore_n 2, 1) := by decide +kernel
theorem dX6_append_3 : decode cX6_append 3 = .ok (.iload_n 2, 1) := by decide +kernel
theorem dX6_append_4 : decode cX6_append 4 = .ok (.ifCond .lt 42, 3) := by decide +kernel
theorem dX6_append_7 : decode cX6_append 7 = .ok (.aload_n 0, 1) := by decide +kernel
theorem dX6_append_8 : decode cX6_append 8 = .ok (.getfield 15, 3) := by decide +kernel
theorem dX6_append_11 : decode cX6_append 11 = .ok (.sipush 600, 3) := by decide +kernel
theorem dX6_append_14 : decode cX6_append 14 = .ok (.if_icmp .ge 32, 3) := by decide +kernel
theorem dX6_append_17 : decode cX6_append 17 = .ok (.aload_n 0, 1) := by decide +kernel
theorem dX6_append_18 : decode cX6_append 18 = .ok (.getfield 9, 3) := by decide +kernel
theorem dX6_append_21 : decode cX6_append 21 = .ok (.aload_n 0, 1) := by decide +kernel
theorem dX6_append_22 : decode cX6_append 22 = .ok (.getfield 15, 3) := by decide +kernel
theorem dX6_append_25 : decode cX6_append 25 = .ok (.iload_n 1, 1) := by decide +kernel
theorem dX6_append_26 : decode cX6_append 26 = .ok (.iload_n 2, 1) := by decide +kernel
theorem dX6_append_27 : decode cX6_append 27 = .ok (.ishr, 1) := by decide +kernel
theorem dX6_append_28 : decode cX6_append 28 = .ok (.i2b, 1) := by decide +kernel
theorem dX6_append_29 : decode cX6_append 29 = .ok (.bastore, 1) := by decide +kernel
theorem dX6_append_30 : decode cX6_append 30 = .ok (.aload_n 0, 1) := by decide +kernel
theorem dX6_append_31 : decode cX6_append 31 = .ok (.dup, 1) := by decide +kernel
theorem dX6_append_32 : decode cX6_append 32 = .ok (.getfield 15, 3) := by decide +kernel
theorem dX6_append_35 : decode cX6_append 35 = .ok (.iconst 1, 1) := by decide +kernel
theorem dX6_append_36 : decode cX6_append 36 = .ok (.iadd, 1) := by decide +kernel
theorem dX6_append_37 : decode cX6_append 37 = .ok (.putfield 15, 3) := by decide +kernel
theorem dX6_append_40 : decode cX6_append 40 = .ok (.iinc 2 (-8), 3) := by decide +kernel
theorem dX6_append_43 : decode cX6_append 43 = .ok (.goto (-40), 3) := by decide +kernel
theorem dX6_append_46 : decode cX6_append 46 = .ok (.return_, 1) := by decide +kernel
theorem dX6_byteAt_0 : decode cX6_byteAt 0 = .ok (.iload_n 1, 1) := by decide +kernel
theorem dX6_byteAt_1 : decode cX6_byteAt 1 = .ok (.iconst 0, 1) := by decide +kernel
theorem dX6_byteAt_2 : decode cX6_byteAt 2 = .ok (.aload_n 0, 1) := by decide +kernel
theorem dX6_byteAt_3 : decode cX6_byteAt 3 = .ok (.getfield 15, 3) := by decide +kernel
theorem dX6_byteAt_6 : decode cX6_byteAt 6 = .ok (.iconst 1, 1) := by decide +kernel
theorem dX6_byteAt_7 : decode cX6_byteAt 7 = .ok (.isub, 1) := by decide +kernel
theorem dX6_byteAt_8 : decode cX6_byteAt 8 = .ok (.invokestatic 19, 3) := by decide +kernel
theorem dX6_byteAt_11 : decode cX6_byteAt 11 = .ok (.ifCond .eq 16, 3) := by decide +kernel
theorem dX6_byteAt_14 : decode cX6_byteAt 14 = .ok (.aload_n 0, 1) := by decide +kernel
theorem dX6_byteAt_15 : decode cX6_byteAt 15 = .ok (.getfield 9, 3) := by decide +kernel
theorem dX6_byteAt_18 : decode cX6_byteAt 18 = .ok (.iload_n 1, 1) := by decide +kernel
theorem dX6_byteAt_19 : decode cX6_byteAt 19 = .ok (.baload, 1) := by decide +kernel
theorem dX6_byteAt_20 : decode cX6_byteAt 20 = .ok (.sipush 255, 3) := by decide +kernel
theorem dX6_byteAt_23 : decode cX6_byteAt 23 = .ok (.iand, 1) := by decide +kernel
theorem dX6_byteAt_24 : decode cX6_byteAt 24 = .ok (.goto 4, 3) := by decide +kernel
theorem dX6_byteAt_27 : decode cX6_byteAt 27 = .ok (.iconst (-1), 1) := by decide +kernel
theorem dX6_byteAt_28 : decode cX6_byteAt 28 = .ok (.ireturn, 1) := by decide +kernel
theorem dX7_init_0 : decode cX7_init 0 = .ok (.aload_n 0, 1) := by decide +kernel
theorem dX7_init_1 : decode cX7_init 1 = .ok (.invokespecial 3, 3) := by decide +kernel
theorem dX7_init_4 : decode cX7_init 4 = .ok (.aload_n 0, 1) := by decide +kernel
theorem dX7_init_5 : decode cX7_init 5 = .ok (.new 9, 3) := by decide +kernel
theorem dX7_init_8 : decode cX7_init 8 = .ok (.dup, 1) := by decide +kernel
theorem dX7_init_9 : decode cX7_init 9 = .ok (.invokespecial 11, 3) := by decide +kernel
theorem dX7_init_12 : decode cX7_init 12 = .ok (.putfield 12, 3) := by decide +kernel
theorem dX7_init_15 : decode cX7_init 15 = .ok (.aload_n 0, 1) := by decide +kernel
theorem dX7_init_16 : decode cX7_init 16 = .ok (.new 16, 3) := by decide +kernel
theorem dX7_init_19 : decode cX7_init 19 = .ok (.dup, 1) := by decide +kernel
theorem dX7_init_20 : decode cX7_init 20 = .ok (.invokespecial 18, 3) := by decide +kernel
theorem dX7_init_23 : decode cX7_init 23 = .ok (.putfield 19, 3) := by decide +kernel
theorem dX7_init_26 : decode cX7_init 26 = .ok (.aload_n 0, 1) := by decide +kernel
theorem dX7_init_27 : decode cX7_init 27 = .ok (.new 23, 3) := by decide +kernel
theorem dX7_init_30 : decode cX7_init 30 = .ok (.dup, 1) := by decide +kernel
theorem dX7_init_31 : decode cX7_init 31 = .ok (.invokespecial 25, 3) := by decide +kernel
theorem dX7_init_34 : decode cX7_init 34 = .ok (.putfield 26, 3) := by decide +kernel
theorem dX7_init_37 : decode cX7_init 37 = .ok (.aload_n 0, 1) := by decide +kernel
theorem dX7_init_38 : decode cX7_init 38 = .ok (.new 30, 3) := by decide +kernel
theorem dX7_init_41 : decode cX7_init 41 = .ok (.dup, 1) := by decide +kernel
theorem dX7_init_42 : decode cX7_init 42 = .ok (.invokespecial 32, 3) := by decide +kernel
theorem dX7_init_45 : decode cX7_init 45 = .ok (.putfield 33, 3) := by decide +kernel
theorem dX7_init_48 : decode cX7_init 48 = .ok (.aload_n 0, 1) := by decide +kernel
theorem dX7_init_49 : decode cX7_init 49 = .ok (.new 37, 3) := by decide +kernel
theorem dX7_init_52 : decode cX7_init 52 = .ok (.dup, 1) := by decide +kernel
theorem dX7_init_53 : decode cX7_init 53 = .ok (.invokespecial 39, 3) := by decide +kernel
theorem dX7_init_56 : decode cX7_init 56 = .ok (.putfield 40, 3) := by decide +kernel
theorem dX7_init_59 : decode cX7_init 59 = .ok (.aload_n 0, 1) := by decide +kernel
theorem dX7_init_60 : decode cX7_init 60 = .ok (.new 44, 3) := by decide +kernel
theorem dX7_init_63 : decode cX7_init 63 = .ok (.dup, 1) := by decide +kernel
theorem dX7_init_64 : decode cX7_init 64 = .ok (.invokespecial 46, 3) := by decide +kernel
theorem dX7_init_67 : decode cX7_init 67 = .ok (.putfield 47, 3) := by decide +kernel
theorem dX7_init_70 : decode cX7_init 70 = .ok (.aload_n 0, 1) := by decide +kernel
theorem dX7_init_71 : decode cX7_init 71 = .ok (.iconst 5, 1) := by decide +kernel
theorem dX7_init_72 : decode cX7_init 72 = .ok (.newarray .int, 2) := by decide +kernel
theorem dX7_init_74 : decode cX7_init 74 = .ok (.dup, 1) := by decide +kernel
theorem dX7_init_75 : decode cX7_init 75 = .ok (.iconst 0, 1) := by decide +kernel
theorem dX7_init_76 : decode cX7_init 76 = .ok (.bipush 60, 2) := by decide +kernel
theorem dX7_init_78 : decode cX7_init 78 = .ok (.iastore, 1) := by decide +kernel
theorem dX7_init_79 : decode cX7_init 79 = .ok (.dup, 1) := by decide +kernel
theorem dX7_init_80 : decode cX7_init 80 = .ok (.iconst 1, 1) := by decide +kernel
theorem dX7_init_81 : decode cX7_init 81 = .ok (.bipush 120, 2) := by decide +kernel
theorem dX7_init_83 : decode cX7_init 83 = .ok (.iastore, 1) := by decide +kernel
theorem dX7_init_84 : decode cX7_init 84 = .ok (.dup, 1) := by decide +kernel
theorem dX7_init_85 : decode cX7_init 85 = .ok (.iconst 2, 1) := by decide +kernel
theorem dX7_init_86 : decode cX7_init 86 = .ok (.bipush 60, 2) := by decide +kernel
theorem dX7_init_88 : decode cX7_init 88 = .ok (.iastore, 1) := by decide +kernel
theorem dX7_init_89 : decode cX7_init 89 = .ok (.dup, 1) := by decide +kernel
theorem dX7_init_90 : decode cX7_init 90 = .ok (.iconst 3, 1) := by decide +kernel
theorem dX7_init_91 : decode cX7_init 91 = .ok (.bipush 100, 2) := by decide +kernel
theorem dX7_init_93 : decode cX7_init 93 = .ok (.iastore, 1) := by decide +kernel
theorem dX7_init_94 : decode cX7_init 94 = .ok (.dup, 1) := by decide +kernel
theorem dX7_init_95 : decode cX7_init 95 = .ok (.iconst 4, 1) := by decide +kernel
theorem dX7_init_96 : decode cX7_init 96 = .ok (.bipush 10, 2) := by decide +kernel
theorem dX7_init_98 : decode cX7_init 98 = .ok (.iastore, 1) := by decide +kernel
theorem dX7_init_99 : decode cX7_init 99 = .ok (.putfield 51, 3) := by decide +kernel
theorem dX7_init_102 : decode cX7_init 102 = .ok (.aload_n 0, 1) := by decide +kernel
theorem dX7_init_103 : decode cX7_init 103 = .ok (.new 55, 3) := by decide +kernel
theorem dX7_init_106 : decode cX7_init 106 = .ok (.dup, 1) := by decide +kernel
theorem dX7_init_107 : decode cX7_init 107 = .ok (.invokespecial 57, 3) := by decide +kernel
theorem dX7_init_110 : decode cX7_init 110 = .ok (.putfield 58, 3) := by decide +kernel
theorem dX7_init_113 : decode cX7_init 113 = .ok (.aload_n 0, 1) := by decide +kernel
theorem dX7_init_114 : decode cX7_init 114 = .ok (.new 55, 3) := by decide +kernel
theorem dX7_init_117 : decode cX7_init 117 = .ok (.dup, 1) := by decide +kernel
theorem dX7_init_118 : decode cX7_init 118 = .ok (.invokespecial 57, 3) := by decide +kernel
theorem dX7_init_121 : decode cX7_init 121 = .ok (.putfield 62, 3) := by decide +kernel
theorem dX7_init_124 : decode cX7_init 124 = .ok (.aload_n 0, 1) := by decide +kernel
theorem dX7_init_125 : decode cX7_init 125 = .ok (.iconst 1, 1) := by decide +kernel
theorem dX7_init_126 : decode cX7_init 126 = .ok (.putfield 65, 3) := by decide +kernel
theorem dX7_init_129 : decode cX7_init 129 = .ok (.return_, 1) := by decide +kernel
theorem dX7_camp_0 : decode cX7_camp 0 = .ok (.iload_n 1, 1) := by decide +kernel
theorem dX7_camp_1 : decode cX7_camp 1 = .ok (.invokestatic 69, 3) := by decide +kernel
theorem dX7_camp_4 : decode cX7_camp 4 = .ok (.ifCond .eq 14, 3) := by decide +kernel
theorem dX7_camp_7 : decode cX7_camp 7 = .ok (.iload_n 2, 1) := by decide +kernel
theorem dX7_camp_8 : decode cX7_camp 8 = .ok (.iconst 1, 1) := by decide +kernel
theorem dX7_camp_9 : decode cX7_camp 9 = .ok (.sipush 900, 3) := by decide +kernel
theorem dX7_camp_12 : decode cX7_camp 12 = .ok (.invokestatic 73, 3) := by decide +kernel
theorem dX7_camp_15 : decode cX7_camp 15 = .ok (.ifCond .ne 5, 3) := by decide +kernel
theorem dX7_camp_18 : decode cX7_camp 18 = .ok (.iconst 0, 1) := by decide +kernel
theorem dX7_camp_19 : decode cX7_camp 19 = .ok (.ireturn, 1) := by decide +kernel
theorem dX7_camp_20 : decode cX7_camp 20 = .ok (.aload_n 0, 1) := by decide +kernel
theorem dX7_camp_21 : decode cX7_camp 21 = .ok (.getfield 12, 3) := by decide +kernel
theorem dX7_camp_24 : decode cX7_camp 24 = .ok (.getfield 77, 3) := by decide +kernel
theorem dX7_camp_27 : decode cX7_camp 27 = .ok (.iload_n 1, 1) := by decide +kernel
theorem dX7_camp_28 : decode cX7_camp 28 = .ok (.iconst 1, 1) := by decide +kernel
theorem dX7_camp_29 : decode cX7_camp 29 = .ok (.isub, 1) := by decide +kernel
theorem dX7_camp_30 : decode cX7_camp 30 = .ok (.iload_n 2, 1) := by decide +kernel
theorem dX7_camp_31 : decode cX7_camp 31 = .ok (.iastore, 1) := by decide +kernel
theorem dX7_camp_32 : decode cX7_camp 32 = .ok (.aload_n 0, 1) := by decide +kernel
theorem dX7_camp_33 : decode cX7_camp 33 = .ok (.getfield 19, 3) := by decide +kernel
theorem dX7_camp_36 : decode cX7_camp 36 = .ok (.iload_n 1, 1) := by decide +kernel
theorem dX7_camp_37 : decode cX7_camp 37 = .ok (.iconst 1, 1) := by decide +kernel
theorem dX7_camp_38 : decode cX7_camp 38 = .ok (.isub, 1) := by decide +kernel
theorem dX7_camp_39 : decode cX7_camp 39 = .ok (.iload_n 2, 1) := by decide +kernel
theorem dX7_camp_40 : decode cX7_camp 40 = .ok (.invokevirtual 80, 3) := by decide +kernel
theorem dX7_camp_43 : decode cX7_camp 43 = .ok (.aload_n 0, 1) := by decide +kernel
theorem dX7_camp_44 : decode cX7_camp 44 = .ok (.iconst 1, 1) := by decide +kernel
theorem dX7_camp_45 : decode cX7_camp 45 = .ok (.putfield 65, 3) := by decide +kernel
theorem dX7_camp_48 : decode cX7_camp 48 = .ok (.iconst 1, 1) := by decide +kernel
theorem dX7_camp_49 : decode cX7_camp 49 = .ok (.ireturn, 1) := by decide +kernel
theorem dX7_hour_0 : decode cX7_hour 0 = .ok (.iload_n 1, 1) := by decide +kernel
theorem dX7_hour_1 : decode cX7_hour 1 = .ok (.invokestatic 84, 3) := by decide +kernel
theorem dX7_hour_4 : decode cX7_hour 4 = .ok (.ifCond .eq 13, 3) := by decide +kernel
theorem dX7_hour_7 : decode cX7_hour 7 = .ok (.iload_n 2, 1) := by decide +kernel
theorem dX7_hour_8 : decode cX7_hour 8 = .ok (.iconst 0, 1) := by decide +kernel
theorem dX7_hour_9 : decode cX7_hour 9 = .ok (.bipush 23, 2) := by decide +kernel
theorem dX7_hour_11 : decode cX7_hour 11 = .ok (.invokestatic 73, 3) := by decide +kernel
theorem dX7_hour_14 : decode cX7_hour 14 = .ok (.ifCond .ne 5, 3) := by decide +kernel
theorem dX7_hour_17 : decode cX7_hour 17 = .ok (.iconst 0, 1) := by decide +kernel
theorem dX7_hour_18 : decode cX7_hour 18 = .ok (.ireturn, 1) := by decide +kernel
theorem dX7_hour_19 : decode cX7_hour 19 = .ok (.aload_n 0, 1) := by decide +kernel
theorem dX7_hour_20 : decode cX7_hour 20 = .ok (.getfield 12, 3) := by decide +kernel
theorem dX7_hour_23 : decode cX7_hour 23 = .ok (.getfield 87, 3) := by decide +kernel
theorem dX7_hour_26 : decode cX7_hour 26 = .ok (.iload_n 1, 1) := by decide +kernel
theorem dX7_hour_27 : decode cX7_hour 27 = .ok (.iload_n 2, 1) := by decide +kernel
theorem dX7_hour_28 : decode cX7_hour 28 = .ok (.iastore, 1) := by decide +kernel
theorem dX7_hour_29 : decode cX7_hour 29 = .ok (.aload_n 0, 1) := by decide +kernel
theorem dX7_hour_30 : decode cX7_hour 30 = .ok (.iconst 1, 1) := by decide +kernel
theorem dX7_hour_31 : decode cX7_hour 31 = .ok (.putfield 65, 3) := by decide +kernel
theorem dX7_hour_34 : decode cX7_hour 34 = .ok (.iconst 1, 1) := by decide +kernel
theorem dX7_hour_35 : decode cX7_hour 35 = .ok (.ireturn, 1) := by decide +kernel
theorem dX7_racer_0 : decode cX7_racer 0 = .ok (.iload_n 1, 1) := by decide +kernel
theorem dX7_racer_1 : decode cX7_racer 1 = .ok (.bipush 10, 2) := by decide +kernel
theorem dX7_racer_3 : decode cX7_racer 3 = .ok (.bipush 120, 2) := by decide +kernel
theorem dX7_racer_5 : decode cX7_racer 5 = .ok (.invokestatic 73, 3) := by decide +kernel
theorem dX7_racer_8 : decode cX7_racer 8 = .ok (.ifCond .ne 5, 3) := by decide +kernel
theorem dX7_racer_11 : decode cX7_racer 11 = .ok (.iconst (-1), 1) := by decide +kernel
theorem dX7_racer_12 : decode cX7_racer 12 = .ok (.ireturn, 1) := by decide +kernel
theorem dX7_racer_13 : decode cX7_racer 13 = .ok (.aload_n 0, 1) := by decide +kernel
theorem dX7_racer_14 : decode cX7_racer 14 = .ok (.iconst 1, 1) := by decide +kernel
theorem dX7_racer_15 : decode cX7_racer 15 = .ok (.putfield 65, 3) := by decide +kernel
theorem dX7_racer_18 : decode cX7_racer 18 = .ok (.aload_n 0, 1) := by decide +kernel
theorem dX7_racer_19 : decode cX7_racer 19 = .ok (.getfield 19, 3) := by decide +kernel
theorem dX7_racer_22 : decode cX7_racer 22 = .ok (.iload_n 1, 1) := by decide +kernel
theorem dX7_racer_23 : decode cX7_racer 23 = .ok (.invokevirtual 90, 3) := by decide +kernel
theorem dX7_racer_26 : decode cX7_racer 26 = .ok (.ireturn, 1) := by decide +kernel
theorem dX7_breaks_0 : decode cX7_breaks 0 = .ok (.aload_n 0, 1) := by decide +kernel
theorem dX7_breaks_1 : decode cX7_breaks 1 = .ok (.getfield 19, 3) := by decide +kernel
theorem dX7_breaks_4 : decode cX7_breaks 4 = .ok (.iload_n 1, 1) := by decide +kernel
theorem dX7_breaks_5 : decode cX7_breaks 5 = .ok (.invokevirtual 94, 3) := by decide +kernel
theorem dX7_breaks_8 : decode cX7_breaks 8 = .ok (.ifCond .ne 5, 3) := by decide +kernel
theorem dX7_breaks_11 : decode cX7_breaks 11 = .ok (.iconst 0, 1) := by decide +kernel
theorem dX7_breaks_12 : decode cX7_breaks 12 = .ok (.ireturn, 1) := by decide +kernel
theorem dX7_breaks_13 : decode cX7_breaks 13 = .ok (.iload_n 2, 1) := by decide +kernel
theorem dX7_breaks_14 : decode cX7_breaks 14 = .ok (.iconst (-1), 1) := by decide +kernel
theorem dX7_breaks_15 : decode cX7_breaks 15 = .ok (.if_icmp .eq 31, 3) := by decide +kernel
theorem dX7_breaks_18 : decode cX7_breaks 18 = .ok (.iload_n 2, 1) := by decide +kernel
theorem dX7_breaks_19 : decode cX7_breaks 19 = .ok (.invokestatic 84, 3) := by decide +kernel
theorem dX7_breaks_22 : decode cX7_breaks 22 = .ok (.ifCond .eq 22, 3) := by decide +kernel
theorem dX7_breaks_25 : decode cX7_breaks 25 = .ok (.iload_n 3, 1) := by decide +kernel
theorem dX7_breaks_26 : decode cX7_breaks 26 = .ok (.iconst 0, 1) := by decide +kernel
theorem dX7_breaks_27 : decode cX7_breaks 27 = .ok (.aload_n 0, 1) := by decide +kernel
theorem dX7_breaks_28 : decode cX7_breaks 28 = .ok (.getfield 12, 3) := by decide +kernel
theorem dX7_breaks_31 : decode cX7_breaks 31 = .ok (.getfield 77, 3) := by decide +kernel
theorem dX7_breaks_34 : decode cX7_breaks 34 = .ok (.iload_n 2, 1) := by decide +kernel
theorem dX7_breaks_35 : decode cX7_breaks 35 = .ok (.iaload, 1) := by decide +kernel
theorem dX7_breaks_36 : decode cX7_breaks 36 = .ok (.iconst 1, 1) := by decide +kernel
theorem dX7_breaks_37 : decode cX7_breaks 37 = .ok (.isub, 1) := by decide +kernel
theorem dX7_breaks_38 : decode cX7_breaks 38 = .ok (.invokestatic 73, 3) := by decide +kernel
theorem dX7_breaks_41 : decode cX7_breaks 41 = .ok (.ifCond .ne 5, 3) := by decide +kernel
theorem dX7_breaks_44 : decode cX7_breaks 44 = .ok (.iconst 0, 1) := by decide +kernel
theorem dX7_breaks_45 : decode cX7_breaks 45 = .ok (.ireturn, 1) := by decide +kernel
theorem dX7_breaks_46 : decode cX7_breaks 46 = .ok (.aload_n 0, 1) := by decide +kernel
theorem dX7_breaks_47 : decode cX7_breaks 47 = .ok (.getfield 19, 3) := by decide +kernel
theorem dX7_breaks_50 : decode cX7_breaks 50 = .ok (.getfield 97, 3) := by decide +kernel
theorem dX7_breaks_53 : decode cX7_breaks 53 = .ok (.iload_n 1, 1) := by decide +kernel
theorem dX7_breaks_54 : decode cX7_breaks 54 = .ok (.iload_n 2, 1) := by decide +kernel
theorem dX7_breaks_55 : decode cX7_breaks 55 = .ok (.iastore, 1) := by decide +kernel
theorem dX7_breaks_56 : decode cX7_breaks 56 = .ok (.aload_n 0, 1) := by decide +kernel
theorem dX7_breaks_57 : decode cX7_breaks 57 = .ok (.getfield 19, 3) := by decide +kernel
theorem dX7_breaks_60 : decode cX7_breaks 60 = .ok (.getfield 100, 3) := by decide +kernel
theorem dX7_breaks_63 : decode cX7_breaks 63 = .ok (.iload_n 1, 1) := by decide +kernel
theorem dX7_breaks_64 : decode cX7_breaks 64 = .ok (.iload_n 3, 1) := by decide +kernel
theorem dX7_breaks_65 : decode cX7_breaks 65 = .ok (.iastore, 1) := by decide +kernel
theorem dX7_breaks_66 : decode cX7_breaks 66 = .ok (.aload_n 0, 1) := by decide +kernel
theorem dX7_breaks_67 : decode cX7_breaks 67 = .ok (.iconst 1, 1) := by decide +kernel
theorem dX7_breaks_68 : decode cX7_breaks 68 = .ok (.putfield 65, 3) := by decide +kernel
theorem dX7_breaks_71 : decode cX7_breaks 71 = .ok (.iconst 1, 1) := by decide +kernel
theorem dX7_breaks_72 : decode cX7_breaks 72 = .ok (.ireturn, 1) := by decide +kernel
theorem dX7_set_0 : decode cX7_set 0 = .ok (.iload_n 1, 1) := by decide +kernel
theorem dX7_set_1 : decode cX7_set 1 = .ok (.iconst 0, 1) := by decide +kernel
theorem dX7_set_2 : decode cX7_set 2 = .ok (.iconst 4, 1) := by decide +kernel
theorem dX7_set_3 : decode cX7_set 3 = .ok (.invokestatic 73, 3) := by decide +kernel
theorem dX7_set_6 : decode cX7_set 6 = .ok (.ifCond .eq 20, 3) := by decide +kernel
theorem dX7_set_9 : decode cX7_set 9 = .ok (.iload_n 2, 1) := by decide +kernel
theorem dX7_set_10 : decode cX7_set 10 = .ok (.getstatic 103, 3) := by decide +kernel
theorem dX7_set_13 : decode cX7_set 13 = .ok (.iload_n 1, 1) := by decide +kernel
theorem dX7_set_14 : decode cX7_set 14 = .ok (.iaload, 1) := by decide +kernel
theorem dX7_set_15 : decode cX7_set 15 = .ok (.getstatic 106, 3) := by decide +kernel
theorem dX7_set_18 : decode cX7_set 18 = .ok (.iload_n 1, 1) := by decide +kernel
theorem dX7_set_19 : decode cX7_set 19 = .ok (.iaload, 1) := by decide +kernel
theorem dX7_set_20 : decode cX7_set 20 = .ok (.invokestatic 73, 3) := by decide +kernel
theorem dX7_set_23 : decode cX7_set 23 = .ok (.ifCond .ne 5, 3) := by decide +kernel
theorem dX7_set_26 : decode cX7_set 26 = .ok (.iconst 0, 1) := by decide +kernel
theorem dX7_set_27 : decode cX7_set 27 = .ok (.ireturn, 1) := by decide +kernel
theorem dX7_set_28 : decode cX7_set 28 = .ok (.aload_n 0, 1) := by decide +kernel
theorem dX7_set_29 : decode cX7_set 29 = .ok (.getfield 51, 3) := by decide +kernel
theorem dX7_set_32 : decode cX7_set 32 = .ok (.iload_n 1, 1) := by decide +kernel
theorem dX7_set_33 : decode cX7_set 33 = .ok (.iload_n 2, 1) := by decide +kernel
theorem dX7_set_34 : decode cX7_set 34 = .ok (.iastore, 1) := by decide +kernel
theorem dX7_set_35 : decode cX7_set 35 = .ok (.aload_n 0, 1) := by decide +kernel
theorem dX7_set_36 : decode cX7_set 36 = .ok (.iconst 1, 1) := by decide +kernel
theorem dX7_set_37 : decode cX7_set 37 = .ok (.putfield 65, 3) := by decide +kernel
theorem dX7_set_40 : decode cX7_set 40 = .ok (.iconst 1, 1) := by decide +kernel
theorem dX7_set_41 : decode cX7_set 41 = .ok (.ireturn, 1) := by decide +kernel
theorem dX7_feed_0 : decode cX7_feed 0 = .ok (.aload_n 0, 1) := by decide +kernel
theorem dX7_feed_1 : decode cX7_feed 1 = .ok (.getfield 26, 3) := by decide +kernel
theorem dX7_feed_4 : decode cX7_feed 4 = .ok (.getfield 109, 3) := by decide +kernel
theorem dX7_feed_7 : decode cX7_feed 7 = .ok (.bipush 20, 2) := by decide +kernel
theorem dX7_feed_9 : decode cX7_feed 9 = .ok (.iadd, 1) := by decide +kernel
theorem dX7_feed_10 : decode cX7_feed 10 = .ok (.sipush 600, 3) := by decide +kernel
theorem dX7_feed_13 : decode cX7_feed 13 = .ok (.if_icmp .le 5, 3) := by decide +kernel
theorem dX7_feed_16 : decode cX7_feed 16 = .ok (.iconst (-1), 1) := by decide +kernel
theorem dX7_feed_17 : decode cX7_feed 17 = .ok (.ireturn, 1) := by decide +kernel
theorem dX7_feed_18 : decode cX7_feed 18 = .ok (.aload_n 0, 1) := by decide +kernel
theorem dX7_feed_19 : decode cX7_feed 19 = .ok (.getfield 26, 3) := by decide +kernel
theorem dX7_feed_22 : decode cX7_feed 22 = .ok (.iload_n 1, 1) := by decide +kernel
theorem dX7_feed_23 : decode cX7_feed 23 = .ok (.invokevirtual 113, 3) := by decide +kernel
theorem dX7_feed_26 : decode cX7_feed 26 = .ok (.aload_n 0, 1) := by decide +kernel
theorem dX7_feed_27 : decode cX7_feed 27 = .ok (.getfield 26, 3) := by decide +kernel
theorem dX7_feed_30 : decode cX7_feed 30 = .ok (.iload_n 2, 1) := by decide +kernel
theorem dX7_feed_31 : decode cX7_feed 31 = .ok (.invokevirtual 113, 3) := by decide +kernel
theorem dX7_feed_34 : decode cX7_feed 34 = .ok (.aload_n 0, 1) := by decide +kernel
theorem dX7_feed_35 : decode cX7_feed 35 = .ok (.getfield 26, 3) := by decide +kernel
theorem dX7_feed_38 : decode cX7_feed 38 = .ok (.iload_n 3, 1) := by decide +kernel
theorem dX7_feed_39 : decode cX7_feed 39 = .ok (.invokevirtual 113, 3) := by decide +kernel
theorem dX7_feed_42 : decode cX7_feed 42 = .ok (.aload_n 0, 1) := by decide +kernel
theorem dX7_feed_43 : decode cX7_feed 43 = .ok (.getfield 26, 3) := by decide +kernel
theorem dX7_feed_46 : decode cX7_feed 46 = .ok (.iload 4, 2) := by decide +kernel
theorem dX7_feed_48 : decode cX7_feed 48 = .ok (.invokevirtual 113, 3) := by decide +kernel
theorem dX7_feed_51 : decode cX7_feed 51 = .ok (.aload_n 0, 1) := by decide +kernel
theorem dX7_feed_52 : decode cX7_feed 52 = .ok (.getfield 26, 3) := by decide +kernel
theorem dX7_feed_55 : decode cX7_feed 55 = .ok (.iload 5, 2) := by decide +kernel
theorem dX7_feed_57 : decode cX7_feed 57 = .ok (.invokevirtual 113, 3) := by decide +kernel
theorem dX7_feed_60 : decode cX7_feed 60 = .ok (.aload_n 0, 1) := by decide +kernel
theorem dX7_feed_61 : decode cX7_feed 61 = .ok (.getfield 26, 3) := by decide +kernel
theorem dX7_feed_64 : decode cX7_feed 64 = .ok (.getfield 109, 3) := by decide +kernel
theorem dX7_feed_67 : decode cX7_feed 67 = .ok (.ireturn, 1) := by decide +kernel
theorem dX7_end_0 : decode cX7_end 0 = .ok (.iload_n 1, 1) := by decide +kernel
theorem dX7_end_1 : decode cX7_end 1 = .ok (.iconst 0, 1) := by decide +kernel
theorem dX7_end_2 : decode cX7_end 2 = .ok (.aload_n 0, 1) := by decide +kernel
theorem dX7_end_3 : decode cX7_end 3 = .ok (.getfield 26, 3) := by decide +kernel
theorem dX7_end_6 : decode cX7_end 6 = .ok (.getfield 109, 3) := by decide +kernel
theorem dX7_end_9 : decode cX7_end 9 = .ok (.invokestatic 73, 3) := by decide +kernel
theorem dX7_end_12 : decode cX7_end 12 = .ok (.ifCond .ne 5, 3) := by decide +kernel
theorem dX7_end_15 : decode cX7_end 15 = .ok (.iconst 0, 1) := by decide +kernel
theorem dX7_end_16 : decode cX7_end 16 = .ok (.ireturn, 1) := by decide +kernel
theorem dX7_end_17 : decode cX7_end 17 = .ok (.aload_n 0, 1) := by decide +kernel
theorem dX7_end_18 : decode cX7_end 18 = .ok (.getfield 26, 3) := by decide +kernel
theorem dX7_end_21 : decode cX7_end 21 = .ok (.iload_n 1, 1) := by decide +kernel
theorem dX7_end_22 : decode cX7_end 22 = .ok (.putfield 109, 3) := by decide +kernel
theorem dX7_end_25 : decode cX7_end 25 = .ok (.iconst 1, 1) := by decide +kernel
theorem dX7_end_26 : decode cX7_end 26 = .ok (.ireturn, 1) := by decide +kernel
theorem dX7_book_0 : decode cX7_book 0 = .ok (.aload_n 0, 1) := by decide +kernel
theorem dX7_book_1 : decode cX7_book 1 = .ok (.getfield 33, 3) := by decide +kernel
theorem dX7_book_4 : decode cX7_book 4 = .ok (.aload_n 0, 1) := by decide +kernel
theorem dX7_book_5 : decode cX7_book 5 = .ok (.getfield 26, 3) := by decide +kernel
theorem dX7_book_8 : decode cX7_book 8 = .ok (.aload_n 0, 1) := by decide +kernel
theorem dX7_book_9 : decode cX7_book 9 = .ok (.getfield 62, 3) := by decide +kernel
theorem dX7_book_12 : decode cX7_book 12 = .ok (.invokevirtual 117, 3) := by decide +kernel
theorem dX7_book_15 : decode cX7_book 15 = .ok (.istore_n 1, 1) := by decide +kernel
theorem dX7_book_16 : decode cX7_book 16 = .ok (.aload_n 0, 1) := by decide +kernel
theorem dX7_book_17 : decode cX7_book 17 = .ok (.getfield 26, 3) := by decide +kernel
theorem dX7_book_20 : decode cX7_book 20 = .ok (.iconst 0, 1) := by decide +kernel
theorem dX7_book_21 : decode cX7_book 21 = .ok (.putfield 109, 3) := by decide +kernel
theorem dX7_book_24 : decode cX7_book 24 = .ok (.iload_n 1, 1) := by decide +kernel
theorem dX7_book_25 : decode cX7_book 25 = .ok (.ifCond .ne 5, 3) := by decide +kernel
theorem dX7_book_28 : decode cX7_book 28 = .ok (.iconst (-1), 1) := by decide +kernel
theorem dX7_book_29 : decode cX7_book 29 = .ok (.ireturn, 1) := by decide +kernel
theorem dX7_book_30 : decode cX7_book 30 = .ok (.aload_n 0, 1) := by decide +kernel
theorem dX7_book_31 : decode cX7_book 31 = .ok (.getfield 58, 3) := by decide +kernel
theorem dX7_book_34 : decode cX7_book 34 = .ok (.astore_n 2, 1) := by decide +kernel
theorem dX7_book_35 : decode cX7_book 35 = .ok (.aload_n 0, 1) := by decide +kernel
theorem dX7_book_36 : decode cX7_book 36 = .ok (.aload_n 0, 1) := by decide +kernel
theorem dX7_book_37 : decode cX7_book 37 = .ok (.getfield 62, 3) := by decide +kernel
theorem dX7_book_40 : decode cX7_book 40 = .ok (.putfield 58, 3) := by decide +kernel
theorem dX7_book_43 : decode cX7_book 43 = .ok (.aload_n 0, 1) := by decide +kernel
theorem dX7_book_44 : decode cX7_book 44 = .ok (.aload_n 2, 1) := by decide +kernel
theorem dX7_book_45 : decode cX7_book 45 = .ok (.putfield 62, 3) := by decide +kernel
theorem dX7_book_48 : decode cX7_book 48 = .ok (.aload_n 0, 1) := by decide +kernel
theorem dX7_book_49 : decode cX7_book 49 = .ok (.iconst 1, 1) := by decide +kernel
theorem dX7_book_50 : decode cX7_book 50 = .ok (.putfield 65, 3) := by decide +kernel
theorem dX7_book_53 : decode cX7_book 53 = .ok (.aload_n 0, 1) := by decide +kernel
theorem dX7_book_54 : decode cX7_book 54 = .ok (.getfield 58, 3) := by decide +kernel
theorem dX7_book_57 : decode cX7_book 57 = .ok (.getfield 121, 3) := by decide +kernel
theorem dX7_book_60 : decode cX7_book 60 = .ok (.ireturn, 1) := by decide +kernel
theorem dX7_fault_0 : decode cX7_fault 0 = .ok (.iload_n 1, 1) := by decide +kernel
theorem dX7_fault_1 : decode cX7_fault 1 = .ok (.lookupswitch 43 #[(0, 27), (1, 35)], 27) := by decide +kernel
theorem dX7_fault_28 : decode cX7_fault 28 = .ok (.aload_n 0, 1) := by decide +kernel
theorem dX7_fault_29 : decode cX7_fault 29 = .ok (.getfield 33, 3) := by decide +kernel
theorem dX7_fault_32 : decode cX7_fault 32 = .ok (.getfield 124, 3) := by decide +kernel
theorem dX7_fault_35 : decode cX7_fault 35 = .ok (.ireturn, 1) := by decide +kernel
theorem dX7_fault_36 : decode cX7_fault 36 = .ok (.aload_n 0, 1) := by decide +kernel
theorem dX7_fault_37 : decode cX7_fault 37 = .ok (.getfield 33, 3) := by decide +kernel
theorem dX7_fault_40 : decode cX7_fault 40 = .ok (.getfield 127, 3) := by decide +kernel
theorem dX7_fault_43 : decode cX7_fault 43 = .ok (.ireturn, 1) := by decide +kernel
theorem dX7_fault_44 : decode cX7_fault 44 = .ok (.iconst (-1), 1) := by decide +kernel
theorem dX7_fault_45 : decode cX7_fault 45 = .ok (.ireturn, 1) := by decide +kernel
theorem dX7_look_0 : decode cX7_look 0 = .ok (.iload_n 1, 1) := by decide +kernel
theorem dX7_look_1 : decode cX7_look 1 = .ok (.tableswitch 53 0 2 #[27, 35, 43], 27) := by decide +kernel
theorem dX7_look_28 : decode cX7_look 28 = .ok (.aload_n 0, 1) := by decide +kernel
theorem dX7_look_29 : decode cX7_look 29 = .ok (.getfield 19, 3) := by decide +kernel
theorem dX7_look_32 : decode cX7_look 32 = .ok (.getfield 130, 3) := by decide +kernel
theorem dX7_look_35 : decode cX7_look 35 = .ok (.ireturn, 1) := by decide +kernel
theorem dX7_look_36 : decode cX7_look 36 = .ok (.aload_n 0, 1) := by decide +kernel
theorem dX7_look_37 : decode cX7_look 37 = .ok (.getfield 58, 3) := by decide +kernel
theorem dX7_look_40 : decode cX7_look 40 = .ok (.getfield 121, 3) := by decide +kernel
theorem dX7_look_43 : decode cX7_look 43 = .ok (.ireturn, 1) := by decide +kernel
theorem dX7_look_44 : decode cX7_look 44 = .ok (.aload_n 0, 1) := by decide +kernel
theorem dX7_look_45 : decode cX7_look 45 = .ok (.getfield 12, 3) := by decide +kernel
theorem dX7_look_48 : decode cX7_look 48 = .ok (.bipush 7, 2) := by decide +kernel
theorem dX7_look_50 : decode cX7_look 50 = .ok (.invokevirtual 133, 3) := by decide +kernel
theorem dX7_look_53 : decode cX7_look 53 = .ok (.ireturn, 1) := by decide +kernel
theorem dX7_look_54 : decode cX7_look 54 = .ok (.iload_n 1, 1) := by decide +kernel
theorem dX7_look_55 : decode cX7_look 55 = .ok (.iconst 3, 1) := by decide +kernel
theorem dX7_look_56 : decode cX7_look 56 = .ok (.bipush 7, 2) := by decide +kernel
theorem dX7_look_58 : decode cX7_look 58 = .ok (.invokestatic 73, 3) := by decide +kernel
theorem dX7_look_61 : decode cX7_look 61 = .ok (.ifCond .eq 14, 3) := by decide +kernel
theorem dX7_look_64 : decode cX7_look 64 = .ok (.aload_n 0, 1) := by decide +kernel
theorem dX7_look_65 : decode cX7_look 65 = .ok (.getfield 51, 3) := by decide +kernel
theorem dX7_look_68 : decode cX7_look 68 = .ok (.iload_n 1, 1) := by decide +kernel
theorem dX7_look_69 : decode cX7_look 69 = .ok (.iconst 3, 1) := by decide +kernel
theorem dX7_look_70 : decode cX7_look 70 = .ok (.isub, 1) := by decide +kernel
theorem dX7_look_71 : decode cX7_look 71 = .ok (.iaload, 1) := by decide +kernel
theorem dX7_look_72 : decode cX7_look 72 = .ok (.goto 4, 3) := by decide +kernel
theorem dX7_look_75 : decode cX7_look 75 = .ok (.iconst (-1), 1) := by decide +kernel
theorem dX7_look_76 : decode cX7_look 76 = .ok (.ireturn, 1) := by decide +kernel
theorem dX7_time_0 : decode cX7_time 0 = .ok (.aload_n 0, 1) := by decide +kernel
theorem dX7_time_1 : decode cX7_time 1 = .ok (.getfield 19, 3) := by decide +kernel
theorem dX7_time_4 : decode cX7_time 4 = .ok (.iload_n 1, 1) := by decide +kernel
theorem dX7_time_5 : decode cX7_time 5 = .ok (.invokevirtual 94, 3) := by decide +kernel
theorem dX7_time_8 : decode cX7_time 8 = .ok (.ifCond .eq 10, 3) := by decide +kernel
theorem dX7_time_11 : decode cX7_time 11 = .ok (.iload_n 2, 1) := by decide +kernel
theorem dX7_time_12 : decode cX7_time 12 = .ok (.invokestatic 84, 3) := by decide +kernel
theorem dX7_time_15 : decode cX7_time 15 = .ok (.ifCond .ne 5, 3) := by decide +kernel
theorem dX7_time_18 : decode cX7_time 18 = .ok (.iconst (-1), 1) := by decide +kernel
theorem dX7_time_19 : decode cX7_time 19 = .ok (.ireturn, 1) := by decide +kernel
theorem dX7_time_20 : decode cX7_time 20 = .ok (.aload_n 0, 1) := by decide +kernel
theorem dX7_time_21 : decode cX7_time 21 = .ok (.invokevirtual 136, 3) := by decide +kernel
theorem dX7_time_24 : decode cX7_time 24 = .ok (.aload_n 0, 1) := by decide +kernel
theorem dX7_time_25 : decode cX7_time 25 = .ok (.getfield 40, 3) := by decide +kernel
theorem dX7_time_28 : decode cX7_time 28 = .ok (.getfield 139, 3) := by decide +kernel
theorem dX7_time_31 : decode cX7_time 31 = .ok (.iload_n 2, 1) := by decide +kernel
theorem dX7_time_32 : decode cX7_time 32 = .ok (.aaload, 1) := by decide +kernel
theorem dX7_time_33 : decode cX7_time 33 = .ok (.iload_n 1, 1) := by decide +kernel
theorem dX7_time_34 : decode cX7_time 34 = .ok (.iaload, 1) := by decide +kernel
theorem dX7_time_35 : decode cX7_time 35 = .ok (.ireturn, 1) := by decide +kernel
theorem dX7_ran_0 : decode cX7_ran 0 = .ok (.aload_n 0, 1) := by decide +kernel
theorem dX7_ran_1 : decode cX7_ran 1 = .ok (.getfield 19, 3) := by decide +kernel
theorem dX7_ran_4 : decode cX7_ran 4 = .ok (.iload_n 1, 1) := by decide +kernel
theorem dX7_ran_5 : decode cX7_ran 5 = .ok (.invokevirtual 94, 3) := by decide +kernel
theorem dX7_ran_8 : decode cX7_ran 8 = .ok (.ifCond .eq 10, 3) := by decide +kernel
theorem dX7_ran_11 : decode cX7_ran 11 = .ok (.iload_n 2, 1) := by decide +kernel
theorem dX7_ran_12 : decode cX7_ran 12 = .ok (.invokestatic 84, 3) := by decide +kernel
theorem dX7_ran_15 : decode cX7_ran 15 = .ok (.ifCond .ne 5, 3) := by decide +kernel
theorem dX7_ran_18 : decode cX7_ran 18 = .ok (.iconst (-1), 1) := by decide +kernel
theorem dX7_ran_19 : decode cX7_ran 19 = .ok (.ireturn, 1) := by decide +kernel
theorem dX7_ran_20 : decode cX7_ran 20 = .ok (.aload_n 0, 1) := by decide +kernel
theorem dX7_ran_21 : decode cX7_ran 21 = .ok (.invokevirtual 136, 3) := by decide +kernel
theorem dX7_ran_24 : decode cX7_ran 24 = .ok (.iload_n 3, 1) := by decide +kernel
theorem dX7_ran_25 : decode cX7_ran 25 = .ok (.tableswitch 79 0 3 #[31, 43, 55, 67], 31) := by decide +kernel
theorem dX7_ran_56 : decode cX7_ran 56 = .ok (.aload_n 0, 1) := by decide +kernel
theorem dX7_ran_57 : decode cX7_ran 57 = .ok (.getfield 40, 3) := by decide +kernel
theorem dX7_ran_60 : decode cX7_ran 60 = .ok (.getfield 143, 3) := by decide +kernel
theorem dX7_ran_63 : decode cX7_ran 63 = .ok (.iload_n 2, 1) := by decide +kernel
theorem dX7_ran_64 : decode cX7_ran 64 = .ok (.aaload, 1) := by decide +kernel
theorem dX7_ran_65 : decode cX7_ran 65 = .ok (.iload_n 1, 1) := by decide +kernel
theorem dX7_ran_66 : decode cX7_ran 66 = .ok (.iaload, 1) := by decide +kernel
theorem dX7_ran_67 : decode cX7_ran 67 = .ok (.ireturn, 1) := by decide +kernel
theorem dX7_ran_68 : decode cX7_ran 68 = .ok (.aload_n 0, 1) := by decide +kernel
theorem dX7_ran_69 : decode cX7_ran 69 = .ok (.getfield 40, 3) := by decide +kernel
theorem dX7_ran_72 : decode cX7_ran 72 = .ok (.getfield 146, 3) := by decide +kernel
theorem dX7_ran_75 : decode cX7_ran 75 = .ok (.iload_n 2, 1) := by decide +kernel
theorem dX7_ran_76 : decode cX7_ran 76 = .ok (.aaload, 1) := by decide +kernel
theorem dX7_ran_77 : decode cX7_ran 77 = .ok (.iload_n 1, 1) := by decide +kernel
theorem dX7_ran_78 : decode cX7_ran 78 = .ok (.iaload, 1) := by decide +kernel
theorem dX7_ran_79 : decode cX7_ran 79 = .ok (.ireturn, 1) := by decide +kernel
theorem dX7_ran_80 : decode cX7_ran 80 = .ok (.aload_n 0, 1) := by decide +kernel
theorem dX7_ran_81 : decode cX7_ran 81 = .ok (.getfield 40, 3) := by decide +kernel
theorem dX7_ran_84 : decode cX7_ran 84 = .ok (.getfield 149, 3) := by decide +kernel
theorem dX7_ran_87 : decode cX7_ran 87 = .ok (.iload_n 2, 1) := by decide +kernel
theorem dX7_ran_88 : decode cX7_ran 88 = .ok (.aaload, 1) := by decide +kernel
theorem dX7_ran_89 : decode cX7_ran 89 = .ok (.iload_n 1, 1) := by decide +kernel
theorem dX7_ran_90 : decode cX7_ran 90 = .ok (.iaload, 1) := by decide +kernel
theorem dX7_ran_91 : decode cX7_ran 91 = .ok (.ireturn, 1) := by decide +kernel
theorem dX7_ran_92 : decode cX7_ran 92 = .ok (.aload_n 0, 1) := by decide +kernel
theorem dX7_ran_93 : decode cX7_ran 93 = .ok (.getfield 40, 3) := by decide +kernel
theorem dX7_ran_96 : decode cX7_ran 96 = .ok (.getfield 152, 3) := by decide +kernel
theorem dX7_ran_99 : decode cX7_ran 99 = .ok (.iload_n 2, 1) := by decide +kernel
theorem dX7_ran_100 : decode cX7_ran 100 = .ok (.aaload, 1) := by decide +kernel
theorem dX7_ran_101 : decode cX7_ran 101 = .ok (.iload_n 1, 1) := by decide +kernel
theorem dX7_ran_102 : decode cX7_ran 102 = .ok (.iaload, 1) := by decide +kernel
theorem dX7_ran_103 : decode cX7_ran 103 = .ok (.ireturn, 1) := by decide +kernel
theorem dX7_ran_104 : decode cX7_ran 104 = .ok (.iconst (-1), 1) := by decide +kernel
theorem dX7_ran_105 : decode cX7_ran 105 = .ok (.ireturn, 1) := by decide +kernel
theorem dX7_standing_0 : decode cX7_standing 0 = .ok (.iload_n 1, 1) := by decide +kernel
theorem dX7_standing_1 : decode cX7_standing 1 = .ok (.invokestatic 84, 3) := by decide +kernel
theorem dX7_standing_4 : decode cX7_standing 4 = .ok (.ifCond .ne 5, 3) := by decide +kernel
theorem dX7_standing_7 : decode cX7_standing 7 = .ok (.iconst (-1), 1) := by decide +kernel
theorem dX7_standing_8 : decode cX7_standing 8 = .ok (.ireturn, 1) := by decide +kernel
theorem dX7_standing_9 : decode cX7_standing 9 = .ok (.aload_n 0, 1) := by decide +kernel
theorem dX7_standing_10 : decode cX7_standing 10 = .ok (.invokevirtual 136, 3) := by decide +kernel
theorem dX7_standing_13 : decode cX7_standing 13 = .ok (.iload_n 2, 1) := by decide +kernel
theorem dX7_standing_14 : decode cX7_standing 14 = .ok (.iconst 0, 1) := by decide +kernel
theorem dX7_standing_15 : decode cX7_standing 15 = .ok (.aload_n 0, 1) := by decide +kernel
theorem dX7_standing_16 : decode cX7_standing 16 = .ok (.getfield 40, 3) := by decide +kernel
theorem dX7_standing_19 : decode cX7_standing 19 = .ok (.getfield 155, 3) := by decide +kernel
theorem dX7_standing_22 : decode cX7_standing 22 = .ok (.iload_n 1, 1) := by decide +kernel
theorem dX7_standing_23 : decode cX7_standing 23 = .ok (.iaload, 1) := by decide +kernel
theorem dX7_standing_24 : decode cX7_standing 24 = .ok (.iconst 1, 1) := by decide +kernel
theorem dX7_standing_25 : decode cX7_standing 25 = .ok (.isub, 1) := by decide +kernel
theorem dX7_standing_26 : decode cX7_standing 26 = .ok (.invokestatic 73, 3) := by decide +kernel
theorem dX7_standing_29 : decode cX7_standing 29 = .ok (.ifCond .eq 17, 3) := by decide +kernel
theorem dX7_standing_32 : decode cX7_standing 32 = .ok (.aload_n 0, 1) := by decide +kernel
theorem dX7_standing_33 : decode cX7_standing 33 = .ok (.getfield 40, 3) := by decide +kernel
theorem dX7_standing_36 : decode cX7_standing 36 = .ok (.getfield 158, 3) := by decide +kernel
theorem dX7_standing_39 : decode cX7_standing 39 = .ok (.iload_n 1, 1) := by decide +kernel
theorem dX7_standing_40 : decode cX7_standing 40 = .ok (.aaload, 1) := by decide +kernel
theorem dX7_standing_41 : decode cX7_standing 41 = .ok (.iload_n 2, 1) := by decide +kernel
theorem dX7_standing_42 : decode cX7_standing 42 = .ok (.iaload, 1) := by decide +kernel
theorem dX7_standing_43 : decode cX7_standing 43 = .ok (.goto 4, 3) := by decide +kernel
theorem dX7_standing_46 : decode cX7_standing 46 = .ok (.iconst (-1), 1) := by decide +kernel
theorem dX7_standing_47 : decode cX7_standing 47 = .ok (.ireturn, 1) := by decide +kernel
theorem dX7_of_0 : decode cX7_of 0 = .ok (.iload_n 1, 1) := by decide +kernel
theorem dX7_of_1 : decode cX7_of 1 = .ok (.invokestatic 69, 3) := by decide +kernel
theorem dX7_of_4 : decode cX7_of 4 = .ok (.ifCond .ne 5, 3) := by decide +kernel
theorem dX7_of_7 : decode cX7_of 7 = .ok (.iconst (-1), 1) := by decide +kernel
theorem dX7_of_8 : decode cX7_of 8 = .ok (.ireturn, 1) := by decide +kernel
theorem dX7_of_9 : decode cX7_of 9 = .ok (.aload_n 0, 1) := by decide +kernel
theorem dX7_of_10 : decode cX7_of 10 = .ok (.invokevirtual 136, 3) := by decide +kernel
theorem dX7_of_13 : decode cX7_of 13 = .ok (.aload_n 0, 1) := by decide +kernel
theorem dX7_of_14 : decode cX7_of 14 = .ok (.getfield 40, 3) := by decide +kernel
theorem dX7_of_17 : decode cX7_of 17 = .ok (.getfield 155, 3) := by decide +kernel
theorem dX7_of_20 : decode cX7_of 20 = .ok (.iload_n 1, 1) := by decide +kernel
theorem dX7_of_21 : decode cX7_of 21 = .ok (.iconst 1, 1) := by decide +kernel
theorem dX7_of_22 : decode cX7_of 22 = .ok (.isub, 1) := by decide +kernel
theorem dX7_of_23 : decode cX7_of 23 = .ok (.iaload, 1) := by decide +kernel
theorem dX7_of_24 : decode cX7_of 24 = .ok (.istore_n 3, 1) := by decide +kernel
theorem dX7_of_25 : decode cX7_of 25 = .ok (.aload_n 0, 1) := by decide +kernel
theorem dX7_of_26 : decode cX7_of 26 = .ok (.getfield 51, 3) := by decide +kernel
theorem dX7_of_29 : decode cX7_of 29 = .ok (.iconst 3, 1) := by decide +kernel
theorem dX7_of_30 : decode cX7_of 30 = .ok (.iaload, 1) := by decide +kernel
theorem dX7_of_31 : decode cX7_of 31 = .ok (.iload_n 3, 1) := by decide +kernel
theorem dX7_of_32 : decode cX7_of 32 = .ok (.iadd, 1) := by decide +kernel
theorem dX7_of_33 : decode cX7_of 33 = .ok (.istore 4, 2) := by decide +kernel
theorem dX7_of_35 : decode cX7_of 35 = .ok (.iload_n 2, 1) := by decide +kernel
theorem dX7_of_36 : decode cX7_of 36 = .ok (.tableswitch 117 0 5 #[40, 42, 60, 78, 96, 99], 40) := by decide +kernel
theorem dX7_of_76 : decode cX7_of 76 = .ok (.iload_n 3, 1) := by decide +kernel
theorem dX7_of_77 : decode cX7_of 77 = .ok (.ireturn, 1) := by decide +kernel
theorem dX7_of_78 : decode cX7_of 78 = .ok (.iload_n 3, 1) := by decide +kernel
theorem dX7_of_79 : decode cX7_of 79 = .ok (.ifCond .le 15, 3) := by decide +kernel
theorem dX7_of_82 : decode cX7_of 82 = .ok (.aload_n 0, 1) := by decide +kernel
theorem dX7_of_83 : decode cX7_of 83 = .ok (.getfield 47, 3) := by decide +kernel
theorem dX7_of_86 : decode cX7_of 86 = .ok (.getfield 161, 3) := by decide +kernel
theorem dX7_of_89 : decode cX7_of 89 = .ok (.iload_n 1, 1) := by decide +kernel
theorem dX7_of_90 : decode cX7_of 90 = .ok (.iaload, 1) := by decide +kernel
theorem dX7_of_91 : decode cX7_of 91 = .ok (.goto 4, 3) := by decide +kernel
theorem dX7_of_94 : decode cX7_of 94 = .ok (.iconst (-1), 1) := by decide +kernel
theorem dX7_of_95 : decode cX7_of 95 = .ok (.ireturn, 1) := by decide +kernel
theorem dX7_of_96 : decode cX7_of 96 = .ok (.iload_n 3, 1) := by decide +kernel
theorem dX7_of_97 : decode cX7_of 97 = .ok (.ifCond .le 15, 3) := by decide +kernel
theorem dX7_of_100 : decode cX7_of 100 = .ok (.aload_n 0, 1) := by decide +kernel
theorem dX7_of_101 : decode cX7_of 101 = .ok (.getfield 47, 3) := by decide +kernel
theorem dX7_of_104 : decode cX7_of 104 = .ok (.getfield 164, 3) := by decide +kernel
theorem dX7_of_107 : decode cX7_of 107 = .ok (.iload_n 1, 1) := by decide +kernel
theorem dX7_of_108 : decode cX7_of 108 = .ok (.iaload, 1) := by decide +kernel
theorem dX7_of_109 : decode cX7_of 109 = .ok (.goto 4, 3) := by decide +kernel
theorem dX7_of_112 : decode cX7_of 112 = .ok (.iconst (-1), 1) := by decide +kernel
theorem dX7_of_113 : decode cX7_of 113 = .ok (.ireturn, 1) := by decide +kernel
theorem dX7_of_114 : decode cX7_of 114 = .ok (.iload_n 3, 1) := by decide +kernel
theorem dX7_of_115 : decode cX7_of 115 = .ok (.ifCond .le 15, 3) := by decide +kernel
theorem dX7_of_118 : decode cX7_of 118 = .ok (.aload_n 0, 1) := by decide +kernel
theorem dX7_of_119 : decode cX7_of 119 = .ok (.getfield 47, 3) := by decide +kernel
theorem dX7_of_122 : decode cX7_of 122 = .ok (.getfield 167, 3) := by decide +kernel
theorem dX7_of_125 : decode cX7_of 125 = .ok (.iload_n 1, 1) := by decide +kernel
theorem dX7_of_126 : decode cX7_of 126 = .ok (.iaload, 1) := by decide +kernel
theorem dX7_of_127 : decode cX7_of 127 = .ok (.goto 4, 3) := by decide +kernel
theorem dX7_of_130 : decode cX7_of 130 = .ok (.iconst (-1), 1) := by decide +kernel
theorem dX7_of_131 : decode cX7_of 131 = .ok (.ireturn, 1) := by decide +kernel
theorem dX7_of_132 : decode cX7_of 132 = .ok (.iload 4, 2) := by decide +kernel
theorem dX7_of_134 : decode cX7_of 134 = .ok (.ireturn, 1) := by decide +kernel
theorem dX7_of_135 : decode cX7_of 135 = .ok (.iload 4, 2) := by decide +kernel
theorem dX7_of_137 : decode cX7_of 137 = .ok (.i2l, 1) := by decide +kernel
theorem dX7_of_138 : decode cX7_of 138 = .ok (.aload_n 0, 1) := by decide +kernel
theorem dX7_of_139 : decode cX7_of 139 = .ok (.getfield 51, 3) := by decide +kernel
theorem dX7_of_142 : decode cX7_of 142 = .ok (.iconst 4, 1) := by decide +kernel
theorem dX7_of_143 : decode cX7_of 143 = .ok (.iaload, 1) := by decide +kernel
theorem dX7_of_144 : decode cX7_of 144 = .ok (.i2l, 1) := by decide +kernel
theorem dX7_of_145 : decode cX7_of 145 = .ok (.lmul, 1) := by decide +kernel
theorem dX7_of_146 : decode cX7_of 146 = .ok (.ldc2_w 170, 3) := by decide +kernel
theorem dX7_of_149 : decode cX7_of 149 = .ok (.invokestatic 172, 3) := by decide +kernel
theorem dX7_of_152 : decode cX7_of 152 = .ok (.ireturn, 1) := by decide +kernel
theorem dX7_of_153 : decode cX7_of 153 = .ok (.iconst (-1), 1) := by decide +kernel
theorem dX7_of_154 : decode cX7_of 154 = .ok (.ireturn, 1) := by decide +kernel
theorem dX7_sets_0 : decode cX7_sets 0 = .ok (.aload_n 0, 1) := by decide +kernel
theorem dX7_sets_1 : decode cX7_sets 1 = .ok (.invokevirtual 136, 3) := by decide +kernel
theorem dX7_sets_4 : decode cX7_sets 4 = .ok (.aload_n 0, 1) := by decide +kernel
theorem dX7_sets_5 : decode cX7_sets 5 = .ok (.getfield 47, 3) := by decide +kernel
theorem dX7_sets_8 : decode cX7_sets 8 = .ok (.getfield 176, 3) := by decide +kernel
theorem dX7_sets_11 : decode cX7_sets 11 = .ok (.ireturn, 1) := by decide +kernel
theorem dX7_goes_0 : decode cX7_goes 0 = .ok (.aload_n 0, 1) := by decide +kernel
theorem dX7_goes_1 : decode cX7_goes 1 = .ok (.invokevirtual 136, 3) := by decide +kernel
theorem dX7_goes_4 : decode cX7_goes 4 = .ok (.iload_n 1, 1) := by decide +kernel
theorem dX7_goes_5 : decode cX7_goes 5 = .ok (.iconst 0, 1) := by decide +kernel
theorem dX7_goes_6 : decode cX7_goes 6 = .ok (.aload_n 0, 1) := by decide +kernel
theorem dX7_goes_7 : decode cX7_goes 7 = .ok (.getfield 47, 3) := by decide +kernel
theorem dX7_goes_10 : decode cX7_goes 10 = .ok (.getfield 176, 3) := by decide +kernel
theorem dX7_goes_13 : decode cX7_goes 13 = .ok (.iconst 1, 1) := by decide +kernel
theorem dX7_goes_14 : decode cX7_goes 14 = .ok (.isub, 1) := by decide +kernel
theorem dX7_goes_15 : decode cX7_goes 15 = .ok (.invokestatic 73, 3) := by decide +kernel
theorem dX7_goes_18 : decode cX7_goes 18 = .ok (.ifCond .ne 5, 3) := by decide +kernel
theorem dX7_goes_21 : decode cX7_goes 21 = .ok (.iconst (-1), 1) := by decide +kernel
theorem dX7_goes_22 : decode cX7_goes 22 = .ok (.ireturn, 1) := by decide +kernel
theorem dX7_goes_23 : decode cX7_goes 23 = .ok (.aload_n 0, 1) := by decide +kernel
theorem dX7_goes_24 : decode cX7_goes 24 = .ok (.getfield 12, 3) := by decide +kernel
theorem dX7_goes_27 : decode cX7_goes 27 = .ok (.aload_n 0, 1) := by decide +kernel
theorem dX7_goes_28 : decode cX7_goes 28 = .ok (.getfield 47, 3) := by decide +kernel
theorem dX7_goes_31 : decode cX7_goes 31 = .ok (.iload_n 1, 1) := by decide +kernel
theorem dX7_goes_32 : decode cX7_goes 32 = .ok (.invokevirtual 179, 3) := by decide +kernel
theorem dX7_goes_35 : decode cX7_goes 35 = .ok (.invokevirtual 133, 3) := by decide +kernel
theorem dX7_goes_38 : decode cX7_goes 38 = .ok (.aload_n 0, 1) := by decide +kernel
theorem dX7_goes_39 : decode cX7_goes 39 = .ok (.getfield 12, 3) := by decide +kernel
theorem dX7_goes_42 : decode cX7_goes 42 = .ok (.aload_n 0, 1) := by decide +kernel
theorem dX7_goes_43 : decode cX7_goes 43 = .ok (.getfield 47, 3) := by decide +kernel
theorem dX7_goes_46 : decode cX7_goes 46 = .ok (.iload_n 1, 1) := by decide +kernel
theorem dX7_goes_47 : decode cX7_goes 47 = .ok (.invokevirtual 182, 3) := by decide +kernel
theorem dX7_goes_50 : decode cX7_goes 50 = .ok (.invokevirtual 133, 3) := by decide +kernel
theorem dX7_goes_53 : decode cX7_goes 53 = .ok (.isub, 1) := by decide +kernel
theorem dX7_goes_54 : decode cX7_goes 54 = .ok (.ireturn, 1) := by decide +kernel
theorem dX7_sweep_0 : decode cX7_sweep 0 = .ok (.iload_n 1, 1) := by decide +kernel
theorem dX7_sweep_1 : decode cX7_sweep 1 = .ok (.invokestatic 84, 3) := by decide +kernel
theorem dX7_sweep_4 : decode cX7_sweep 4 = .ok (.ifCond .ne 5, 3) := by decide +kernel
theorem dX7_sweep_7 : decode cX7_sweep 7 = .ok (.iconst (-1), 1) := by decide +kernel
theorem dX7_sweep_8 : decode cX7_sweep 8 = .ok (.ireturn, 1) := by decide +kernel
theorem dX7_sweep_9 : decode cX7_sweep 9 = .ok (.aload_n 0, 1) := by decide +kernel
theorem dX7_sweep_10 : decode cX7_sweep 10 = .ok (.invokevirtual 136, 3) := by decide +kernel
theorem dX7_sweep_13 : decode cX7_sweep 13 = .ok (.aload_n 0, 1) := by decide +kernel
theorem dX7_sweep_14 : decode cX7_sweep 14 = .ok (.getfield 40, 3) := by decide +kernel
theorem dX7_sweep_17 : decode cX7_sweep 17 = .ok (.iload_n 1, 1) := by decide +kernel
theorem dX7_sweep_18 : decode cX7_sweep 18 = .ok (.aload_n 0, 1) := by decide +kernel
theorem dX7_sweep_19 : decode cX7_sweep 19 = .ok (.getfield 19, 3) := by decide +kernel
theorem dX7_sweep_22 : decode cX7_sweep 22 = .ok (.invokevirtual 185, 3) := by decide +kernel
theorem dX7_sweep_25 : decode cX7_sweep 25 = .ok (.istore_n 3, 1) := by decide +kernel
theorem dX7_sweep_26 : decode cX7_sweep 26 = .ok (.iload_n 3, 1) := by decide +kernel
theorem dX7_sweep_27 : decode cX7_sweep 27 = .ok (.invokestatic 189, 3) := by decide +kernel
theorem dX7_sweep_30 : decode cX7_sweep 30 = .ok (.istore 4, 2) := by decide +kernel
theorem dX7_sweep_32 : decode cX7_sweep 32 = .ok (.iload_n 2, 1) := by decide +kernel
theorem dX7_sweep_33 : decode cX7_sweep 33 = .ok (.tableswitch 56 0 2 #[27, 37, 39], 27) := by decide +kernel
theorem dX7_sweep_60 : decode cX7_sweep 60 = .ok (.iload 4, 2) := by decide +kernel
theorem dX7_sweep_62 : decode cX7_sweep 62 = .ok (.i2l, 1) := by decide +kernel
theorem dX7_sweep_63 : decode cX7_sweep 63 = .ok (.ldc2_w 194, 3) := by decide +kernel
theorem dX7_sweep_66 : decode cX7_sweep 66 = .ok (.invokestatic 172, 3) := by decide +kernel
theorem dX7_sweep_69 : decode cX7_sweep 69 = .ok (.ireturn, 1) := by decide +kernel
theorem dX7_sweep_70 : decode cX7_sweep 70 = .ok (.iload_n 3, 1) := by decide +kernel
theorem dX7_sweep_71 : decode cX7_sweep 71 = .ok (.ireturn, 1) := by decide +kernel
theorem dX7_sweep_72 : decode cX7_sweep 72 = .ok (.iload 4, 2) := by decide +kernel
theorem dX7_sweep_74 : decode cX7_sweep 74 = .ok (.ifCond .le 13, 3) := by decide +kernel
theorem dX7_sweep_77 : decode cX7_sweep 77 = .ok (.aload_n 0, 1) := by decide +kernel
theorem dX7_sweep_78 : decode cX7_sweep 78 = .ok (.iload_n 1, 1) := by decide +kernel
theorem dX7_sweep_79 : decode cX7_sweep 79 = .ok (.iload 4, 2) := by decide +kernel
theorem dX7_sweep_81 : decode cX7_sweep 81 = .ok (.invokevirtual 196, 3) := by decide +kernel
theorem dX7_sweep_84 : decode cX7_sweep 84 = .ok (.goto 4, 3) := by decide +kernel
theorem dX7_sweep_87 : decode cX7_sweep 87 = .ok (.iconst (-1), 1) := by decide +kernel
theorem dX7_sweep_88 : decode cX7_sweep 88 = .ok (.ireturn, 1) := by decide +kernel
theorem dX7_sweep_89 : decode cX7_sweep 89 = .ok (.iconst (-1), 1) := by decide +kernel
theorem dX7_sweep_90 : decode cX7_sweep 90 = .ok (.ireturn, 1) := by decide +kernel
theorem dX7_sweepersCome_0 : decode cX7_sweepersCome 0 = .ok (.aload_n 0, 1) := by decide +kernel
theorem dX7_sweepersCome_1 : decode cX7_sweepersCome 1 = .ok (.getfield 40, 3) := by decide +kernel
theorem dX7_sweepersCome_4 : decode cX7_sweepersCome 4 = .ok (.iload_n 1, 1) := by decide +kernel
theorem dX7_sweepersCome_5 : decode cX7_sweepersCome 5 = .ok (.invokevirtual 200, 3) := by decide +kernel
theorem dX7_sweepersCome_8 : decode cX7_sweepersCome 8 = .ok (.bipush 60, 2) := by decide +kernel
theorem dX7_sweepersCome_10 : decode cX7_sweepersCome 10 = .ok (.iadd, 1) := by decide +kernel
theorem dX7_sweepersCome_11 : decode cX7_sweepersCome 11 = .ok (.istore_n 3, 1) := by decide +kernel
theorem dX7_sweepersCome_12 : decode cX7_sweepersCome 12 = .ok (.iload_n 3, 1) := by decide +kernel
theorem dX7_sweepersCome_13 : decode cX7_sweepersCome 13 = .ok (.aload_n 0, 1) := by decide +kernel
theorem dX7_sweepersCome_14 : decode cX7_sweepersCome 14 = .ok (.getfield 12, 3) := by decide +kernel
theorem dX7_sweepersCome_17 : decode cX7_sweepersCome 17 = .ok (.getfield 77, 3) := by decide +kernel
theorem dX7_sweepersCome_20 : decode cX7_sweepersCome 20 = .ok (.iload_n 1, 1) := by decide +kernel
theorem dX7_sweepersCome_21 : decode cX7_sweepersCome 21 = .ok (.iaload, 1) := by decide +kernel
theorem dX7_sweepersCome_22 : decode cX7_sweepersCome 22 = .ok (.bipush 30, 2) := by decide +kernel
theorem dX7_sweepersCome_24 : decode cX7_sweepersCome 24 = .ok (.invokestatic 203, 3) := by decide +kernel
theorem dX7_sweepersCome_27 : decode cX7_sweepersCome 27 = .ok (.iadd, 1) := by decide +kernel
theorem dX7_sweepersCome_28 : decode cX7_sweepersCome 28 = .ok (.bipush 15, 2) := by decide +kernel
theorem dX7_sweepersCome_30 : decode cX7_sweepersCome 30 = .ok (.iload_n 2, 1) := by decide +kernel
theorem dX7_sweepersCome_31 : decode cX7_sweepersCome 31 = .ok (.imul, 1) := by decide +kernel
theorem dX7_sweepersCome_32 : decode cX7_sweepersCome 32 = .ok (.iadd, 1) := by decide +kernel
theorem dX7_sweepersCome_33 : decode cX7_sweepersCome 33 = .ok (.ireturn, 1) := by decide +kernel
theorem dX7_settle_0 : decode cX7_settle 0 = .ok (.aload_n 0, 1) := by decide +kernel
theorem dX7_settle_1 : decode cX7_settle 1 = .ok (.getfield 65, 3) := by decide +kernel
theorem dX7_settle_4 : decode cX7_settle 4 = .ok (.ifCond .ne 4, 3) := by decide +kernel
theorem dX7_settle_7 : decode cX7_settle 7 = .ok (.return_, 1) := by decide +kernel
theorem dX7_settle_8 : decode cX7_settle 8 = .ok (.aload_n 0, 1) := by decide +kernel
theorem dX7_settle_9 : decode cX7_settle 9 = .ok (.getfield 40, 3) := by decide +kernel
theorem dX7_settle_12 : decode cX7_settle 12 = .ok (.aload_n 0, 1) := by decide +kernel
theorem dX7_settle_13 : decode cX7_settle 13 = .ok (.getfield 12, 3) := by decide +kernel
theorem dX7_settle_16 : decode cX7_settle 16 = .ok (.aload_n 0, 1) := by decide +kernel
theorem dX7_settle_17 : decode cX7_settle 17 = .ok (.getfield 19, 3) := by decide +kernel
theorem dX7_settle_20 : decode cX7_settle 20 = .ok (.aload_n 0, 1) := by decide +kernel
theorem dX7_settle_21 : decode cX7_settle 21 = .ok (.getfield 58, 3) := by decide +kernel
theorem dX7_settle_24 : decode cX7_settle 24 = .ok (.invokevirtual 206, 3) := by decide +kernel
theorem dX7_settle_27 : decode cX7_settle 27 = .ok (.aload_n 0, 1) := by decide +kernel
theorem dX7_settle_28 : decode cX7_settle 28 = .ok (.getfield 47, 3) := by decide +kernel
theorem dX7_settle_31 : decode cX7_settle 31 = .ok (.aload_n 0, 1) := by decide +kernel
theorem dX7_settle_32 : decode cX7_settle 32 = .ok (.getfield 12, 3) := by decide +kernel
theorem dX7_settle_35 : decode cX7_settle 35 = .ok (.aload_n 0, 1) := by decide +kernel
theorem dX7_settle_36 : decode cX7_settle 36 = .ok (.getfield 40, 3) := by decide +kernel
theorem dX7_settle_39 : decode cX7_settle 39 = .ok (.aload_n 0, 1) := by decide +kernel
theorem dX7_settle_40 : decode cX7_settle 40 = .ok (.getfield 51, 3) := by decide +kernel
theorem dX7_settle_43 : decode cX7_settle 43 = .ok (.invokevirtual 210, 3) := by decide +kernel
theorem dX7_settle_46 : decode cX7_settle 46 = .ok (.aload_n 0, 1) := by decide +kernel
theorem dX7_settle_47 : decode cX7_settle 47 = .ok (.iconst 0, 1) := by decide +kernel
theorem dX7_settle_48 : decode cX7_settle 48 = .ok (.putfield 65, 3) := by decide +kernel
theorem dX7_settle_51 : decode cX7_settle 51 = .ok (.return_, 1) := by decide +kernel
theorem dX7_within_0 : decode cX7_within 0 = .ok (.iload_n 1, 1) := by decide +kernel
theorem dX7_within_1 : decode cX7_within 1 = .ok (.iload_n 0, 1) := by decide +kernel
theorem dX7_within_2 : decode cX7_within 2 = .ok (.if_icmp .gt 12, 3) := by decide +kernel
theorem dX7_within_5 : decode cX7_within 5 = .ok (.iload_n 0, 1) := by decide +kernel
theorem dX7_within_6 : decode cX7_within 6 = .ok (.iload_n 2, 1) := by decide +kernel
theorem dX7_within_7 : decode cX7_within 7 = .ok (.if_icmp .gt 7, 3) := by decide +kernel
theorem dX7_within_10 : decode cX7_within 10 = .ok (.iconst 1, 1) := by decide +kernel
theorem dX7_within_11 : decode cX7_within 11 = .ok (.goto 4, 3) := by decide +kernel
theorem dX7_within_14 : decode cX7_within 14 = .ok (.iconst 0, 1) := by decide +kernel
theorem dX7_within_15 : decode cX7_within 15 = .ok (.ireturn, 1) := by decide +kernel
theorem dX7_isStage_0 : decode cX7_isStage 0 = .ok (.iload_n 0, 1) := by decide +kernel
theorem dX7_isStage_1 : decode cX7_isStage 1 = .ok (.iconst 0, 1) := by decide +kernel
theorem dX7_isStage_2 : decode cX7_isStage 2 = .ok (.bipush 6, 2) := by decide +kernel
theorem dX7_isStage_4 : decode cX7_isStage 4 = .ok (.invokestatic 73, 3) := by decide +kernel
theorem dX7_isStage_7 : decode cX7_isStage 7 = .ok (.ireturn, 1) := by decide +kernel
theorem dX7_isCamp_0 : decode cX7_isCamp 0 = .ok (.iload_n 0, 1) := by decide +kernel
theorem dX7_isCamp_1 : decode cX7_isCamp 1 = .ok (.iconst 1, 1) := by decide +kernel
theorem dX7_isCamp_2 : decode cX7_isCamp 2 = .ok (.bipush 7, 2) := by decide +kernel
theorem dX7_isCamp_4 : decode cX7_isCamp 4 = .ok (.invokestatic 73, 3) := by decide +kernel
theorem dX7_isCamp_7 : decode cX7_isCamp 7 = .ok (.ireturn, 1) := by decide +kernel
theorem dX7_divideUpwards_0 : decode cX7_divideUpwards 0 = .ok (.lload_n 2, 1) := by decide +kernel
theorem dX7_divideUpwards_1 : decode cX7_divideUpwards 1 = .ok (.lconst 1, 1) := by decide +kernel
theorem dX7_divideUpwards_2 : decode cX7_divideUpwards 2 = .ok (.lcmp, 1) := by decide +kernel
theorem dX7_divideUpwards_3 : decode cX7_divideUpwards 3 = .ok (.ifCond .ge 7, 3) := by decide +kernel
theorem dX7_divideUpwards_6 : decode cX7_divideUpwards 6 = .ok (.iconst 0, 1) := by decide +kernel
theorem dX7_divideUpwards_7 : decode cX7_divideUpwards 7 = .ok (.goto 11, 3) := by decide +kernel
theorem dX7_divideUpwards_10 : decode cX7_divideUpwards 10 = .ok (.lload_n 0, 1) := by decide +kernel
theorem dX7_divideUpwards_11 : decode cX7_divideUpwards 11 = .ok (.lload_n 2, 1) := by decide +kernel
theorem dX7_divideUpwards_12 : decode cX7_divideUpwards 12 = .ok (.ladd, 1) := by decide +kernel
theorem dX7_divideUpwards_13 : decode cX7_divideUpwards 13 = .ok (.lconst 1, 1) := by decide +kernel
theorem dX7_divideUpwards_14 : decode cX7_divideUpwards 14 = .ok (.lsub, 1) := by decide +kernel
theorem dX7_divideUpwards_15 : decode cX7_divideUpwards 15 = .ok (.lload_n 2, 1) := by decide +kernel
theorem dX7_divideUpwards_16 : decode cX7_divideUpwards 16 = .ok (.ldiv, 1) := by decide +kernel
theorem dX7_divideUpwards_17 : decode cX7_divideUpwards 17 = .ok (.l2i, 1) := by decide +kernel
theorem dX7_divideUpwards_18 : decode cX7_divideUpwards 18 = .ok (.ireturn, 1) := by decide +kernel
theorem dX7_minutesFor_0 : decode cX7_minutesFor 0 = .ok (.iload_n 0, 1) := by decide +kernel
theorem dX7_minutesFor_1 : decode cX7_minutesFor 1 = .ok (.i2l, 1) := by decide +kernel
theorem dX7_minutesFor_2 : decode cX7_minutesFor 2 = .ok (.ldc2_w 214, 3) := by decide +kernel
theorem dX7_minutesFor_5 : decode cX7_minutesFor 5 = .ok (.lmul, 1) := by decide +kernel
theorem dX7_minutesFor_6 : decode cX7_minutesFor 6 = .ok (.iload_n 1, 1) := by decide +kernel
theorem dX7_minutesFor_7 : decode cX7_minutesFor 7 = .ok (.i2l, 1) := by decide +kernel
theorem dX7_minutesFor_8 : decode cX7_minutesFor 8 = .ok (.invokestatic 172, 3) := by decide +kernel
theorem dX7_minutesFor_11 : decode cX7_minutesFor 11 = .ok (.ireturn, 1) := by decide +kernel
theorem dJ6_bitCount_0f7a4_0 : decode cJ6_bitCount_0f7a4 0 = .ok (.iload_n 0, 1) := by decide +kernel
theorem dJ6_bitCount_0f7a4_1 : decode cJ6_bitCount_0f7a4 1 = .ok (.iload_n 0, 1) := by decide +kernel
theorem dJ6_bitCount_0f7a4_2 : decode cJ6_bitCount_0f7a4 2 = .ok (.iconst 1, 1) := by decide +kernel
theorem dJ6_bitCount_0f7a4_3 : decode cJ6_bitCount_0f7a4 3 = .ok (.iushr, 1) := by decide +kernel
theorem dJ6_bitCount_0f7a4_4 : decode cJ6_bitCount_0f7a4 4 = .ok (.ldc_w 265, 3) := by decide +kernel
theorem dJ6_bitCount_0f7a4_7 : decode cJ6_bitCount_0f7a4 7 = .ok (.iand, 1) := by decide +kernel
theorem dJ6_bitCount_0f7a4_8 : decode cJ6_bitCount_0f7a4 8 = .ok (.isub, 1) := by decide +kernel
theorem dJ6_bitCount_0f7a4_9 : decode cJ6_bitCount_0f7a4 9 = .ok (.istore_n 0, 1) := by decide +kernel
theorem dJ6_bitCount_0f7a4_10 : decode cJ6_bitCount_0f7a4 10 = .ok (.iload_n 0, 1) := by decide +kernel
theorem dJ6_bitCount_0f7a4_11 : decode cJ6_bitCount_0f7a4 11 = .ok (.ldc_w 266, 3) := by decide +kernel
theorem dJ6_bitCount_0f7a4_14 : decode cJ6_bitCount_0f7a4 14 = .ok (.iand, 1) := by decide +kernel
theorem dJ6_bitCount_0f7a4_15 : decode cJ6_bitCount_0f7a4 15 = .ok (.iload_n 0, 1) := by decide +kernel
theorem dJ6_bitCount_0f7a4_16 : decode cJ6_bitCount_0f7a4 16 = .ok (.iconst 2, 1) := by decide +kernel
theorem dJ6_bitCount_0f7a4_17 : decode cJ6_bitCount_0f7a4 17 = .ok (.iushr, 1) := by decide +kernel
theorem dJ6_bitCount_0f7a4_18 : decode cJ6_bitCount_0f7a4 18 = .ok (.ldc_w 266, 3) := by decide +kernel
theorem dJ6_bitCount_0f7a4_21 : decode cJ6_bitCount_0f7a4 21 = .ok (.iand, 1) := by decide +kernel
theorem dJ6_bitCount_0f7a4_22 : decode cJ6_bitCount_0f7a4 22 = .ok (.iadd, 1) := by decide +kernel
theorem dJ6_bitCount_0f7a4_23 : decode cJ6_bitCount_0f7a4 23 = .ok (.istore_n 0, 1) := by decide +kernel
theorem dJ6_bitCount_0f7a4_24 : decode cJ6_bitCount_0f7a4 24 = .ok (.iload_n 0, 1) := by decide +kernel
theorem dJ6_bitCount_0f7a4_25 : decode cJ6_bitCount_0f7a4 25 = .ok (.iload_n 0, 1) := by decide +kernel
theorem dJ6_bitCount_0f7a4_26 : decode cJ6_bitCount_0f7a4 26 = .ok (.iconst 4, 1) := by decide +kernel
theorem dJ6_bitCount_0f7a4_27 : decode cJ6_bitCount_0f7a4 27 = .ok (.iushr, 1) := by decide +kernel
theorem dJ6_bitCount_0f7a4_28 : decode cJ6_bitCount_0f7a4 28 = .ok (.iadd, 1) := by decide +kernel
theorem dJ6_bitCount_0f7a4_29 : decode cJ6_bitCount_0f7a4 29 = .ok (.ldc_w 267, 3) := by decide +kernel
theorem dJ6_bitCount_0f7a4_32 : decode cJ6_bitCount_0f7a4 32 = .ok (.iand, 1) := by decide +kernel
theorem dJ6_bitCount_0f7a4_33 : decode cJ6_bitCount_0f7a4 33 = .ok (.istore_n 0, 1) := by decide +kernel
theorem dJ6_bitCount_0f7a4_34 : decode cJ6_bitCount_0f7a4 34 = .ok (.iload_n 0, 1) := by decide +kernel
theorem dJ6_bitCount_0f7a4_35 : decode cJ6_bitCount_0f7a4 35 = .ok (.iload_n 0, 1) := by decide +kernel
theorem dJ6_bitCount_0f7a4_36 : decode cJ6_bitCount_0f7a4 36 = .ok (.bipush 8, 2) := by decide +kernel
theorem dJ6_bitCount_0f7a4_38 : decode cJ6_bitCount_0f7a4 38 = .ok (.iushr, 1) := by decide +kernel
theorem dJ6_bitCount_0f7a4_39 : decode cJ6_bitCount_0f7a4 39 = .ok (.iadd, 1) := by decide +kernel
theorem dJ6_bitCount_0f7a4_40 : decode cJ6_bitCount_0f7a4 40 = .ok (.istore_n 0, 1) := by decide +kernel
theorem dJ6_bitCount_0f7a4_41 : decode cJ6_bitCount_0f7a4 41 = .ok (.iload_n 0, 1) := by decide +kernel
theorem dJ6_bitCount_0f7a4_42 : decode cJ6_bitCount_0f7a4 42 = .ok (.iload_n 0, 1) := by decide +kernel
theorem dJ6_bitCount_0f7a4_43 : decode cJ6_bitCount_0f7a4 43 = .ok (.bipush 16, 2) := by decide +kernel
theorem dJ6_bitCount_0f7a4_45 : decode cJ6_bitCount_0f7a4 45 = .ok (.iushr, 1) := by decide +kernel
theorem dJ6_bitCount_0f7a4_46 : decode cJ6_bitCount_0f7a4 46 = .ok (.iadd, 1) := by decide +kernel
theorem dJ6_bitCount_0f7a4_47 : decode cJ6_bitCount_0f7a4 47 = .ok (.istore_n 0, 1) := by decide +kernel
theorem dJ6_bitCount_0f7a4_48 : decode cJ6_bitCount_0f7a4 48 = .ok (.iload_n 0, 1) := by decide +kernel
theorem dJ6_bitCount_0f7a4_49 : decode cJ6_bitCount_0f7a4 49 = .ok (.bipush 63, 2) := by decide +kernel
theorem dJ6_bitCount_0f7a4_51 : decode cJ6_bitCount_0f7a4 51 = .ok (.iand, 1) := by decide +kernel
theorem dJ6_bitCount_0f7a4_52 : decode cJ6_bitCount_0f7a4 52 = .ok (.ireturn, 1) := by decide +kernel
theorem dJ9_max_7cf53_0 : decode cJ9_max_7cf53 0 = .ok (.iload_n 0, 1) := by decide +kernel
theorem dJ9_max_7cf53_1 : decode cJ9_max_7cf53 1 = .ok (.iload_n 1, 1) := by decide +kernel
theorem dJ9_max_7cf53_2 : decode cJ9_max_7cf53 2 = .ok (.if_icmp .lt 7, 3) := by decide +kernel
theorem dJ9_max_7cf53_5 : decode cJ9_max_7cf53 5 = .ok (.iload_n 0, 1) := by decide +kernel
theorem dJ9_max_7cf53_6 : decode cJ9_max_7cf53 6 = .ok (.goto 4, 3) := by decide +kernel
theorem dJ9_max_7cf53_9 : decode cJ9_max_7cf53 9 = .ok (.iload_n 1, 1) := by decide +kernel
theorem dJ9_max_7cf53_10 : decode cJ9_max_7cf53 10 = .ok (.ireturn, 1) := by decide +kernel
theorem dJ9_min_7cf53_0 : decode cJ9_min_7cf53 0 = .ok (.iload_n 0, 1) := by decide +kernel
theorem dJ9_min_7cf53_1 : decode cJ9_min_7cf53 1 = .ok (.iload_n 1, 1) := by decide +kernel
theorem dJ9_min_7cf53_2 : decode cJ9_min_7cf53 2 = .ok (.if_icmp .gt 7, 3) := by decide +kernel
theorem dJ9_min_7cf53_5 : decode cJ9_min_7cf53 5 = .ok (.iload_n 0, 1) := by decide +kernel
theorem dJ9_min_7cf53_6 : decode cJ9_min_7cf53 6 = .ok (.goto 4, 3) := by decide +kernel
theorem dJ9_min_7cf53_9 : decode cJ9_min_7cf53 9 = .ok (.iload_n 1, 1) := by decide +kernel
theorem dJ9_min_7cf53_10 : decode cJ9_min_7cf53 10 = .ok (.ireturn, 1) := by decide +kernel
theorem dJ0_length_8abf5_0 : decode cJ0_length_8abf5 0 = .ok (.aload_n 0, 1) := by decide +kernel
theorem dJ0_length_8abf5_1 : decode cJ0_length_8abf5 1 = .ok (.getfield 9, 3) := by decide +kernel
theorem dJ0_length_8abf5_4 : decode cJ0_length_8abf5 4 = .ok (.arraylength, 1) := by decide +kernel
theorem dJ0_length_8abf5_5 : decode cJ0_length_8abf5 5 = .ok (.aload_n 0, 1) := by decide +kernel
theorem dJ0_length_8abf5_6 : decode cJ0_length_8abf5 6 = .ok (.invokevirtual 335, 3) := by decide +kernel
theorem dJ0_length_8abf5_9 : decode cJ0_length_8abf5 9 = .ok (.ishr, 1) := by decide +kernel
theorem dJ0_length_8abf5_10 : decode cJ0_length_8abf5 10 = .ok (.ireturn, 1) := by decide +kernel
theorem dJ0_charAt_5068e_0 : decode cJ0_charAt_5068e 0 = .ok (.aload_n 0, 1) := by decide +kernel
theorem dJ0_charAt_5068e_1 : decode cJ0_charAt_5068e 1 = .ok (.invokevirtual 492, 3) := by decide +kernel
theorem dJ0_charAt_5068e_4 : decode cJ0_charAt_5068e 4 = .ok (.ifCond .eq 12, 3) := by decide +kernel
theorem dJ0_charAt_5068e_7 : decode cJ0_charAt_5068e 7 = .ok (.aload_n 0, 1) := by decide +kernel
theorem dJ0_charAt_5068e_8 : decode cJ0_charAt_5068e 8 = .ok (.getfield 9, 3) := by decide +kernel
theorem dJ0_charAt_5068e_11 : decode cJ0_charAt_5068e 11 = .ok (.iload_n 1, 1) := by decide +kernel
theorem dJ0_charAt_5068e_12 : decode cJ0_charAt_5068e 12 = .ok (.invokestatic 495, 3) := by decide +kernel
theorem dJ0_charAt_5068e_15 : decode cJ0_charAt_5068e 15 = .ok (.ireturn, 1) := by decide +kernel
theorem dJ0_charAt_5068e_16 : decode cJ0_charAt_5068e 16 = .ok (.aload_n 0, 1) := by decide +kernel
theorem dJ0_charAt_5068e_17 : decode cJ0_charAt_5068e 17 = .ok (.getfield 9, 3) := by decide +kernel
theorem dJ0_charAt_5068e_20 : decode cJ0_charAt_5068e 20 = .ok (.iload_n 1, 1) := by decide +kernel
theorem dJ0_charAt_5068e_21 : decode cJ0_charAt_5068e 21 = .ok (.invokestatic 498, 3) := by decide +kernel
theorem dJ0_charAt_5068e_24 : decode cJ0_charAt_5068e 24 = .ok (.ireturn, 1) := by decide +kernel
theorem dJ0_coder_7d493_0 : decode cJ0_coder_7d493 0 = .ok (.getstatic 38, 3) := by decide +kernel
theorem dJ0_coder_7d493_3 : decode cJ0_coder_7d493 3 = .ok (.ifCond .eq 10, 3) := by decide +kernel
theorem dJ0_coder_7d493_6 : decode cJ0_coder_7d493 6 = .ok (.aload_n 0, 1) := by decide +kernel
theorem dJ0_coder_7d493_7 : decode cJ0_coder_7d493 7 = .ok (.getfield 15, 3) := by decide +kernel
theorem dJ0_coder_7d493_10 : decode cJ0_coder_7d493 10 = .ok (.goto 4, 3) := by decide +kernel
theorem dJ0_coder_7d493_13 : decode cJ0_coder_7d493 13 = .ok (.iconst 1, 1) := by decide +kernel
theorem dJ0_coder_7d493_14 : decode cJ0_coder_7d493 14 = .ok (.ireturn, 1) := by decide +kernel
theorem dJ0_isLatin1_aae02_0 : decode cJ0_isLatin1_aae02 0 = .ok (.getstatic 38, 3) := by decide +kernel
theorem dJ0_isLatin1_aae02_3 : decode cJ0_isLatin1_aae02 3 = .ok (.ifCond .eq 14, 3) := by decide +kernel
theorem dJ0_isLatin1_aae02_6 : decode cJ0_isLatin1_aae02 6 = .ok (.aload_n 0, 1) := by decide +kernel
theorem dJ0_isLatin1_aae02_7 : decode cJ0_isLatin1_aae02 7 = .ok (.getfield 15, 3) := by decide +kernel
theorem dJ0_isLatin1_aae02_10 : decode cJ0_isLatin1_aae02 10 = .ok (.ifCond .ne 7, 3) := by decide +kernel
theorem dJ0_isLatin1_aae02_13 : decode cJ0_isLatin1_aae02 13 = .ok (.iconst 1, 1) := by decide +kernel
theorem dJ0_isLatin1_aae02_14 : decode cJ0_isLatin1_aae02 14 = .ok (.goto 4, 3) := by decide +kernel
theorem dJ0_isLatin1_aae02_17 : decode cJ0_isLatin1_aae02 17 = .ok (.iconst 0, 1) := by decide +kernel
theorem dJ0_isLatin1_aae02_18 : decode cJ0_isLatin1_aae02 18 = .ok (.ireturn, 1) := by decide +kernel
theorem dJ0_checkIndex_df160_0 : decode cJ0_checkIndex_df160 0 = .ok (.iload_n 0, 1) := by decide +kernel
theorem dJ0_checkIndex_df160_1 : decode cJ0_checkIndex_df160 1 = .ok (.iload_n 1, 1) := by decide +kernel
theorem dJ0_checkIndex_df160_2 : decode cJ0_checkIndex_df160 2 = .ok (.getstatic 1053, 3) := by decide +kernel
theorem dJ0_checkIndex_df160_5 : decode cJ0_checkIndex_df160 5 = .ok (.invokestatic 1059, 3) := by decide +kernel
theorem dJ0_checkIndex_df160_8 : decode cJ0_checkIndex_df160 8 = .ok (.pop, 1) := by decide +kernel
theorem dJ0_checkIndex_df160_9 : decode cJ0_checkIndex_df160 9 = .ok (.return_, 1) := by decide +kernel
theorem dJ1_charAt_3b067_0 : decode cJ1_charAt_3b067 0 = .ok (.iload_n 1, 1) := by decide +kernel
theorem dJ1_charAt_3b067_1 : decode cJ1_charAt_3b067 1 = .ok (.aload_n 0, 1) := by decide +kernel
theorem dJ1_charAt_3b067_2 : decode cJ1_charAt_3b067 2 = .ok (.arraylength, 1) := by decide +kernel
theorem dJ1_charAt_3b067_3 : decode cJ1_charAt_3b067 3 = .ok (.invokestatic 9, 3) := by decide +kernel
theorem dJ1_charAt_3b067_6 : decode cJ1_charAt_3b067 6 = .ok (.aload_n 0, 1) := by decide +kernel
theorem dJ1_charAt_3b067_7 : decode cJ1_charAt_3b067 7 = .ok (.iload_n 1, 1) := by decide +kernel
theorem dJ1_charAt_3b067_8 : decode cJ1_charAt_3b067 8 = .ok (.baload, 1) := by decide +kernel
theorem dJ1_charAt_3b067_9 : decode cJ1_charAt_3b067 9 = .ok (.sipush 255, 3) := by decide +kernel
theorem dJ1_charAt_3b067_12 : decode cJ1_charAt_3b067 12 = .ok (.iand, 1) := by decide +kernel
theorem dJ1_charAt_3b067_13 : decode cJ1_charAt_3b067 13 = .ok (.i2c, 1) := by decide +kernel
theorem dJ1_charAt_3b067_14 : decode cJ1_charAt_3b067 14 = .ok (.ireturn, 1) := by decide +kernel
theorem dJ2_getChar_3b067_0 : decode cJ2_getChar_3b067 0 = .ok (.getstatic 44, 3) := by decide +kernel
theorem dJ2_getChar_3b067_3 : decode cJ2_getChar_3b067 3 = .ok (.ifCond .ne 25, 3) := by decide +kernel
theorem dJ2_getChar_3b067_6 : decode cJ2_getChar_3b067 6 = .ok (.iload_n 1, 1) := by decide +kernel
theorem dJ2_getChar_3b067_7 : decode cJ2_getChar_3b067 7 = .ok (.ifCond .lt 11, 3) := by decide +kernel
theorem dJ2_getChar_3b067_10 : decode cJ2_getChar_3b067 10 = .ok (.iload_n 1, 1) := by decide +kernel
theorem dJ2_getChar_3b067_11 : decode cJ2_getChar_3b067 11 = .ok (.aload_n 0, 1) := by decide +kernel
theorem dJ2_getChar_3b067_12 : decode cJ2_getChar_3b067 12 = .ok (.invokestatic 48, 3) := by decide +kernel
theorem dJ2_getChar_3b067_15 : decode cJ2_getChar_3b067 15 = .ok (.if_icmp .lt 13, 3) := by decide +kernel
theorem dJ2_getChar_3b067_18 : decode cJ2_getChar_3b067 18 = .ok (.new 52, 3) := by decide +kernel
theorem dJ2_getChar_3b067_21 : decode cJ2_getChar_3b067 21 = .ok (.dup, 1) := by decide +kernel
theorem dJ2_getChar_3b067_22 : decode cJ2_getChar_3b067 22 = .ok (.ldc 54, 2) := by decide +kernel
theorem dJ2_getChar_3b067_24 : decode cJ2_getChar_3b067 24 = .ok (.invokespecial 56, 3) := by decide +kernel
theorem dJ2_getChar_3b067_27 : decode cJ2_getChar_3b067 27 = .ok (.athrow, 1) := by decide +kernel
theorem dJ2_getChar_3b067_28 : decode cJ2_getChar_3b067 28 = .ok (.iload_n 1, 1) := by decide +kernel
theorem dJ2_getChar_3b067_29 : decode cJ2_getChar_3b067 29 = .ok (.iconst 1, 1) := by decide +kernel
theorem dJ2_getChar_3b067_30 : decode cJ2_getChar_3b067 30 = .ok (.ishl, 1) := by decide +kernel
theorem dJ2_getChar_3b067_31 : decode cJ2_getChar_3b067 31 = .ok (.istore_n 1, 1) := by decide +kernel
theorem dJ2_getChar_3b067_32 : decode cJ2_getChar_3b067 32 = .ok (.aload_n 0, 1) := by decide +kernel
theorem dJ2_getChar_3b067_33 : decode cJ2_getChar_3b067 33 = .ok (.iload_n 1, 1) := by decide +kernel
theorem dJ2_getChar_3b067_34 : decode cJ2_getChar_3b067 34 = .ok (.iinc 1 1, 3) := by decide +kernel
theorem dJ2_getChar_3b067_37 : decode cJ2_getChar_3b067 37 = .ok (.baload, 1) := by decide +kernel
theorem dJ2_getChar_3b067_38 : decode cJ2_getChar_3b067 38 = .ok (.sipush 255, 3) := by decide +kernel
theorem dJ2_getChar_3b067_41 : decode cJ2_getChar_3b067 41 = .ok (.iand, 1) := by decide +kernel
theorem dJ2_getChar_3b067_42 : decode cJ2_getChar_3b067 42 = .ok (.getstatic 59, 3) := by decide +kernel
theorem dJ2_getChar_3b067_45 : decode cJ2_getChar_3b067 45 = .ok (.ishl, 1) := by decide +kernel
theorem dJ2_getChar_3b067_46 : decode cJ2_getChar_3b067 46 = .ok (.aload_n 0, 1) := by decide +kernel
theorem dJ2_getChar_3b067_47 : decode cJ2_getChar_3b067 47 = .ok (.iload_n 1, 1) := by decide +kernel
theorem dJ2_getChar_3b067_48 : decode cJ2_getChar_3b067 48 = .ok (.baload, 1) := by decide +kernel
theorem dJ2_getChar_3b067_49 : decode cJ2_getChar_3b067 49 = .ok (.sipush 255, 3) := by decide +kernel
theorem dJ2_getChar_3b067_52 : decode cJ2_getChar_3b067 52 = .ok (.iand, 1) := by decide +kernel
theorem dJ2_getChar_3b067_53 : decode cJ2_getChar_3b067 53 = .ok (.getstatic 63, 3) := by decide +kernel
theorem dJ2_getChar_3b067_56 : decode cJ2_getChar_3b067 56 = .ok (.ishl, 1) := by decide +kernel
theorem dJ2_getChar_3b067_57 : decode cJ2_getChar_3b067 57 = .ok (.ior, 1) := by decide +kernel
theorem dJ2_getChar_3b067_58 : decode cJ2_getChar_3b067 58 = .ok (.i2c, 1) := by decide +kernel
theorem dJ2_getChar_3b067_59 : decode cJ2_getChar_3b067 59 = .ok (.ireturn, 1) := by decide +kernel
theorem dJ2_length_9d52b_0 : decode cJ2_length_9d52b 0 = .ok (.aload_n 0, 1) := by decide +kernel
theorem dJ2_length_9d52b_1 : decode cJ2_length_9d52b 1 = .ok (.arraylength, 1) := by decide +kernel
theorem dJ2_length_9d52b_2 : decode cJ2_length_9d52b 2 = .ok (.iconst 1, 1) := by decide +kernel
theorem dJ2_length_9d52b_3 : decode cJ2_length_9d52b 3 = .ok (.ishr, 1) := by decide +kernel
theorem dJ2_length_9d52b_4 : decode cJ2_length_9d52b 4 = .ok (.ireturn, 1) := by decide +kernel
theorem dJ2_charAt_3b067_0 : decode cJ2_charAt_3b067 0 = .ok (.iload_n 1, 1) := by decide +kernel
theorem dJ2_charAt_3b067_1 : decode cJ2_charAt_3b067 1 = .ok (.aload_n 0, 1) := by decide +kernel
theorem dJ2_charAt_3b067_2 : decode cJ2_charAt_3b067 2 = .ok (.invokestatic 67, 3) := by decide +kernel
theorem dJ2_charAt_3b067_5 : decode cJ2_charAt_3b067 5 = .ok (.aload_n 0, 1) := by decide +kernel
theorem dJ2_charAt_3b067_6 : decode cJ2_charAt_3b067 6 = .ok (.iload_n 1, 1) := by decide +kernel
theorem dJ2_charAt_3b067_7 : decode cJ2_charAt_3b067 7 = .ok (.invokestatic 71, 3) := by decide +kernel
theorem dJ2_charAt_3b067_10 : decode cJ2_charAt_3b067 10 = .ok (.ireturn, 1) := by decide +kernel
theorem dJ2_checkIndex_2214a_0 : decode cJ2_checkIndex_2214a 0 = .ok (.iload_n 0, 1) := by decide +kernel
theorem dJ2_checkIndex_2214a_1 : decode cJ2_checkIndex_2214a 1 = .ok (.aload_n 1, 1) := by decide +kernel
theorem dJ2_checkIndex_2214a_2 : decode cJ2_checkIndex_2214a 2 = .ok (.invokestatic 48, 3) := by decide +kernel
theorem dJ2_checkIndex_2214a_5 : decode cJ2_checkIndex_2214a 5 = .ok (.invokestatic 414, 3) := by decide +kernel
theorem dJ2_checkIndex_2214a_8 : decode cJ2_checkIndex_2214a 8 = .ok (.return_, 1) := by decide +kernel
theorem dJ3_checkIndex_8e157_0 : decode cJ3_checkIndex_8e157 0 = .ok (.iload_n 0, 1) := by decide +kernel
theorem dJ3_checkIndex_8e157_1 : decode cJ3_checkIndex_8e157 1 = .ok (.ifCond .lt 8, 3) := by decide +kernel
theorem dJ3_checkIndex_8e157_4 : decode cJ3_checkIndex_8e157 4 = .ok (.iload_n 0, 1) := by decide +kernel
theorem dJ3_checkIndex_8e157_5 : decode cJ3_checkIndex_8e157 5 = .ok (.iload_n 1, 1) := by decide +kernel
theorem dJ3_checkIndex_8e157_6 : decode cJ3_checkIndex_8e157 6 = .ok (.if_icmp .lt 10, 3) := by decide +kernel
theorem dJ3_checkIndex_8e157_9 : decode cJ3_checkIndex_8e157 9 = .ok (.aload_n 2, 1) := by decide +kernel
theorem dJ3_checkIndex_8e157_10 : decode cJ3_checkIndex_8e157 10 = .ok (.iload_n 0, 1) := by decide +kernel
theorem dJ3_checkIndex_8e157_11 : decode cJ3_checkIndex_8e157 11 = .ok (.iload_n 1, 1) := by decide +kernel
theorem dJ3_checkIndex_8e157_12 : decode cJ3_checkIndex_8e157 12 = .ok (.invokestatic 95, 3) := by decide +kernel
theorem dJ3_checkIndex_8e157_15 : decode cJ3_checkIndex_8e157 15 = .ok (.athrow, 1) := by decide +kernel
theorem dJ3_checkIndex_8e157_16 : decode cJ3_checkIndex_8e157 16 = .ok (.iload_n 0, 1) := by decide +kernel
theorem dJ3_checkIndex_8e157_17 : decode cJ3_checkIndex_8e157 17 = .ok (.ireturn, 1) := by decide +kernel
