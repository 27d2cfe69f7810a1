/-! printed by wip/whole/gen3.py: what stands at each place of a method, and what the tables say there -/
-- 4 Writer_init
theorem e4_0 : decode (px_cd 4) 0 = .ok (.aload_n 0, 1) := by decide +kernel
theorem e4_1 : decode (px_cd 4) 1 = .ok (.invokespecial 3, 3) := by decide +kernel
theorem e4_4 : decode (px_cd 4) 4 = .ok (.aload_n 0, 1) := by decide +kernel
theorem e4_5 : decode (px_cd 4) 5 = .ok (.aload_n 1, 1) := by decide +kernel
theorem e4_6 : decode (px_cd 4) 6 = .ok (.putfield 9, 3) := by decide +kernel
theorem e4_9 : decode (px_cd 4) 9 = .ok (.aload_n 0, 1) := by decide +kernel
theorem e4_10 : decode (px_cd 4) 10 = .ok (.iconst 3, 1) := by decide +kernel
theorem e4_11 : decode (px_cd 4) 11 = .ok (.newarray .int, 2) := by decide +kernel
theorem e4_13 : decode (px_cd 4) 13 = .ok (.putfield 15, 3) := by decide +kernel
theorem e4_16 : decode (px_cd 4) 16 = .ok (.return_, 1) := by decide +kernel
-- 40 Writer_writeOut
theorem e40_0 : decode (px_cd 40) 0 = .ok (.aload_n 0, 1) := by decide +kernel
theorem e40_1 : decode (px_cd 40) 1 = .ok (.aload_n 1, 1) := by decide +kernel
theorem e40_2 : decode (px_cd 40) 2 = .ok (.invokevirtual 19, 3) := by decide +kernel
theorem e40_5 : decode (px_cd 40) 5 = .ok (.aload_n 0, 1) := by decide +kernel
theorem e40_6 : decode (px_cd 40) 6 = .ok (.getfield 23, 3) := by decide +kernel
theorem e40_9 : decode (px_cd 40) 9 = .ok (.aload_n 1, 1) := by decide +kernel
theorem e40_10 : decode (px_cd 40) 10 = .ok (.invokestatic 27, 3) := by decide +kernel
theorem e40_13 : decode (px_cd 40) 13 = .ok (.iadd, 1) := by decide +kernel
theorem e40_14 : decode (px_cd 40) 14 = .ok (.istore_n 2, 1) := by decide +kernel
theorem e40_15 : decode (px_cd 40) 15 = .ok (.iload_n 2, 1) := by decide +kernel
theorem e40_16 : decode (px_cd 40) 16 = .ok (.sipush 16384, 3) := by decide +kernel
theorem e40_19 : decode (px_cd 40) 19 = .ok (.if_icmp .le 6, 3) := by decide +kernel
theorem e40_22 : decode (px_cd 40) 22 = .ok (.bipush (-6), 2) := by decide +kernel
theorem e40_24 : decode (px_cd 40) 24 = .ok (.ireturn, 1) := by decide +kernel
theorem e40_25 : decode (px_cd 40) 25 = .ok (.aload_n 0, 1) := by decide +kernel
theorem e40_26 : decode (px_cd 40) 26 = .ok (.getfield 9, 3) := by decide +kernel
theorem e40_29 : decode (px_cd 40) 29 = .ok (.iconst 0, 1) := by decide +kernel
theorem e40_30 : decode (px_cd 40) 30 = .ok (.invokevirtual 33, 3) := by decide +kernel
theorem e40_33 : decode (px_cd 40) 33 = .ok (.pop, 1) := by decide +kernel
theorem e40_34 : decode (px_cd 40) 34 = .ok (.aload_n 0, 1) := by decide +kernel
theorem e40_35 : decode (px_cd 40) 35 = .ok (.aload_n 1, 1) := by decide +kernel
theorem e40_36 : decode (px_cd 40) 36 = .ok (.invokevirtual 39, 3) := by decide +kernel
theorem e40_39 : decode (px_cd 40) 39 = .ok (.aload_n 0, 1) := by decide +kernel
theorem e40_40 : decode (px_cd 40) 40 = .ok (.aload_n 1, 1) := by decide +kernel
theorem e40_41 : decode (px_cd 40) 41 = .ok (.invokevirtual 42, 3) := by decide +kernel
theorem e40_44 : decode (px_cd 40) 44 = .ok (.aload_n 0, 1) := by decide +kernel
theorem e40_45 : decode (px_cd 40) 45 = .ok (.aload_n 1, 1) := by decide +kernel
theorem e40_46 : decode (px_cd 40) 46 = .ok (.invokevirtual 45, 3) := by decide +kernel
theorem e40_49 : decode (px_cd 40) 49 = .ok (.aload_n 0, 1) := by decide +kernel
theorem e40_50 : decode (px_cd 40) 50 = .ok (.getfield 9, 3) := by decide +kernel
theorem e40_53 : decode (px_cd 40) 53 = .ok (.aload_n 0, 1) := by decide +kernel
theorem e40_54 : decode (px_cd 40) 54 = .ok (.getfield 23, 3) := by decide +kernel
theorem e40_57 : decode (px_cd 40) 57 = .ok (.invokevirtual 48, 3) := by decide +kernel
theorem e40_60 : decode (px_cd 40) 60 = .ok (.aload_n 0, 1) := by decide +kernel
theorem e40_61 : decode (px_cd 40) 61 = .ok (.aload_n 1, 1) := by decide +kernel
theorem e40_62 : decode (px_cd 40) 62 = .ok (.invokevirtual 52, 3) := by decide +kernel
theorem e40_65 : decode (px_cd 40) 65 = .ok (.iload_n 2, 1) := by decide +kernel
theorem e40_66 : decode (px_cd 40) 66 = .ok (.ireturn, 1) := by decide +kernel
-- 41 Writer_layOut
theorem e41_0 : decode (px_cd 41) 0 = .ok (.aload_n 0, 1) := by decide +kernel
theorem e41_1 : decode (px_cd 41) 1 = .ok (.iconst 1, 1) := by decide +kernel
theorem e41_2 : decode (px_cd 41) 2 = .ok (.putfield 55, 3) := by decide +kernel
theorem e41_5 : decode (px_cd 41) 5 = .ok (.aload_n 1, 1) := by decide +kernel
theorem e41_6 : decode (px_cd 41) 6 = .ok (.getfield 58, 3) := by decide +kernel
theorem e41_9 : decode (px_cd 41) 9 = .ok (.astore_n 2, 1) := by decide +kernel
theorem e41_10 : decode (px_cd 41) 10 = .ok (.aload_n 2, 1) := by decide +kernel
theorem e41_11 : decode (px_cd 41) 11 = .ok (.arraylength, 1) := by decide +kernel
theorem e41_12 : decode (px_cd 41) 12 = .ok (.istore_n 3, 1) := by decide +kernel
theorem e41_13 : decode (px_cd 41) 13 = .ok (.iconst 0, 1) := by decide +kernel
theorem e41_14 : decode (px_cd 41) 14 = .ok (.istore 4, 2) := by decide +kernel
theorem e41_16 : decode (px_cd 41) 16 = .ok (.iload 4, 2) := by decide +kernel
theorem e41_18 : decode (px_cd 41) 18 = .ok (.iload_n 3, 1) := by decide +kernel
theorem e41_19 : decode (px_cd 41) 19 = .ok (.if_icmp .ge 37, 3) := by decide +kernel
theorem e41_22 : decode (px_cd 41) 22 = .ok (.aload_n 2, 1) := by decide +kernel
theorem e41_23 : decode (px_cd 41) 23 = .ok (.iload 4, 2) := by decide +kernel
theorem e41_25 : decode (px_cd 41) 25 = .ok (.aaload, 1) := by decide +kernel
theorem e41_26 : decode (px_cd 41) 26 = .ok (.astore 5, 2) := by decide +kernel
theorem e41_28 : decode (px_cd 41) 28 = .ok (.aload_n 0, 1) := by decide +kernel
theorem e41_29 : decode (px_cd 41) 29 = .ok (.dup, 1) := by decide +kernel
theorem e41_30 : decode (px_cd 41) 30 = .ok (.getfield 55, 3) := by decide +kernel
theorem e41_33 : decode (px_cd 41) 33 = .ok (.aload 5, 2) := by decide +kernel
theorem e41_35 : decode (px_cd 41) 35 = .ok (.getfield 64, 3) := by decide +kernel
theorem e41_38 : decode (px_cd 41) 38 = .ok (.ifCond .eq 7, 3) := by decide +kernel
theorem e41_41 : decode (px_cd 41) 41 = .ok (.iconst 1, 1) := by decide +kernel
theorem e41_42 : decode (px_cd 41) 42 = .ok (.goto 4, 3) := by decide +kernel
theorem e41_45 : decode (px_cd 41) 45 = .ok (.iconst 0, 1) := by decide +kernel
theorem e41_46 : decode (px_cd 41) 46 = .ok (.iadd, 1) := by decide +kernel
theorem e41_47 : decode (px_cd 41) 47 = .ok (.putfield 55, 3) := by decide +kernel
theorem e41_50 : decode (px_cd 41) 50 = .ok (.iinc 4 1, 3) := by decide +kernel
theorem e41_53 : decode (px_cd 41) 53 = .ok (.goto (-37), 3) := by decide +kernel
theorem e41_56 : decode (px_cd 41) 56 = .ok (.bipush 52, 2) := by decide +kernel
theorem e41_58 : decode (px_cd 41) 58 = .ok (.bipush 32, 2) := by decide +kernel
theorem e41_60 : decode (px_cd 41) 60 = .ok (.aload_n 0, 1) := by decide +kernel
theorem e41_61 : decode (px_cd 41) 61 = .ok (.getfield 55, 3) := by decide +kernel
theorem e41_64 : decode (px_cd 41) 64 = .ok (.imul, 1) := by decide +kernel
theorem e41_65 : decode (px_cd 41) 65 = .ok (.iadd, 1) := by decide +kernel
theorem e41_66 : decode (px_cd 41) 66 = .ok (.istore_n 2, 1) := by decide +kernel
theorem e41_67 : decode (px_cd 41) 67 = .ok (.iconst 0, 1) := by decide +kernel
theorem e41_68 : decode (px_cd 41) 68 = .ok (.istore_n 3, 1) := by decide +kernel
theorem e41_69 : decode (px_cd 41) 69 = .ok (.iload_n 3, 1) := by decide +kernel
theorem e41_70 : decode (px_cd 41) 70 = .ok (.iconst 3, 1) := by decide +kernel
theorem e41_71 : decode (px_cd 41) 71 = .ok (.if_icmp .ge 60, 3) := by decide +kernel
theorem e41_74 : decode (px_cd 41) 74 = .ok (.aload_n 1, 1) := by decide +kernel
theorem e41_75 : decode (px_cd 41) 75 = .ok (.getfield 58, 3) := by decide +kernel
theorem e41_78 : decode (px_cd 41) 78 = .ok (.iload_n 3, 1) := by decide +kernel
theorem e41_79 : decode (px_cd 41) 79 = .ok (.aaload, 1) := by decide +kernel
theorem e41_80 : decode (px_cd 41) 80 = .ok (.astore 4, 2) := by decide +kernel
theorem e41_82 : decode (px_cd 41) 82 = .ok (.aload 4, 2) := by decide +kernel
theorem e41_84 : decode (px_cd 41) 84 = .ok (.getfield 64, 3) := by decide +kernel
theorem e41_87 : decode (px_cd 41) 87 = .ok (.ifCond .eq 38, 3) := by decide +kernel
theorem e41_90 : decode (px_cd 41) 90 = .ok (.iload_n 2, 1) := by decide +kernel
theorem e41_91 : decode (px_cd 41) 91 = .ok (.aload 4, 2) := by decide +kernel
theorem e41_93 : decode (px_cd 41) 93 = .ok (.getfield 70, 3) := by decide +kernel
theorem e41_96 : decode (px_cd 41) 96 = .ok (.iload_n 2, 1) := by decide +kernel
theorem e41_97 : decode (px_cd 41) 97 = .ok (.isub, 1) := by decide +kernel
theorem e41_98 : decode (px_cd 41) 98 = .ok (.aload_n 1, 1) := by decide +kernel
theorem e41_99 : decode (px_cd 41) 99 = .ok (.getfield 73, 3) := by decide +kernel
theorem e41_102 : decode (px_cd 41) 102 = .ok (.iconst 1, 1) := by decide +kernel
theorem e41_103 : decode (px_cd 41) 103 = .ok (.isub, 1) := by decide +kernel
theorem e41_104 : decode (px_cd 41) 104 = .ok (.iand, 1) := by decide +kernel
theorem e41_105 : decode (px_cd 41) 105 = .ok (.iadd, 1) := by decide +kernel
theorem e41_106 : decode (px_cd 41) 106 = .ok (.istore_n 2, 1) := by decide +kernel
theorem e41_107 : decode (px_cd 41) 107 = .ok (.aload_n 0, 1) := by decide +kernel
theorem e41_108 : decode (px_cd 41) 108 = .ok (.getfield 15, 3) := by decide +kernel
theorem e41_111 : decode (px_cd 41) 111 = .ok (.iload_n 3, 1) := by decide +kernel
theorem e41_112 : decode (px_cd 41) 112 = .ok (.iload_n 2, 1) := by decide +kernel
theorem e41_113 : decode (px_cd 41) 113 = .ok (.iastore, 1) := by decide +kernel
theorem e41_114 : decode (px_cd 41) 114 = .ok (.iload_n 2, 1) := by decide +kernel
theorem e41_115 : decode (px_cd 41) 115 = .ok (.aload 4, 2) := by decide +kernel
theorem e41_117 : decode (px_cd 41) 117 = .ok (.getfield 76, 3) := by decide +kernel
theorem e41_120 : decode (px_cd 41) 120 = .ok (.getfield 79, 3) := by decide +kernel
theorem e41_123 : decode (px_cd 41) 123 = .ok (.iadd, 1) := by decide +kernel
theorem e41_124 : decode (px_cd 41) 124 = .ok (.istore_n 2, 1) := by decide +kernel
theorem e41_125 : decode (px_cd 41) 125 = .ok (.iinc 3 1, 3) := by decide +kernel
theorem e41_128 : decode (px_cd 41) 128 = .ok (.goto (-59), 3) := by decide +kernel
theorem e41_131 : decode (px_cd 41) 131 = .ok (.aload_n 0, 1) := by decide +kernel
theorem e41_132 : decode (px_cd 41) 132 = .ok (.iload_n 2, 1) := by decide +kernel
theorem e41_133 : decode (px_cd 41) 133 = .ok (.invokestatic 82, 3) := by decide +kernel
theorem e41_136 : decode (px_cd 41) 136 = .ok (.putfield 23, 3) := by decide +kernel
theorem e41_139 : decode (px_cd 41) 139 = .ok (.return_, 1) := by decide +kernel
-- 45 Writer_addHeader
theorem e45_0 : decode (px_cd 45) 0 = .ok (.getstatic 86, 3) := by decide +kernel
theorem e45_3 : decode (px_cd 45) 3 = .ok (.astore_n 2, 1) := by decide +kernel
theorem e45_4 : decode (px_cd 45) 4 = .ok (.aload_n 2, 1) := by decide +kernel
theorem e45_5 : decode (px_cd 45) 5 = .ok (.arraylength, 1) := by decide +kernel
theorem e45_6 : decode (px_cd 45) 6 = .ok (.istore_n 3, 1) := by decide +kernel
theorem e45_7 : decode (px_cd 45) 7 = .ok (.iconst 0, 1) := by decide +kernel
theorem e45_8 : decode (px_cd 45) 8 = .ok (.istore 4, 2) := by decide +kernel
theorem e45_10 : decode (px_cd 45) 10 = .ok (.iload 4, 2) := by decide +kernel
theorem e45_12 : decode (px_cd 45) 12 = .ok (.iload_n 3, 1) := by decide +kernel
theorem e45_13 : decode (px_cd 45) 13 = .ok (.if_icmp .ge 24, 3) := by decide +kernel
theorem e45_16 : decode (px_cd 45) 16 = .ok (.aload_n 2, 1) := by decide +kernel
theorem e45_17 : decode (px_cd 45) 17 = .ok (.iload 4, 2) := by decide +kernel
theorem e45_19 : decode (px_cd 45) 19 = .ok (.iaload, 1) := by decide +kernel
theorem e45_20 : decode (px_cd 45) 20 = .ok (.istore 5, 2) := by decide +kernel
theorem e45_22 : decode (px_cd 45) 22 = .ok (.aload_n 0, 1) := by decide +kernel
theorem e45_23 : decode (px_cd 45) 23 = .ok (.getfield 9, 3) := by decide +kernel
theorem e45_26 : decode (px_cd 45) 26 = .ok (.iload 5, 2) := by decide +kernel
theorem e45_28 : decode (px_cd 45) 28 = .ok (.invokevirtual 89, 3) := by decide +kernel
theorem e45_31 : decode (px_cd 45) 31 = .ok (.iinc 4 1, 3) := by decide +kernel
theorem e45_34 : decode (px_cd 45) 34 = .ok (.goto (-24), 3) := by decide +kernel
theorem e45_37 : decode (px_cd 45) 37 = .ok (.aload_n 0, 1) := by decide +kernel
theorem e45_38 : decode (px_cd 45) 38 = .ok (.getfield 9, 3) := by decide +kernel
theorem e45_41 : decode (px_cd 45) 41 = .ok (.iconst 2, 1) := by decide +kernel
theorem e45_42 : decode (px_cd 45) 42 = .ok (.invokevirtual 92, 3) := by decide +kernel
theorem e45_45 : decode (px_cd 45) 45 = .ok (.aload_n 0, 1) := by decide +kernel
theorem e45_46 : decode (px_cd 45) 46 = .ok (.getfield 9, 3) := by decide +kernel
theorem e45_49 : decode (px_cd 45) 49 = .ok (.sipush 243, 3) := by decide +kernel
theorem e45_52 : decode (px_cd 45) 52 = .ok (.invokevirtual 92, 3) := by decide +kernel
theorem e45_55 : decode (px_cd 45) 55 = .ok (.aload_n 0, 1) := by decide +kernel
theorem e45_56 : decode (px_cd 45) 56 = .ok (.getfield 9, 3) := by decide +kernel
theorem e45_59 : decode (px_cd 45) 59 = .ok (.iconst 1, 1) := by decide +kernel
theorem e45_60 : decode (px_cd 45) 60 = .ok (.invokevirtual 95, 3) := by decide +kernel
theorem e45_63 : decode (px_cd 45) 63 = .ok (.aload_n 0, 1) := by decide +kernel
theorem e45_64 : decode (px_cd 45) 64 = .ok (.getfield 9, 3) := by decide +kernel
theorem e45_67 : decode (px_cd 45) 67 = .ok (.aload_n 1, 1) := by decide +kernel
theorem e45_68 : decode (px_cd 45) 68 = .ok (.getfield 98, 3) := by decide +kernel
theorem e45_71 : decode (px_cd 45) 71 = .ok (.invokevirtual 95, 3) := by decide +kernel
theorem e45_74 : decode (px_cd 45) 74 = .ok (.aload_n 0, 1) := by decide +kernel
theorem e45_75 : decode (px_cd 45) 75 = .ok (.getfield 9, 3) := by decide +kernel
theorem e45_78 : decode (px_cd 45) 78 = .ok (.bipush 52, 2) := by decide +kernel
theorem e45_80 : decode (px_cd 45) 80 = .ok (.invokevirtual 95, 3) := by decide +kernel
theorem e45_83 : decode (px_cd 45) 83 = .ok (.aload_n 0, 1) := by decide +kernel
theorem e45_84 : decode (px_cd 45) 84 = .ok (.getfield 9, 3) := by decide +kernel
theorem e45_87 : decode (px_cd 45) 87 = .ok (.iconst 0, 1) := by decide +kernel
theorem e45_88 : decode (px_cd 45) 88 = .ok (.invokevirtual 95, 3) := by decide +kernel
theorem e45_91 : decode (px_cd 45) 91 = .ok (.aload_n 0, 1) := by decide +kernel
theorem e45_92 : decode (px_cd 45) 92 = .ok (.getfield 9, 3) := by decide +kernel
theorem e45_95 : decode (px_cd 45) 95 = .ok (.aload_n 1, 1) := by decide +kernel
theorem e45_96 : decode (px_cd 45) 96 = .ok (.invokevirtual 101, 3) := by decide +kernel
theorem e45_99 : decode (px_cd 45) 99 = .ok (.invokevirtual 95, 3) := by decide +kernel
theorem e45_102 : decode (px_cd 45) 102 = .ok (.aload_n 0, 1) := by decide +kernel
theorem e45_103 : decode (px_cd 45) 103 = .ok (.getfield 9, 3) := by decide +kernel
theorem e45_106 : decode (px_cd 45) 106 = .ok (.bipush 52, 2) := by decide +kernel
theorem e45_108 : decode (px_cd 45) 108 = .ok (.invokevirtual 92, 3) := by decide +kernel
theorem e45_111 : decode (px_cd 45) 111 = .ok (.aload_n 0, 1) := by decide +kernel
theorem e45_112 : decode (px_cd 45) 112 = .ok (.getfield 9, 3) := by decide +kernel
theorem e45_115 : decode (px_cd 45) 115 = .ok (.bipush 32, 2) := by decide +kernel
theorem e45_117 : decode (px_cd 45) 117 = .ok (.invokevirtual 92, 3) := by decide +kernel
theorem e45_120 : decode (px_cd 45) 120 = .ok (.aload_n 0, 1) := by decide +kernel
theorem e45_121 : decode (px_cd 45) 121 = .ok (.getfield 9, 3) := by decide +kernel
theorem e45_124 : decode (px_cd 45) 124 = .ok (.aload_n 0, 1) := by decide +kernel
theorem e45_125 : decode (px_cd 45) 125 = .ok (.getfield 55, 3) := by decide +kernel
theorem e45_128 : decode (px_cd 45) 128 = .ok (.invokevirtual 92, 3) := by decide +kernel
theorem e45_131 : decode (px_cd 45) 131 = .ok (.aload_n 0, 1) := by decide +kernel
theorem e45_132 : decode (px_cd 45) 132 = .ok (.getfield 9, 3) := by decide +kernel
theorem e45_135 : decode (px_cd 45) 135 = .ok (.bipush 52, 2) := by decide +kernel
theorem e45_137 : decode (px_cd 45) 137 = .ok (.invokevirtual 48, 3) := by decide +kernel
theorem e45_140 : decode (px_cd 45) 140 = .ok (.return_, 1) := by decide +kernel
-- 53 Writer_addTable
theorem e53_0 : decode (px_cd 53) 0 = .ok (.iconst 0, 1) := by decide +kernel
theorem e53_1 : decode (px_cd 53) 1 = .ok (.istore_n 2, 1) := by decide +kernel
theorem e53_2 : decode (px_cd 53) 2 = .ok (.iload_n 2, 1) := by decide +kernel
theorem e53_3 : decode (px_cd 53) 3 = .ok (.iconst 3, 1) := by decide +kernel
theorem e53_4 : decode (px_cd 53) 4 = .ok (.if_icmp .ge 61, 3) := by decide +kernel
theorem e53_7 : decode (px_cd 53) 7 = .ok (.aload_n 1, 1) := by decide +kernel
theorem e53_8 : decode (px_cd 53) 8 = .ok (.getfield 58, 3) := by decide +kernel
theorem e53_11 : decode (px_cd 53) 11 = .ok (.iload_n 2, 1) := by decide +kernel
theorem e53_12 : decode (px_cd 53) 12 = .ok (.aaload, 1) := by decide +kernel
theorem e53_13 : decode (px_cd 53) 13 = .ok (.astore_n 3, 1) := by decide +kernel
theorem e53_14 : decode (px_cd 53) 14 = .ok (.aload_n 3, 1) := by decide +kernel
theorem e53_15 : decode (px_cd 53) 15 = .ok (.getfield 64, 3) := by decide +kernel
theorem e53_18 : decode (px_cd 53) 18 = .ok (.ifCond .eq 41, 3) := by decide +kernel
theorem e53_21 : decode (px_cd 53) 21 = .ok (.aload_n 0, 1) := by decide +kernel
theorem e53_22 : decode (px_cd 53) 22 = .ok (.iconst 1, 1) := by decide +kernel
theorem e53_23 : decode (px_cd 53) 23 = .ok (.aload_n 0, 1) := by decide +kernel
theorem e53_24 : decode (px_cd 53) 24 = .ok (.getfield 15, 3) := by decide +kernel
theorem e53_27 : decode (px_cd 53) 27 = .ok (.iload_n 2, 1) := by decide +kernel
theorem e53_28 : decode (px_cd 53) 28 = .ok (.iaload, 1) := by decide +kernel
theorem e53_29 : decode (px_cd 53) 29 = .ok (.aload_n 3, 1) := by decide +kernel
theorem e53_30 : decode (px_cd 53) 30 = .ok (.getfield 70, 3) := by decide +kernel
theorem e53_33 : decode (px_cd 53) 33 = .ok (.invokevirtual 105, 3) := by decide +kernel
theorem e53_36 : decode (px_cd 53) 36 = .ok (.aload_n 0, 1) := by decide +kernel
theorem e53_37 : decode (px_cd 53) 37 = .ok (.aload_n 3, 1) := by decide +kernel
theorem e53_38 : decode (px_cd 53) 38 = .ok (.getfield 76, 3) := by decide +kernel
theorem e53_41 : decode (px_cd 53) 41 = .ok (.getfield 79, 3) := by decide +kernel
theorem e53_44 : decode (px_cd 53) 44 = .ok (.aload_n 3, 1) := by decide +kernel
theorem e53_45 : decode (px_cd 53) 45 = .ok (.invokevirtual 109, 3) := by decide +kernel
theorem e53_48 : decode (px_cd 53) 48 = .ok (.aload_n 3, 1) := by decide +kernel
theorem e53_49 : decode (px_cd 53) 49 = .ok (.getfield 112, 3) := by decide +kernel
theorem e53_52 : decode (px_cd 53) 52 = .ok (.aload_n 1, 1) := by decide +kernel
theorem e53_53 : decode (px_cd 53) 53 = .ok (.getfield 73, 3) := by decide +kernel
theorem e53_56 : decode (px_cd 53) 56 = .ok (.invokevirtual 115, 3) := by decide +kernel
theorem e53_59 : decode (px_cd 53) 59 = .ok (.iinc 2 1, 3) := by decide +kernel
theorem e53_62 : decode (px_cd 53) 62 = .ok (.goto (-60), 3) := by decide +kernel
theorem e53_65 : decode (px_cd 53) 65 = .ok (.aload_n 0, 1) := by decide +kernel
theorem e53_66 : decode (px_cd 53) 66 = .ok (.iconst 4, 1) := by decide +kernel
theorem e53_67 : decode (px_cd 53) 67 = .ok (.aload_n 0, 1) := by decide +kernel
theorem e53_68 : decode (px_cd 53) 68 = .ok (.getfield 23, 3) := by decide +kernel
theorem e53_71 : decode (px_cd 53) 71 = .ok (.iconst 0, 1) := by decide +kernel
theorem e53_72 : decode (px_cd 53) 72 = .ok (.invokevirtual 105, 3) := by decide +kernel
theorem e53_75 : decode (px_cd 53) 75 = .ok (.aload_n 0, 1) := by decide +kernel
theorem e53_76 : decode (px_cd 53) 76 = .ok (.aload_n 1, 1) := by decide +kernel
theorem e53_77 : decode (px_cd 53) 77 = .ok (.invokestatic 27, 3) := by decide +kernel
theorem e53_80 : decode (px_cd 53) 80 = .ok (.iconst 0, 1) := by decide +kernel
theorem e53_81 : decode (px_cd 53) 81 = .ok (.iconst 4, 1) := by decide +kernel
theorem e53_82 : decode (px_cd 53) 82 = .ok (.iconst 4, 1) := by decide +kernel
theorem e53_83 : decode (px_cd 53) 83 = .ok (.invokevirtual 115, 3) := by decide +kernel
theorem e53_86 : decode (px_cd 53) 86 = .ok (.return_, 1) := by decide +kernel
-- 54 Writer_addRowStart
theorem e54_0 : decode (px_cd 54) 0 = .ok (.aload_n 0, 1) := by decide +kernel
theorem e54_1 : decode (px_cd 54) 1 = .ok (.getfield 9, 3) := by decide +kernel
theorem e54_4 : decode (px_cd 54) 4 = .ok (.iload_n 1, 1) := by decide +kernel
theorem e54_5 : decode (px_cd 54) 5 = .ok (.invokevirtual 95, 3) := by decide +kernel
theorem e54_8 : decode (px_cd 54) 8 = .ok (.aload_n 0, 1) := by decide +kernel
theorem e54_9 : decode (px_cd 54) 9 = .ok (.getfield 9, 3) := by decide +kernel
theorem e54_12 : decode (px_cd 54) 12 = .ok (.iload_n 2, 1) := by decide +kernel
theorem e54_13 : decode (px_cd 54) 13 = .ok (.invokevirtual 95, 3) := by decide +kernel
theorem e54_16 : decode (px_cd 54) 16 = .ok (.aload_n 0, 1) := by decide +kernel
theorem e54_17 : decode (px_cd 54) 17 = .ok (.getfield 9, 3) := by decide +kernel
theorem e54_20 : decode (px_cd 54) 20 = .ok (.iload_n 3, 1) := by decide +kernel
theorem e54_21 : decode (px_cd 54) 21 = .ok (.invokevirtual 95, 3) := by decide +kernel
theorem e54_24 : decode (px_cd 54) 24 = .ok (.aload_n 0, 1) := by decide +kernel
theorem e54_25 : decode (px_cd 54) 25 = .ok (.getfield 9, 3) := by decide +kernel
theorem e54_28 : decode (px_cd 54) 28 = .ok (.iload_n 3, 1) := by decide +kernel
theorem e54_29 : decode (px_cd 54) 29 = .ok (.invokevirtual 95, 3) := by decide +kernel
theorem e54_32 : decode (px_cd 54) 32 = .ok (.return_, 1) := by decide +kernel
-- 55 Writer_addRowEnd
theorem e55_0 : decode (px_cd 55) 0 = .ok (.aload_n 0, 1) := by decide +kernel
theorem e55_1 : decode (px_cd 55) 1 = .ok (.getfield 9, 3) := by decide +kernel
theorem e55_4 : decode (px_cd 55) 4 = .ok (.iload_n 1, 1) := by decide +kernel
theorem e55_5 : decode (px_cd 55) 5 = .ok (.invokevirtual 95, 3) := by decide +kernel
theorem e55_8 : decode (px_cd 55) 8 = .ok (.aload_n 0, 1) := by decide +kernel
theorem e55_9 : decode (px_cd 55) 9 = .ok (.getfield 9, 3) := by decide +kernel
theorem e55_12 : decode (px_cd 55) 12 = .ok (.iload_n 2, 1) := by decide +kernel
theorem e55_13 : decode (px_cd 55) 13 = .ok (.invokevirtual 95, 3) := by decide +kernel
theorem e55_16 : decode (px_cd 55) 16 = .ok (.aload_n 0, 1) := by decide +kernel
theorem e55_17 : decode (px_cd 55) 17 = .ok (.getfield 9, 3) := by decide +kernel
theorem e55_20 : decode (px_cd 55) 20 = .ok (.iload_n 3, 1) := by decide +kernel
theorem e55_21 : decode (px_cd 55) 21 = .ok (.invokevirtual 95, 3) := by decide +kernel
theorem e55_24 : decode (px_cd 55) 24 = .ok (.aload_n 0, 1) := by decide +kernel
theorem e55_25 : decode (px_cd 55) 25 = .ok (.getfield 9, 3) := by decide +kernel
theorem e55_28 : decode (px_cd 55) 28 = .ok (.iload 4, 2) := by decide +kernel
theorem e55_30 : decode (px_cd 55) 30 = .ok (.invokevirtual 95, 3) := by decide +kernel
theorem e55_33 : decode (px_cd 55) 33 = .ok (.return_, 1) := by decide +kernel
-- 56 Writer_addSegments
theorem e56_0 : decode (px_cd 56) 0 = .ok (.iconst 0, 1) := by decide +kernel
theorem e56_1 : decode (px_cd 56) 1 = .ok (.istore_n 2, 1) := by decide +kernel
theorem e56_2 : decode (px_cd 56) 2 = .ok (.iload_n 2, 1) := by decide +kernel
theorem e56_3 : decode (px_cd 56) 3 = .ok (.iconst 3, 1) := by decide +kernel
theorem e56_4 : decode (px_cd 56) 4 = .ok (.if_icmp .ge 55, 3) := by decide +kernel
theorem e56_7 : decode (px_cd 56) 7 = .ok (.aload_n 1, 1) := by decide +kernel
theorem e56_8 : decode (px_cd 56) 8 = .ok (.getfield 58, 3) := by decide +kernel
theorem e56_11 : decode (px_cd 56) 11 = .ok (.iload_n 2, 1) := by decide +kernel
theorem e56_12 : decode (px_cd 56) 12 = .ok (.aaload, 1) := by decide +kernel
theorem e56_13 : decode (px_cd 56) 13 = .ok (.astore_n 3, 1) := by decide +kernel
theorem e56_14 : decode (px_cd 56) 14 = .ok (.aload_n 3, 1) := by decide +kernel
theorem e56_15 : decode (px_cd 56) 15 = .ok (.getfield 64, 3) := by decide +kernel
theorem e56_18 : decode (px_cd 56) 18 = .ok (.ifCond .eq 35, 3) := by decide +kernel
theorem e56_21 : decode (px_cd 56) 21 = .ok (.aload_n 0, 1) := by decide +kernel
theorem e56_22 : decode (px_cd 56) 22 = .ok (.getfield 9, 3) := by decide +kernel
theorem e56_25 : decode (px_cd 56) 25 = .ok (.aload_n 0, 1) := by decide +kernel
theorem e56_26 : decode (px_cd 56) 26 = .ok (.getfield 15, 3) := by decide +kernel
theorem e56_29 : decode (px_cd 56) 29 = .ok (.iload_n 2, 1) := by decide +kernel
theorem e56_30 : decode (px_cd 56) 30 = .ok (.iaload, 1) := by decide +kernel
theorem e56_31 : decode (px_cd 56) 31 = .ok (.invokevirtual 48, 3) := by decide +kernel
theorem e56_34 : decode (px_cd 56) 34 = .ok (.aload_n 0, 1) := by decide +kernel
theorem e56_35 : decode (px_cd 56) 35 = .ok (.getfield 9, 3) := by decide +kernel
theorem e56_38 : decode (px_cd 56) 38 = .ok (.aload_n 3, 1) := by decide +kernel
theorem e56_39 : decode (px_cd 56) 39 = .ok (.getfield 76, 3) := by decide +kernel
theorem e56_42 : decode (px_cd 56) 42 = .ok (.iconst 0, 1) := by decide +kernel
theorem e56_43 : decode (px_cd 56) 43 = .ok (.aload_n 3, 1) := by decide +kernel
theorem e56_44 : decode (px_cd 56) 44 = .ok (.getfield 76, 3) := by decide +kernel
theorem e56_47 : decode (px_cd 56) 47 = .ok (.getfield 79, 3) := by decide +kernel
theorem e56_50 : decode (px_cd 56) 50 = .ok (.invokevirtual 119, 3) := by decide +kernel
theorem e56_53 : decode (px_cd 56) 53 = .ok (.iinc 2 1, 3) := by decide +kernel
theorem e56_56 : decode (px_cd 56) 56 = .ok (.goto (-54), 3) := by decide +kernel
theorem e56_59 : decode (px_cd 56) 59 = .ok (.return_, 1) := by decide +kernel
-- 58 Writer_addNote
theorem e58_0 : decode (px_cd 58) 0 = .ok (.aload_n 1, 1) := by decide +kernel
theorem e58_1 : decode (px_cd 58) 1 = .ok (.invokestatic 27, 3) := by decide +kernel
theorem e58_4 : decode (px_cd 58) 4 = .ok (.istore_n 2, 1) := by decide +kernel
theorem e58_5 : decode (px_cd 58) 5 = .ok (.aload_n 1, 1) := by decide +kernel
theorem e58_6 : decode (px_cd 58) 6 = .ok (.invokevirtual 123, 3) := by decide +kernel
theorem e58_9 : decode (px_cd 58) 9 = .ok (.istore_n 3, 1) := by decide +kernel
theorem e58_10 : decode (px_cd 58) 10 = .ok (.aload_n 0, 1) := by decide +kernel
theorem e58_11 : decode (px_cd 58) 11 = .ok (.getfield 9, 3) := by decide +kernel
theorem e58_14 : decode (px_cd 58) 14 = .ok (.bipush 6, 2) := by decide +kernel
theorem e58_16 : decode (px_cd 58) 16 = .ok (.invokevirtual 95, 3) := by decide +kernel
theorem e58_19 : decode (px_cd 58) 19 = .ok (.aload_n 0, 1) := by decide +kernel
theorem e58_20 : decode (px_cd 58) 20 = .ok (.getfield 9, 3) := by decide +kernel
theorem e58_23 : decode (px_cd 58) 23 = .ok (.iload_n 2, 1) := by decide +kernel
theorem e58_24 : decode (px_cd 58) 24 = .ok (.bipush 20, 2) := by decide +kernel
theorem e58_26 : decode (px_cd 58) 26 = .ok (.isub, 1) := by decide +kernel
theorem e58_27 : decode (px_cd 58) 27 = .ok (.invokevirtual 95, 3) := by decide +kernel
theorem e58_30 : decode (px_cd 58) 30 = .ok (.aload_n 0, 1) := by decide +kernel
theorem e58_31 : decode (px_cd 58) 31 = .ok (.getfield 9, 3) := by decide +kernel
theorem e58_34 : decode (px_cd 58) 34 = .ok (.iconst 1, 1) := by decide +kernel
theorem e58_35 : decode (px_cd 58) 35 = .ok (.invokevirtual 95, 3) := by decide +kernel
theorem e58_38 : decode (px_cd 58) 38 = .ok (.getstatic 126, 3) := by decide +kernel
theorem e58_41 : decode (px_cd 58) 41 = .ok (.astore 4, 2) := by decide +kernel
theorem e58_43 : decode (px_cd 58) 43 = .ok (.aload 4, 2) := by decide +kernel
theorem e58_45 : decode (px_cd 58) 45 = .ok (.arraylength, 1) := by decide +kernel
theorem e58_46 : decode (px_cd 58) 46 = .ok (.istore 5, 2) := by decide +kernel
theorem e58_48 : decode (px_cd 58) 48 = .ok (.iconst 0, 1) := by decide +kernel
theorem e58_49 : decode (px_cd 58) 49 = .ok (.istore 6, 2) := by decide +kernel
theorem e58_51 : decode (px_cd 58) 51 = .ok (.iload 6, 2) := by decide +kernel
theorem e58_53 : decode (px_cd 58) 53 = .ok (.iload 5, 2) := by decide +kernel
theorem e58_55 : decode (px_cd 58) 55 = .ok (.if_icmp .ge 25, 3) := by decide +kernel
theorem e58_58 : decode (px_cd 58) 58 = .ok (.aload 4, 2) := by decide +kernel
theorem e58_60 : decode (px_cd 58) 60 = .ok (.iload 6, 2) := by decide +kernel
theorem e58_62 : decode (px_cd 58) 62 = .ok (.iaload, 1) := by decide +kernel
theorem e58_63 : decode (px_cd 58) 63 = .ok (.istore 7, 2) := by decide +kernel
theorem e58_65 : decode (px_cd 58) 65 = .ok (.aload_n 0, 1) := by decide +kernel
theorem e58_66 : decode (px_cd 58) 66 = .ok (.getfield 9, 3) := by decide +kernel
theorem e58_69 : decode (px_cd 58) 69 = .ok (.iload 7, 2) := by decide +kernel
theorem e58_71 : decode (px_cd 58) 71 = .ok (.invokevirtual 89, 3) := by decide +kernel
theorem e58_74 : decode (px_cd 58) 74 = .ok (.iinc 6 1, 3) := by decide +kernel
theorem e58_77 : decode (px_cd 58) 77 = .ok (.goto (-26), 3) := by decide +kernel
theorem e58_80 : decode (px_cd 58) 80 = .ok (.aload_n 0, 1) := by decide +kernel
theorem e58_81 : decode (px_cd 58) 81 = .ok (.getfield 9, 3) := by decide +kernel
theorem e58_84 : decode (px_cd 58) 84 = .ok (.aload_n 1, 1) := by decide +kernel
theorem e58_85 : decode (px_cd 58) 85 = .ok (.getfield 129, 3) := by decide +kernel
theorem e58_88 : decode (px_cd 58) 88 = .ok (.getfield 76, 3) := by decide +kernel
theorem e58_91 : decode (px_cd 58) 91 = .ok (.getfield 79, 3) := by decide +kernel
theorem e58_94 : decode (px_cd 58) 94 = .ok (.iconst 2, 1) := by decide +kernel
theorem e58_95 : decode (px_cd 58) 95 = .ok (.idiv, 1) := by decide +kernel
theorem e58_96 : decode (px_cd 58) 96 = .ok (.invokevirtual 95, 3) := by decide +kernel
theorem e58_99 : decode (px_cd 58) 99 = .ok (.aload_n 0, 1) := by decide +kernel
theorem e58_100 : decode (px_cd 58) 100 = .ok (.getfield 9, 3) := by decide +kernel
theorem e58_103 : decode (px_cd 58) 103 = .ok (.aload_n 1, 1) := by decide +kernel
theorem e58_104 : decode (px_cd 58) 104 = .ok (.invokevirtual 133, 3) := by decide +kernel
theorem e58_107 : decode (px_cd 58) 107 = .ok (.invokevirtual 95, 3) := by decide +kernel
theorem e58_110 : decode (px_cd 58) 110 = .ok (.iconst 0, 1) := by decide +kernel
theorem e58_111 : decode (px_cd 58) 111 = .ok (.istore 4, 2) := by decide +kernel
theorem e58_113 : decode (px_cd 58) 113 = .ok (.iload 4, 2) := by decide +kernel
theorem e58_115 : decode (px_cd 58) 115 = .ok (.iload_n 3, 1) := by decide +kernel
theorem e58_116 : decode (px_cd 58) 116 = .ok (.if_icmp .ge 22, 3) := by decide +kernel
theorem e58_119 : decode (px_cd 58) 119 = .ok (.aload_n 0, 1) := by decide +kernel
theorem e58_120 : decode (px_cd 58) 120 = .ok (.getfield 9, 3) := by decide +kernel
theorem e58_123 : decode (px_cd 58) 123 = .ok (.aload_n 1, 1) := by decide +kernel
theorem e58_124 : decode (px_cd 58) 124 = .ok (.iload 4, 2) := by decide +kernel
theorem e58_126 : decode (px_cd 58) 126 = .ok (.invokevirtual 136, 3) := by decide +kernel
theorem e58_129 : decode (px_cd 58) 129 = .ok (.invokevirtual 89, 3) := by decide +kernel
theorem e58_132 : decode (px_cd 58) 132 = .ok (.iinc 4 1, 3) := by decide +kernel
theorem e58_135 : decode (px_cd 58) 135 = .ok (.goto (-22), 3) := by decide +kernel
theorem e58_138 : decode (px_cd 58) 138 = .ok (.aload_n 0, 1) := by decide +kernel
theorem e58_139 : decode (px_cd 58) 139 = .ok (.getfield 9, 3) := by decide +kernel
theorem e58_142 : decode (px_cd 58) 142 = .ok (.aload_n 0, 1) := by decide +kernel
theorem e58_143 : decode (px_cd 58) 143 = .ok (.getfield 23, 3) := by decide +kernel
theorem e58_146 : decode (px_cd 58) 146 = .ok (.iload_n 2, 1) := by decide +kernel
theorem e58_147 : decode (px_cd 58) 147 = .ok (.iadd, 1) := by decide +kernel
theorem e58_148 : decode (px_cd 58) 148 = .ok (.invokevirtual 48, 3) := by decide +kernel
theorem e58_151 : decode (px_cd 58) 151 = .ok (.return_, 1) := by decide +kernel
