/-! printed by wip/whole/gen3.py: what stands at each place of a method, and what the tables say there -/
-- 5 Reader_init
theorem e5_0 : decode (px_cd 5) 0 = .ok (.aload_n 0, 1) := by decide +kernel
theorem e5_1 : decode (px_cd 5) 1 = .ok (.invokespecial 3, 3) := by decide +kernel
theorem e5_4 : decode (px_cd 5) 4 = .ok (.aload_n 0, 1) := by decide +kernel
theorem e5_5 : decode (px_cd 5) 5 = .ok (.aload_n 1, 1) := by decide +kernel
theorem e5_6 : decode (px_cd 5) 6 = .ok (.putfield 9, 3) := by decide +kernel
theorem e5_9 : decode (px_cd 5) 9 = .ok (.aload_n 0, 1) := by decide +kernel
theorem e5_10 : decode (px_cd 5) 10 = .ok (.new 15, 3) := by decide +kernel
theorem e5_13 : decode (px_cd 5) 13 = .ok (.dup, 1) := by decide +kernel
theorem e5_14 : decode (px_cd 5) 14 = .ok (.invokespecial 17, 3) := by decide +kernel
theorem e5_17 : decode (px_cd 5) 17 = .ok (.putfield 18, 3) := by decide +kernel
theorem e5_20 : decode (px_cd 5) 20 = .ok (.aload_n 0, 1) := by decide +kernel
theorem e5_21 : decode (px_cd 5) 21 = .ok (.iconst 3, 1) := by decide +kernel
theorem e5_22 : decode (px_cd 5) 22 = .ok (.newarray .int, 2) := by decide +kernel
theorem e5_24 : decode (px_cd 5) 24 = .ok (.putfield 22, 3) := by decide +kernel
theorem e5_27 : decode (px_cd 5) 27 = .ok (.aload_n 0, 1) := by decide +kernel
theorem e5_28 : decode (px_cd 5) 28 = .ok (.iconst (-1), 1) := by decide +kernel
theorem e5_29 : decode (px_cd 5) 29 = .ok (.putfield 26, 3) := by decide +kernel
theorem e5_32 : decode (px_cd 5) 32 = .ok (.aload_n 0, 1) := by decide +kernel
theorem e5_33 : decode (px_cd 5) 33 = .ok (.iconst (-1), 1) := by decide +kernel
theorem e5_34 : decode (px_cd 5) 34 = .ok (.putfield 30, 3) := by decide +kernel
theorem e5_37 : decode (px_cd 5) 37 = .ok (.return_, 1) := by decide +kernel
-- 71 Reader_examine
theorem e71_0 : decode (px_cd 71) 0 = .ok (.aload_n 0, 1) := by decide +kernel
theorem e71_1 : decode (px_cd 71) 1 = .ok (.getfield 18, 3) := by decide +kernel
theorem e71_4 : decode (px_cd 71) 4 = .ok (.invokevirtual 33, 3) := by decide +kernel
theorem e71_7 : decode (px_cd 71) 7 = .ok (.aload_n 0, 1) := by decide +kernel
theorem e71_8 : decode (px_cd 71) 8 = .ok (.iconst (-1), 1) := by decide +kernel
theorem e71_9 : decode (px_cd 71) 9 = .ok (.putfield 26, 3) := by decide +kernel
theorem e71_12 : decode (px_cd 71) 12 = .ok (.aload_n 0, 1) := by decide +kernel
theorem e71_13 : decode (px_cd 71) 13 = .ok (.iconst (-1), 1) := by decide +kernel
theorem e71_14 : decode (px_cd 71) 14 = .ok (.putfield 30, 3) := by decide +kernel
theorem e71_17 : decode (px_cd 71) 17 = .ok (.aload_n 0, 1) := by decide +kernel
theorem e71_18 : decode (px_cd 71) 18 = .ok (.invokevirtual 36, 3) := by decide +kernel
theorem e71_21 : decode (px_cd 71) 21 = .ok (.istore_n 1, 1) := by decide +kernel
theorem e71_22 : decode (px_cd 71) 22 = .ok (.iload_n 1, 1) := by decide +kernel
theorem e71_23 : decode (px_cd 71) 23 = .ok (.ifCond .ne 8, 3) := by decide +kernel
theorem e71_26 : decode (px_cd 71) 26 = .ok (.aload_n 0, 1) := by decide +kernel
theorem e71_27 : decode (px_cd 71) 27 = .ok (.invokevirtual 40, 3) := by decide +kernel
theorem e71_30 : decode (px_cd 71) 30 = .ok (.istore_n 1, 1) := by decide +kernel
theorem e71_31 : decode (px_cd 71) 31 = .ok (.iload_n 1, 1) := by decide +kernel
theorem e71_32 : decode (px_cd 71) 32 = .ok (.ifCond .ne 8, 3) := by decide +kernel
theorem e71_35 : decode (px_cd 71) 35 = .ok (.aload_n 0, 1) := by decide +kernel
theorem e71_36 : decode (px_cd 71) 36 = .ok (.invokevirtual 43, 3) := by decide +kernel
theorem e71_39 : decode (px_cd 71) 39 = .ok (.istore_n 1, 1) := by decide +kernel
theorem e71_40 : decode (px_cd 71) 40 = .ok (.iload_n 1, 1) := by decide +kernel
theorem e71_41 : decode (px_cd 71) 41 = .ok (.ifCond .ne 8, 3) := by decide +kernel
theorem e71_44 : decode (px_cd 71) 44 = .ok (.aload_n 0, 1) := by decide +kernel
theorem e71_45 : decode (px_cd 71) 45 = .ok (.invokevirtual 46, 3) := by decide +kernel
theorem e71_48 : decode (px_cd 71) 48 = .ok (.istore_n 1, 1) := by decide +kernel
theorem e71_49 : decode (px_cd 71) 49 = .ok (.iload_n 1, 1) := by decide +kernel
theorem e71_50 : decode (px_cd 71) 50 = .ok (.ifCond .ne 8, 3) := by decide +kernel
theorem e71_53 : decode (px_cd 71) 53 = .ok (.aload_n 0, 1) := by decide +kernel
theorem e71_54 : decode (px_cd 71) 54 = .ok (.invokevirtual 49, 3) := by decide +kernel
theorem e71_57 : decode (px_cd 71) 57 = .ok (.istore_n 1, 1) := by decide +kernel
theorem e71_58 : decode (px_cd 71) 58 = .ok (.iload_n 1, 1) := by decide +kernel
theorem e71_59 : decode (px_cd 71) 59 = .ok (.ifCond .ne 10, 3) := by decide +kernel
theorem e71_62 : decode (px_cd 71) 62 = .ok (.aload_n 0, 1) := by decide +kernel
theorem e71_63 : decode (px_cd 71) 63 = .ok (.invokevirtual 52, 3) := by decide +kernel
theorem e71_66 : decode (px_cd 71) 66 = .ok (.goto 4, 3) := by decide +kernel
theorem e71_69 : decode (px_cd 71) 69 = .ok (.iload_n 1, 1) := by decide +kernel
theorem e71_70 : decode (px_cd 71) 70 = .ok (.ireturn, 1) := by decide +kernel
-- 72 Reader_headFault
theorem e72_0 : decode (px_cd 72) 0 = .ok (.aload_n 0, 1) := by decide +kernel
theorem e72_1 : decode (px_cd 72) 1 = .ok (.getfield 9, 3) := by decide +kernel
theorem e72_4 : decode (px_cd 72) 4 = .ok (.getfield 55, 3) := by decide +kernel
theorem e72_7 : decode (px_cd 72) 7 = .ok (.bipush 52, 2) := by decide +kernel
theorem e72_9 : decode (px_cd 72) 9 = .ok (.if_icmp .ge 16, 3) := by decide +kernel
theorem e72_12 : decode (px_cd 72) 12 = .ok (.aload_n 0, 1) := by decide +kernel
theorem e72_13 : decode (px_cd 72) 13 = .ok (.iconst 1, 1) := by decide +kernel
theorem e72_14 : decode (px_cd 72) 14 = .ok (.aload_n 0, 1) := by decide +kernel
theorem e72_15 : decode (px_cd 72) 15 = .ok (.getfield 9, 3) := by decide +kernel
theorem e72_18 : decode (px_cd 72) 18 = .ok (.getfield 55, 3) := by decide +kernel
theorem e72_21 : decode (px_cd 72) 21 = .ok (.invokevirtual 60, 3) := by decide +kernel
theorem e72_24 : decode (px_cd 72) 24 = .ok (.ireturn, 1) := by decide +kernel
theorem e72_25 : decode (px_cd 72) 25 = .ok (.iconst 0, 1) := by decide +kernel
theorem e72_26 : decode (px_cd 72) 26 = .ok (.istore_n 1, 1) := by decide +kernel
theorem e72_27 : decode (px_cd 72) 27 = .ok (.iload_n 1, 1) := by decide +kernel
theorem e72_28 : decode (px_cd 72) 28 = .ok (.getstatic 64, 3) := by decide +kernel
theorem e72_31 : decode (px_cd 72) 31 = .ok (.arraylength, 1) := by decide +kernel
theorem e72_32 : decode (px_cd 72) 32 = .ok (.if_icmp .ge 35, 3) := by decide +kernel
theorem e72_35 : decode (px_cd 72) 35 = .ok (.aload_n 0, 1) := by decide +kernel
theorem e72_36 : decode (px_cd 72) 36 = .ok (.getfield 9, 3) := by decide +kernel
theorem e72_39 : decode (px_cd 72) 39 = .ok (.iload_n 1, 1) := by decide +kernel
theorem e72_40 : decode (px_cd 72) 40 = .ok (.invokevirtual 67, 3) := by decide +kernel
theorem e72_43 : decode (px_cd 72) 43 = .ok (.getstatic 64, 3) := by decide +kernel
theorem e72_46 : decode (px_cd 72) 46 = .ok (.iload_n 1, 1) := by decide +kernel
theorem e72_47 : decode (px_cd 72) 47 = .ok (.iaload, 1) := by decide +kernel
theorem e72_48 : decode (px_cd 72) 48 = .ok (.if_icmp .eq 13, 3) := by decide +kernel
theorem e72_51 : decode (px_cd 72) 51 = .ok (.aload_n 0, 1) := by decide +kernel
theorem e72_52 : decode (px_cd 72) 52 = .ok (.iload_n 1, 1) := by decide +kernel
theorem e72_53 : decode (px_cd 72) 53 = .ok (.invokestatic 71, 3) := by decide +kernel
theorem e72_56 : decode (px_cd 72) 56 = .ok (.iload_n 1, 1) := by decide +kernel
theorem e72_57 : decode (px_cd 72) 57 = .ok (.invokevirtual 60, 3) := by decide +kernel
theorem e72_60 : decode (px_cd 72) 60 = .ok (.ireturn, 1) := by decide +kernel
theorem e72_61 : decode (px_cd 72) 61 = .ok (.iinc 1 1, 3) := by decide +kernel
theorem e72_64 : decode (px_cd 72) 64 = .ok (.goto (-37), 3) := by decide +kernel
theorem e72_67 : decode (px_cd 72) 67 = .ok (.aload_n 0, 1) := by decide +kernel
theorem e72_68 : decode (px_cd 72) 68 = .ok (.getfield 9, 3) := by decide +kernel
theorem e72_71 : decode (px_cd 72) 71 = .ok (.bipush 16, 2) := by decide +kernel
theorem e72_73 : decode (px_cd 72) 73 = .ok (.invokevirtual 74, 3) := by decide +kernel
theorem e72_76 : decode (px_cd 72) 76 = .ok (.iconst 2, 1) := by decide +kernel
theorem e72_77 : decode (px_cd 72) 77 = .ok (.if_icmp .eq 12, 3) := by decide +kernel
theorem e72_80 : decode (px_cd 72) 80 = .ok (.aload_n 0, 1) := by decide +kernel
theorem e72_81 : decode (px_cd 72) 81 = .ok (.bipush 7, 2) := by decide +kernel
theorem e72_83 : decode (px_cd 72) 83 = .ok (.bipush 16, 2) := by decide +kernel
theorem e72_85 : decode (px_cd 72) 85 = .ok (.invokevirtual 60, 3) := by decide +kernel
theorem e72_88 : decode (px_cd 72) 88 = .ok (.ireturn, 1) := by decide +kernel
theorem e72_89 : decode (px_cd 72) 89 = .ok (.aload_n 0, 1) := by decide +kernel
theorem e72_90 : decode (px_cd 72) 90 = .ok (.getfield 9, 3) := by decide +kernel
theorem e72_93 : decode (px_cd 72) 93 = .ok (.bipush 18, 2) := by decide +kernel
theorem e72_95 : decode (px_cd 72) 95 = .ok (.invokevirtual 74, 3) := by decide +kernel
theorem e72_98 : decode (px_cd 72) 98 = .ok (.sipush 243, 3) := by decide +kernel
theorem e72_101 : decode (px_cd 72) 101 = .ok (.if_icmp .eq 14, 3) := by decide +kernel
theorem e72_104 : decode (px_cd 72) 104 = .ok (.aload_n 0, 1) := by decide +kernel
theorem e72_105 : decode (px_cd 72) 105 = .ok (.bipush 8, 2) := by decide +kernel
theorem e72_107 : decode (px_cd 72) 107 = .ok (.bipush 18, 2) := by decide +kernel
theorem e72_109 : decode (px_cd 72) 109 = .ok (.invokevirtual 60, 3) := by decide +kernel
theorem e72_112 : decode (px_cd 72) 112 = .ok (.goto 4, 3) := by decide +kernel
theorem e72_115 : decode (px_cd 72) 115 = .ok (.iconst 0, 1) := by decide +kernel
theorem e72_116 : decode (px_cd 72) 116 = .ok (.ireturn, 1) := by decide +kernel
-- 73 Reader_faultAt
theorem e73_0 : decode (px_cd 73) 0 = .ok (.aload_n 0, 1) := by decide +kernel
theorem e73_1 : decode (px_cd 73) 1 = .ok (.iload_n 2, 1) := by decide +kernel
theorem e73_2 : decode (px_cd 73) 2 = .ok (.putfield 30, 3) := by decide +kernel
theorem e73_5 : decode (px_cd 73) 5 = .ok (.iload_n 1, 1) := by decide +kernel
theorem e73_6 : decode (px_cd 73) 6 = .ok (.ireturn, 1) := by decide +kernel
-- 74 Reader_faultOfHeadByte
theorem e74_0 : decode (px_cd 74) 0 = .ok (.iload_n 0, 1) := by decide +kernel
theorem e74_1 : decode (px_cd 74) 1 = .ok (.iconst 4, 1) := by decide +kernel
theorem e74_2 : decode (px_cd 74) 2 = .ok (.if_icmp .ge 5, 3) := by decide +kernel
theorem e74_5 : decode (px_cd 74) 5 = .ok (.iconst 2, 1) := by decide +kernel
theorem e74_6 : decode (px_cd 74) 6 = .ok (.ireturn, 1) := by decide +kernel
theorem e74_7 : decode (px_cd 74) 7 = .ok (.iload_n 0, 1) := by decide +kernel
theorem e74_8 : decode (px_cd 74) 8 = .ok (.bipush 7, 2) := by decide +kernel
theorem e74_10 : decode (px_cd 74) 10 = .ok (.if_icmp .ge 9, 3) := by decide +kernel
theorem e74_13 : decode (px_cd 74) 13 = .ok (.iload_n 0, 1) := by decide +kernel
theorem e74_14 : decode (px_cd 74) 14 = .ok (.iconst 1, 1) := by decide +kernel
theorem e74_15 : decode (px_cd 74) 15 = .ok (.isub, 1) := by decide +kernel
theorem e74_16 : decode (px_cd 74) 16 = .ok (.goto 5, 3) := by decide +kernel
theorem e74_19 : decode (px_cd 74) 19 = .ok (.bipush 6, 2) := by decide +kernel
theorem e74_21 : decode (px_cd 74) 21 = .ok (.ireturn, 1) := by decide +kernel
-- 76 Reader_numbersFault
theorem e76_0 : decode (px_cd 76) 0 = .ok (.aload_n 0, 1) := by decide +kernel
theorem e76_1 : decode (px_cd 76) 1 = .ok (.invokevirtual 77, 3) := by decide +kernel
theorem e76_4 : decode (px_cd 76) 4 = .ok (.istore_n 1, 1) := by decide +kernel
theorem e76_5 : decode (px_cd 76) 5 = .ok (.iload_n 1, 1) := by decide +kernel
theorem e76_6 : decode (px_cd 76) 6 = .ok (.iconst (-1), 1) := by decide +kernel
theorem e76_7 : decode (px_cd 76) 7 = .ok (.if_icmp .eq 11, 3) := by decide +kernel
theorem e76_10 : decode (px_cd 76) 10 = .ok (.aload_n 0, 1) := by decide +kernel
theorem e76_11 : decode (px_cd 76) 11 = .ok (.bipush 9, 2) := by decide +kernel
theorem e76_13 : decode (px_cd 76) 13 = .ok (.iload_n 1, 1) := by decide +kernel
theorem e76_14 : decode (px_cd 76) 14 = .ok (.invokevirtual 60, 3) := by decide +kernel
theorem e76_17 : decode (px_cd 76) 17 = .ok (.ireturn, 1) := by decide +kernel
theorem e76_18 : decode (px_cd 76) 18 = .ok (.aload_n 0, 1) := by decide +kernel
theorem e76_19 : decode (px_cd 76) 19 = .ok (.getfield 9, 3) := by decide +kernel
theorem e76_22 : decode (px_cd 76) 22 = .ok (.bipush 28, 2) := by decide +kernel
theorem e76_24 : decode (px_cd 76) 24 = .ok (.invokevirtual 80, 3) := by decide +kernel
theorem e76_27 : decode (px_cd 76) 27 = .ok (.lstore_n 2, 1) := by decide +kernel
theorem e76_28 : decode (px_cd 76) 28 = .ok (.aload_n 0, 1) := by decide +kernel
theorem e76_29 : decode (px_cd 76) 29 = .ok (.aload_n 0, 1) := by decide +kernel
theorem e76_30 : decode (px_cd 76) 30 = .ok (.getfield 9, 3) := by decide +kernel
theorem e76_33 : decode (px_cd 76) 33 = .ok (.bipush 44, 2) := by decide +kernel
theorem e76_35 : decode (px_cd 76) 35 = .ok (.invokevirtual 74, 3) := by decide +kernel
theorem e76_38 : decode (px_cd 76) 38 = .ok (.putfield 84, 3) := by decide +kernel
theorem e76_41 : decode (px_cd 76) 41 = .ok (.lload_n 2, 1) := by decide +kernel
theorem e76_42 : decode (px_cd 76) 42 = .ok (.bipush 32, 2) := by decide +kernel
theorem e76_44 : decode (px_cd 76) 44 = .ok (.aload_n 0, 1) := by decide +kernel
theorem e76_45 : decode (px_cd 76) 45 = .ok (.getfield 84, 3) := by decide +kernel
theorem e76_48 : decode (px_cd 76) 48 = .ok (.imul, 1) := by decide +kernel
theorem e76_49 : decode (px_cd 76) 49 = .ok (.i2l, 1) := by decide +kernel
theorem e76_50 : decode (px_cd 76) 50 = .ok (.ladd, 1) := by decide +kernel
theorem e76_51 : decode (px_cd 76) 51 = .ok (.aload_n 0, 1) := by decide +kernel
theorem e76_52 : decode (px_cd 76) 52 = .ok (.getfield 9, 3) := by decide +kernel
theorem e76_55 : decode (px_cd 76) 55 = .ok (.getfield 55, 3) := by decide +kernel
theorem e76_58 : decode (px_cd 76) 58 = .ok (.i2l, 1) := by decide +kernel
theorem e76_59 : decode (px_cd 76) 59 = .ok (.lcmp, 1) := by decide +kernel
theorem e76_60 : decode (px_cd 76) 60 = .ok (.ifCond .le 12, 3) := by decide +kernel
theorem e76_63 : decode (px_cd 76) 63 = .ok (.aload_n 0, 1) := by decide +kernel
theorem e76_64 : decode (px_cd 76) 64 = .ok (.bipush 10, 2) := by decide +kernel
theorem e76_66 : decode (px_cd 76) 66 = .ok (.bipush 28, 2) := by decide +kernel
theorem e76_68 : decode (px_cd 76) 68 = .ok (.invokevirtual 60, 3) := by decide +kernel
theorem e76_71 : decode (px_cd 76) 71 = .ok (.ireturn, 1) := by decide +kernel
theorem e76_72 : decode (px_cd 76) 72 = .ok (.aload_n 0, 1) := by decide +kernel
theorem e76_73 : decode (px_cd 76) 73 = .ok (.lload_n 2, 1) := by decide +kernel
theorem e76_74 : decode (px_cd 76) 74 = .ok (.l2i, 1) := by decide +kernel
theorem e76_75 : decode (px_cd 76) 75 = .ok (.putfield 87, 3) := by decide +kernel
theorem e76_78 : decode (px_cd 76) 78 = .ok (.aload_n 0, 1) := by decide +kernel
theorem e76_79 : decode (px_cd 76) 79 = .ok (.getfield 18, 3) := by decide +kernel
theorem e76_82 : decode (px_cd 76) 82 = .ok (.aload_n 0, 1) := by decide +kernel
theorem e76_83 : decode (px_cd 76) 83 = .ok (.getfield 9, 3) := by decide +kernel
theorem e76_86 : decode (px_cd 76) 86 = .ok (.bipush 24, 2) := by decide +kernel
theorem e76_88 : decode (px_cd 76) 88 = .ok (.invokevirtual 80, 3) := by decide +kernel
theorem e76_91 : decode (px_cd 76) 91 = .ok (.l2i, 1) := by decide +kernel
theorem e76_92 : decode (px_cd 76) 92 = .ok (.putfield 90, 3) := by decide +kernel
theorem e76_95 : decode (px_cd 76) 95 = .ok (.iconst 0, 1) := by decide +kernel
theorem e76_96 : decode (px_cd 76) 96 = .ok (.ireturn, 1) := by decide +kernel
-- 77 Reader_firstWrongNumber
theorem e77_0 : decode (px_cd 77) 0 = .ok (.aload_n 0, 1) := by decide +kernel
theorem e77_1 : decode (px_cd 77) 1 = .ok (.getfield 9, 3) := by decide +kernel
theorem e77_4 : decode (px_cd 77) 4 = .ok (.bipush 20, 2) := by decide +kernel
theorem e77_6 : decode (px_cd 77) 6 = .ok (.invokevirtual 80, 3) := by decide +kernel
theorem e77_9 : decode (px_cd 77) 9 = .ok (.lconst 1, 1) := by decide +kernel
theorem e77_10 : decode (px_cd 77) 10 = .ok (.lcmp, 1) := by decide +kernel
theorem e77_11 : decode (px_cd 77) 11 = .ok (.ifCond .eq 6, 3) := by decide +kernel
theorem e77_14 : decode (px_cd 77) 14 = .ok (.bipush 20, 2) := by decide +kernel
theorem e77_16 : decode (px_cd 77) 16 = .ok (.ireturn, 1) := by decide +kernel
theorem e77_17 : decode (px_cd 77) 17 = .ok (.aload_n 0, 1) := by decide +kernel
theorem e77_18 : decode (px_cd 77) 18 = .ok (.getfield 9, 3) := by decide +kernel
theorem e77_21 : decode (px_cd 77) 21 = .ok (.bipush 28, 2) := by decide +kernel
theorem e77_23 : decode (px_cd 77) 23 = .ok (.invokevirtual 80, 3) := by decide +kernel
theorem e77_26 : decode (px_cd 77) 26 = .ok (.ldc2_w 93, 3) := by decide +kernel
theorem e77_29 : decode (px_cd 77) 29 = .ok (.lcmp, 1) := by decide +kernel
theorem e77_30 : decode (px_cd 77) 30 = .ok (.ifCond .lt 21, 3) := by decide +kernel
theorem e77_33 : decode (px_cd 77) 33 = .ok (.aload_n 0, 1) := by decide +kernel
theorem e77_34 : decode (px_cd 77) 34 = .ok (.getfield 9, 3) := by decide +kernel
theorem e77_37 : decode (px_cd 77) 37 = .ok (.bipush 28, 2) := by decide +kernel
theorem e77_39 : decode (px_cd 77) 39 = .ok (.invokevirtual 80, 3) := by decide +kernel
theorem e77_42 : decode (px_cd 77) 42 = .ok (.ldc2_w 95, 3) := by decide +kernel
theorem e77_45 : decode (px_cd 77) 45 = .ok (.land, 1) := by decide +kernel
theorem e77_46 : decode (px_cd 77) 46 = .ok (.lconst 0, 1) := by decide +kernel
theorem e77_47 : decode (px_cd 77) 47 = .ok (.lcmp, 1) := by decide +kernel
theorem e77_48 : decode (px_cd 77) 48 = .ok (.ifCond .eq 6, 3) := by decide +kernel
theorem e77_51 : decode (px_cd 77) 51 = .ok (.bipush 28, 2) := by decide +kernel
theorem e77_53 : decode (px_cd 77) 53 = .ok (.ireturn, 1) := by decide +kernel
theorem e77_54 : decode (px_cd 77) 54 = .ok (.aload_n 0, 1) := by decide +kernel
theorem e77_55 : decode (px_cd 77) 55 = .ok (.getfield 9, 3) := by decide +kernel
theorem e77_58 : decode (px_cd 77) 58 = .ok (.bipush 32, 2) := by decide +kernel
theorem e77_60 : decode (px_cd 77) 60 = .ok (.invokevirtual 80, 3) := by decide +kernel
theorem e77_63 : decode (px_cd 77) 63 = .ok (.lconst 0, 1) := by decide +kernel
theorem e77_64 : decode (px_cd 77) 64 = .ok (.lcmp, 1) := by decide +kernel
theorem e77_65 : decode (px_cd 77) 65 = .ok (.ifCond .eq 6, 3) := by decide +kernel
theorem e77_68 : decode (px_cd 77) 68 = .ok (.bipush 32, 2) := by decide +kernel
theorem e77_70 : decode (px_cd 77) 70 = .ok (.ireturn, 1) := by decide +kernel
theorem e77_71 : decode (px_cd 77) 71 = .ok (.aload_n 0, 1) := by decide +kernel
theorem e77_72 : decode (px_cd 77) 72 = .ok (.getfield 9, 3) := by decide +kernel
theorem e77_75 : decode (px_cd 77) 75 = .ok (.bipush 36, 2) := by decide +kernel
theorem e77_77 : decode (px_cd 77) 77 = .ok (.invokevirtual 80, 3) := by decide +kernel
theorem e77_80 : decode (px_cd 77) 80 = .ok (.lconst 1, 1) := by decide +kernel
theorem e77_81 : decode (px_cd 77) 81 = .ok (.lcmp, 1) := by decide +kernel
theorem e77_82 : decode (px_cd 77) 82 = .ok (.ifCond .le 6, 3) := by decide +kernel
theorem e77_85 : decode (px_cd 77) 85 = .ok (.bipush 36, 2) := by decide +kernel
theorem e77_87 : decode (px_cd 77) 87 = .ok (.ireturn, 1) := by decide +kernel
theorem e77_88 : decode (px_cd 77) 88 = .ok (.aload_n 0, 1) := by decide +kernel
theorem e77_89 : decode (px_cd 77) 89 = .ok (.getfield 9, 3) := by decide +kernel
theorem e77_92 : decode (px_cd 77) 92 = .ok (.bipush 40, 2) := by decide +kernel
theorem e77_94 : decode (px_cd 77) 94 = .ok (.invokevirtual 74, 3) := by decide +kernel
theorem e77_97 : decode (px_cd 77) 97 = .ok (.bipush 52, 2) := by decide +kernel
theorem e77_99 : decode (px_cd 77) 99 = .ok (.if_icmp .eq 6, 3) := by decide +kernel
theorem e77_102 : decode (px_cd 77) 102 = .ok (.bipush 40, 2) := by decide +kernel
theorem e77_104 : decode (px_cd 77) 104 = .ok (.ireturn, 1) := by decide +kernel
theorem e77_105 : decode (px_cd 77) 105 = .ok (.aload_n 0, 1) := by decide +kernel
theorem e77_106 : decode (px_cd 77) 106 = .ok (.getfield 9, 3) := by decide +kernel
theorem e77_109 : decode (px_cd 77) 109 = .ok (.bipush 42, 2) := by decide +kernel
theorem e77_111 : decode (px_cd 77) 111 = .ok (.invokevirtual 74, 3) := by decide +kernel
theorem e77_114 : decode (px_cd 77) 114 = .ok (.bipush 32, 2) := by decide +kernel
theorem e77_116 : decode (px_cd 77) 116 = .ok (.if_icmp .eq 6, 3) := by decide +kernel
theorem e77_119 : decode (px_cd 77) 119 = .ok (.bipush 42, 2) := by decide +kernel
theorem e77_121 : decode (px_cd 77) 121 = .ok (.ireturn, 1) := by decide +kernel
theorem e77_122 : decode (px_cd 77) 122 = .ok (.aload_n 0, 1) := by decide +kernel
theorem e77_123 : decode (px_cd 77) 123 = .ok (.getfield 9, 3) := by decide +kernel
theorem e77_126 : decode (px_cd 77) 126 = .ok (.bipush 44, 2) := by decide +kernel
theorem e77_128 : decode (px_cd 77) 128 = .ok (.invokevirtual 74, 3) := by decide +kernel
theorem e77_131 : decode (px_cd 77) 131 = .ok (.iconst 1, 1) := by decide +kernel
theorem e77_132 : decode (px_cd 77) 132 = .ok (.if_icmp .lt 17, 3) := by decide +kernel
theorem e77_135 : decode (px_cd 77) 135 = .ok (.aload_n 0, 1) := by decide +kernel
theorem e77_136 : decode (px_cd 77) 136 = .ok (.getfield 9, 3) := by decide +kernel
theorem e77_139 : decode (px_cd 77) 139 = .ok (.bipush 44, 2) := by decide +kernel
theorem e77_141 : decode (px_cd 77) 141 = .ok (.invokevirtual 74, 3) := by decide +kernel
theorem e77_144 : decode (px_cd 77) 144 = .ok (.bipush 8, 2) := by decide +kernel
theorem e77_146 : decode (px_cd 77) 146 = .ok (.if_icmp .le 6, 3) := by decide +kernel
theorem e77_149 : decode (px_cd 77) 149 = .ok (.bipush 44, 2) := by decide +kernel
theorem e77_151 : decode (px_cd 77) 151 = .ok (.ireturn, 1) := by decide +kernel
theorem e77_152 : decode (px_cd 77) 152 = .ok (.bipush 46, 2) := by decide +kernel
theorem e77_154 : decode (px_cd 77) 154 = .ok (.istore_n 1, 1) := by decide +kernel
theorem e77_155 : decode (px_cd 77) 155 = .ok (.iload_n 1, 1) := by decide +kernel
theorem e77_156 : decode (px_cd 77) 156 = .ok (.bipush 52, 2) := by decide +kernel
theorem e77_158 : decode (px_cd 77) 158 = .ok (.if_icmp .ge 22, 3) := by decide +kernel
theorem e77_161 : decode (px_cd 77) 161 = .ok (.aload_n 0, 1) := by decide +kernel
theorem e77_162 : decode (px_cd 77) 162 = .ok (.getfield 9, 3) := by decide +kernel
theorem e77_165 : decode (px_cd 77) 165 = .ok (.iload_n 1, 1) := by decide +kernel
theorem e77_166 : decode (px_cd 77) 166 = .ok (.invokevirtual 74, 3) := by decide +kernel
theorem e77_169 : decode (px_cd 77) 169 = .ok (.ifCond .eq 5, 3) := by decide +kernel
theorem e77_172 : decode (px_cd 77) 172 = .ok (.iload_n 1, 1) := by decide +kernel
theorem e77_173 : decode (px_cd 77) 173 = .ok (.ireturn, 1) := by decide +kernel
theorem e77_174 : decode (px_cd 77) 174 = .ok (.iinc 1 2, 3) := by decide +kernel
theorem e77_177 : decode (px_cd 77) 177 = .ok (.goto (-22), 3) := by decide +kernel
theorem e77_180 : decode (px_cd 77) 180 = .ok (.iconst (-1), 1) := by decide +kernel
theorem e77_181 : decode (px_cd 77) 181 = .ok (.ireturn, 1) := by decide +kernel
-- 79 Reader_tableFault
theorem e79_0 : decode (px_cd 79) 0 = .ok (.iconst 0, 1) := by decide +kernel
theorem e79_1 : decode (px_cd 79) 1 = .ok (.istore_n 1, 1) := by decide +kernel
theorem e79_2 : decode (px_cd 79) 2 = .ok (.iload_n 1, 1) := by decide +kernel
theorem e79_3 : decode (px_cd 79) 3 = .ok (.aload_n 0, 1) := by decide +kernel
theorem e79_4 : decode (px_cd 79) 4 = .ok (.getfield 84, 3) := by decide +kernel
theorem e79_7 : decode (px_cd 79) 7 = .ok (.if_icmp .ge 29, 3) := by decide +kernel
theorem e79_10 : decode (px_cd 79) 10 = .ok (.aload_n 0, 1) := by decide +kernel
theorem e79_11 : decode (px_cd 79) 11 = .ok (.aload_n 0, 1) := by decide +kernel
theorem e79_12 : decode (px_cd 79) 12 = .ok (.getfield 87, 3) := by decide +kernel
theorem e79_15 : decode (px_cd 79) 15 = .ok (.bipush 32, 2) := by decide +kernel
theorem e79_17 : decode (px_cd 79) 17 = .ok (.iload_n 1, 1) := by decide +kernel
theorem e79_18 : decode (px_cd 79) 18 = .ok (.imul, 1) := by decide +kernel
theorem e79_19 : decode (px_cd 79) 19 = .ok (.iadd, 1) := by decide +kernel
theorem e79_20 : decode (px_cd 79) 20 = .ok (.invokevirtual 97, 3) := by decide +kernel
theorem e79_23 : decode (px_cd 79) 23 = .ok (.istore_n 2, 1) := by decide +kernel
theorem e79_24 : decode (px_cd 79) 24 = .ok (.iload_n 2, 1) := by decide +kernel
theorem e79_25 : decode (px_cd 79) 25 = .ok (.ifCond .eq 5, 3) := by decide +kernel
theorem e79_28 : decode (px_cd 79) 28 = .ok (.iload_n 2, 1) := by decide +kernel
theorem e79_29 : decode (px_cd 79) 29 = .ok (.ireturn, 1) := by decide +kernel
theorem e79_30 : decode (px_cd 79) 30 = .ok (.iinc 1 1, 3) := by decide +kernel
theorem e79_33 : decode (px_cd 79) 33 = .ok (.goto (-31), 3) := by decide +kernel
theorem e79_36 : decode (px_cd 79) 36 = .ok (.iconst 0, 1) := by decide +kernel
theorem e79_37 : decode (px_cd 79) 37 = .ok (.ireturn, 1) := by decide +kernel
-- 80 Reader_rowFault
theorem e80_0 : decode (px_cd 80) 0 = .ok (.aload_n 0, 1) := by decide +kernel
theorem e80_1 : decode (px_cd 80) 1 = .ok (.getfield 9, 3) := by decide +kernel
theorem e80_4 : decode (px_cd 80) 4 = .ok (.iload_n 1, 1) := by decide +kernel
theorem e80_5 : decode (px_cd 80) 5 = .ok (.invokevirtual 80, 3) := by decide +kernel
theorem e80_8 : decode (px_cd 80) 8 = .ok (.lstore_n 2, 1) := by decide +kernel
theorem e80_9 : decode (px_cd 80) 9 = .ok (.lload_n 2, 1) := by decide +kernel
theorem e80_10 : decode (px_cd 80) 10 = .ok (.lconst 0, 1) := by decide +kernel
theorem e80_11 : decode (px_cd 80) 11 = .ok (.lcmp, 1) := by decide +kernel
theorem e80_12 : decode (px_cd 80) 12 = .ok (.ifCond .ne 5, 3) := by decide +kernel
theorem e80_15 : decode (px_cd 80) 15 = .ok (.iconst 0, 1) := by decide +kernel
theorem e80_16 : decode (px_cd 80) 16 = .ok (.ireturn, 1) := by decide +kernel
theorem e80_17 : decode (px_cd 80) 17 = .ok (.lload_n 2, 1) := by decide +kernel
theorem e80_18 : decode (px_cd 80) 18 = .ok (.lconst 1, 1) := by decide +kernel
theorem e80_19 : decode (px_cd 80) 19 = .ok (.lcmp, 1) := by decide +kernel
theorem e80_20 : decode (px_cd 80) 20 = .ok (.ifCond .eq 19, 3) := by decide +kernel
theorem e80_23 : decode (px_cd 80) 23 = .ok (.lload_n 2, 1) := by decide +kernel
theorem e80_24 : decode (px_cd 80) 24 = .ok (.ldc2_w 100, 3) := by decide +kernel
theorem e80_27 : decode (px_cd 80) 27 = .ok (.lcmp, 1) := by decide +kernel
theorem e80_28 : decode (px_cd 80) 28 = .ok (.ifCond .eq 11, 3) := by decide +kernel
theorem e80_31 : decode (px_cd 80) 31 = .ok (.aload_n 0, 1) := by decide +kernel
theorem e80_32 : decode (px_cd 80) 32 = .ok (.bipush 11, 2) := by decide +kernel
theorem e80_34 : decode (px_cd 80) 34 = .ok (.iload_n 1, 1) := by decide +kernel
theorem e80_35 : decode (px_cd 80) 35 = .ok (.invokevirtual 60, 3) := by decide +kernel
theorem e80_38 : decode (px_cd 80) 38 = .ok (.ireturn, 1) := by decide +kernel
theorem e80_39 : decode (px_cd 80) 39 = .ok (.aload_n 0, 1) := by decide +kernel
theorem e80_40 : decode (px_cd 80) 40 = .ok (.getfield 9, 3) := by decide +kernel
theorem e80_43 : decode (px_cd 80) 43 = .ok (.iload_n 1, 1) := by decide +kernel
theorem e80_44 : decode (px_cd 80) 44 = .ok (.iconst 4, 1) := by decide +kernel
theorem e80_45 : decode (px_cd 80) 45 = .ok (.iadd, 1) := by decide +kernel
theorem e80_46 : decode (px_cd 80) 46 = .ok (.invokevirtual 80, 3) := by decide +kernel
theorem e80_49 : decode (px_cd 80) 49 = .ok (.lstore 4, 2) := by decide +kernel
theorem e80_51 : decode (px_cd 80) 51 = .ok (.aload_n 0, 1) := by decide +kernel
theorem e80_52 : decode (px_cd 80) 52 = .ok (.getfield 9, 3) := by decide +kernel
theorem e80_55 : decode (px_cd 80) 55 = .ok (.iload_n 1, 1) := by decide +kernel
theorem e80_56 : decode (px_cd 80) 56 = .ok (.bipush 16, 2) := by decide +kernel
theorem e80_58 : decode (px_cd 80) 58 = .ok (.iadd, 1) := by decide +kernel
theorem e80_59 : decode (px_cd 80) 59 = .ok (.invokevirtual 80, 3) := by decide +kernel
theorem e80_62 : decode (px_cd 80) 62 = .ok (.lstore 6, 2) := by decide +kernel
theorem e80_64 : decode (px_cd 80) 64 = .ok (.lload 4, 2) := by decide +kernel
theorem e80_66 : decode (px_cd 80) 66 = .ok (.lload 6, 2) := by decide +kernel
theorem e80_68 : decode (px_cd 80) 68 = .ok (.ladd, 1) := by decide +kernel
theorem e80_69 : decode (px_cd 80) 69 = .ok (.aload_n 0, 1) := by decide +kernel
theorem e80_70 : decode (px_cd 80) 70 = .ok (.getfield 9, 3) := by decide +kernel
theorem e80_73 : decode (px_cd 80) 73 = .ok (.getfield 55, 3) := by decide +kernel
theorem e80_76 : decode (px_cd 80) 76 = .ok (.i2l, 1) := by decide +kernel
theorem e80_77 : decode (px_cd 80) 77 = .ok (.lcmp, 1) := by decide +kernel
theorem e80_78 : decode (px_cd 80) 78 = .ok (.ifCond .gt 19, 3) := by decide +kernel
theorem e80_81 : decode (px_cd 80) 81 = .ok (.lload 6, 2) := by decide +kernel
theorem e80_83 : decode (px_cd 80) 83 = .ok (.lconst 0, 1) := by decide +kernel
theorem e80_84 : decode (px_cd 80) 84 = .ok (.lcmp, 1) := by decide +kernel
theorem e80_85 : decode (px_cd 80) 85 = .ok (.ifCond .le 22, 3) := by decide +kernel
theorem e80_88 : decode (px_cd 80) 88 = .ok (.lload 4, 2) := by decide +kernel
theorem e80_90 : decode (px_cd 80) 90 = .ok (.ldc2_w 93, 3) := by decide +kernel
theorem e80_93 : decode (px_cd 80) 93 = .ok (.lcmp, 1) := by decide +kernel
theorem e80_94 : decode (px_cd 80) 94 = .ok (.ifCond .ge 13, 3) := by decide +kernel
theorem e80_97 : decode (px_cd 80) 97 = .ok (.aload_n 0, 1) := by decide +kernel
theorem e80_98 : decode (px_cd 80) 98 = .ok (.bipush 12, 2) := by decide +kernel
theorem e80_100 : decode (px_cd 80) 100 = .ok (.iload_n 1, 1) := by decide +kernel
theorem e80_101 : decode (px_cd 80) 101 = .ok (.iconst 4, 1) := by decide +kernel
theorem e80_102 : decode (px_cd 80) 102 = .ok (.iadd, 1) := by decide +kernel
theorem e80_103 : decode (px_cd 80) 103 = .ok (.invokevirtual 60, 3) := by decide +kernel
theorem e80_106 : decode (px_cd 80) 106 = .ok (.ireturn, 1) := by decide +kernel
theorem e80_107 : decode (px_cd 80) 107 = .ok (.lload_n 2, 1) := by decide +kernel
theorem e80_108 : decode (px_cd 80) 108 = .ok (.ldc2_w 100, 3) := by decide +kernel
theorem e80_111 : decode (px_cd 80) 111 = .ok (.lcmp, 1) := by decide +kernel
theorem e80_112 : decode (px_cd 80) 112 = .ok (.ifCond .ne 11, 3) := by decide +kernel
theorem e80_115 : decode (px_cd 80) 115 = .ok (.aload_n 0, 1) := by decide +kernel
theorem e80_116 : decode (px_cd 80) 116 = .ok (.iload_n 1, 1) := by decide +kernel
theorem e80_117 : decode (px_cd 80) 117 = .ok (.invokevirtual 102, 3) := by decide +kernel
theorem e80_120 : decode (px_cd 80) 120 = .ok (.goto 8, 3) := by decide +kernel
theorem e80_123 : decode (px_cd 80) 123 = .ok (.aload_n 0, 1) := by decide +kernel
theorem e80_124 : decode (px_cd 80) 124 = .ok (.iload_n 1, 1) := by decide +kernel
theorem e80_125 : decode (px_cd 80) 125 = .ok (.invokevirtual 105, 3) := by decide +kernel
theorem e80_128 : decode (px_cd 80) 128 = .ok (.istore 8, 2) := by decide +kernel
theorem e80_130 : decode (px_cd 80) 130 = .ok (.iload 8, 2) := by decide +kernel
theorem e80_132 : decode (px_cd 80) 132 = .ok (.ifCond .eq 6, 3) := by decide +kernel
theorem e80_135 : decode (px_cd 80) 135 = .ok (.iload 8, 2) := by decide +kernel
theorem e80_137 : decode (px_cd 80) 137 = .ok (.ireturn, 1) := by decide +kernel
theorem e80_138 : decode (px_cd 80) 138 = .ok (.aload_n 0, 1) := by decide +kernel
theorem e80_139 : decode (px_cd 80) 139 = .ok (.iload_n 1, 1) := by decide +kernel
theorem e80_140 : decode (px_cd 80) 140 = .ok (.invokevirtual 108, 3) := by decide +kernel
theorem e80_143 : decode (px_cd 80) 143 = .ok (.ifCond .eq 13, 3) := by decide +kernel
theorem e80_146 : decode (px_cd 80) 146 = .ok (.aload_n 0, 1) := by decide +kernel
theorem e80_147 : decode (px_cd 80) 147 = .ok (.bipush 19, 2) := by decide +kernel
theorem e80_149 : decode (px_cd 80) 149 = .ok (.iload_n 1, 1) := by decide +kernel
theorem e80_150 : decode (px_cd 80) 150 = .ok (.iconst 4, 1) := by decide +kernel
theorem e80_151 : decode (px_cd 80) 151 = .ok (.iadd, 1) := by decide +kernel
theorem e80_152 : decode (px_cd 80) 152 = .ok (.invokevirtual 60, 3) := by decide +kernel
theorem e80_155 : decode (px_cd 80) 155 = .ok (.ireturn, 1) := by decide +kernel
theorem e80_156 : decode (px_cd 80) 156 = .ok (.lload_n 2, 1) := by decide +kernel
theorem e80_157 : decode (px_cd 80) 157 = .ok (.ldc2_w 100, 3) := by decide +kernel
theorem e80_160 : decode (px_cd 80) 160 = .ok (.lcmp, 1) := by decide +kernel
theorem e80_161 : decode (px_cd 80) 161 = .ok (.ifCond .ne 11, 3) := by decide +kernel
theorem e80_164 : decode (px_cd 80) 164 = .ok (.aload_n 0, 1) := by decide +kernel
theorem e80_165 : decode (px_cd 80) 165 = .ok (.iload_n 1, 1) := by decide +kernel
theorem e80_166 : decode (px_cd 80) 166 = .ok (.invokevirtual 112, 3) := by decide +kernel
theorem e80_169 : decode (px_cd 80) 169 = .ok (.goto 8, 3) := by decide +kernel
theorem e80_172 : decode (px_cd 80) 172 = .ok (.aload_n 0, 1) := by decide +kernel
theorem e80_173 : decode (px_cd 80) 173 = .ok (.iload_n 1, 1) := by decide +kernel
theorem e80_174 : decode (px_cd 80) 174 = .ok (.invokevirtual 116, 3) := by decide +kernel
theorem e80_177 : decode (px_cd 80) 177 = .ok (.iconst 0, 1) := by decide +kernel
theorem e80_178 : decode (px_cd 80) 178 = .ok (.ireturn, 1) := by decide +kernel
-- 81 Reader_noteRowFault
theorem e81_0 : decode (px_cd 81) 0 = .ok (.aload_n 0, 1) := by decide +kernel
theorem e81_1 : decode (px_cd 81) 1 = .ok (.getfield 9, 3) := by decide +kernel
theorem e81_4 : decode (px_cd 81) 4 = .ok (.iload_n 1, 1) := by decide +kernel
theorem e81_5 : decode (px_cd 81) 5 = .ok (.bipush 28, 2) := by decide +kernel
theorem e81_7 : decode (px_cd 81) 7 = .ok (.iadd, 1) := by decide +kernel
theorem e81_8 : decode (px_cd 81) 8 = .ok (.invokevirtual 80, 3) := by decide +kernel
theorem e81_11 : decode (px_cd 81) 11 = .ok (.invokestatic 119, 3) := by decide +kernel
theorem e81_14 : decode (px_cd 81) 14 = .ok (.ifCond .eq 22, 3) := by decide +kernel
theorem e81_17 : decode (px_cd 81) 17 = .ok (.aload_n 0, 1) := by decide +kernel
theorem e81_18 : decode (px_cd 81) 18 = .ok (.getfield 9, 3) := by decide +kernel
theorem e81_21 : decode (px_cd 81) 21 = .ok (.iload_n 1, 1) := by decide +kernel
theorem e81_22 : decode (px_cd 81) 22 = .ok (.iconst 4, 1) := by decide +kernel
theorem e81_23 : decode (px_cd 81) 23 = .ok (.iadd, 1) := by decide +kernel
theorem e81_24 : decode (px_cd 81) 24 = .ok (.invokevirtual 80, 3) := by decide +kernel
theorem e81_27 : decode (px_cd 81) 27 = .ok (.ldc2_w 95, 3) := by decide +kernel
theorem e81_30 : decode (px_cd 81) 30 = .ok (.land, 1) := by decide +kernel
theorem e81_31 : decode (px_cd 81) 31 = .ok (.lconst 0, 1) := by decide +kernel
theorem e81_32 : decode (px_cd 81) 32 = .ok (.lcmp, 1) := by decide +kernel
theorem e81_33 : decode (px_cd 81) 33 = .ok (.ifCond .eq 14, 3) := by decide +kernel
theorem e81_36 : decode (px_cd 81) 36 = .ok (.aload_n 0, 1) := by decide +kernel
theorem e81_37 : decode (px_cd 81) 37 = .ok (.bipush 13, 2) := by decide +kernel
theorem e81_39 : decode (px_cd 81) 39 = .ok (.iload_n 1, 1) := by decide +kernel
theorem e81_40 : decode (px_cd 81) 40 = .ok (.bipush 28, 2) := by decide +kernel
theorem e81_42 : decode (px_cd 81) 42 = .ok (.iadd, 1) := by decide +kernel
theorem e81_43 : decode (px_cd 81) 43 = .ok (.invokevirtual 60, 3) := by decide +kernel
theorem e81_46 : decode (px_cd 81) 46 = .ok (.ireturn, 1) := by decide +kernel
theorem e81_47 : decode (px_cd 81) 47 = .ok (.aload_n 0, 1) := by decide +kernel
theorem e81_48 : decode (px_cd 81) 48 = .ok (.getfield 9, 3) := by decide +kernel
theorem e81_51 : decode (px_cd 81) 51 = .ok (.iload_n 1, 1) := by decide +kernel
theorem e81_52 : decode (px_cd 81) 52 = .ok (.bipush 24, 2) := by decide +kernel
theorem e81_54 : decode (px_cd 81) 54 = .ok (.iadd, 1) := by decide +kernel
theorem e81_55 : decode (px_cd 81) 55 = .ok (.invokevirtual 80, 3) := by decide +kernel
theorem e81_58 : decode (px_cd 81) 58 = .ok (.ldc2_w 100, 3) := by decide +kernel
theorem e81_61 : decode (px_cd 81) 61 = .ok (.lcmp, 1) := by decide +kernel
theorem e81_62 : decode (px_cd 81) 62 = .ok (.ifCond .ne 11, 3) := by decide +kernel
theorem e81_65 : decode (px_cd 81) 65 = .ok (.aload_n 0, 1) := by decide +kernel
theorem e81_66 : decode (px_cd 81) 66 = .ok (.getfield 26, 3) := by decide +kernel
theorem e81_69 : decode (px_cd 81) 69 = .ok (.iconst (-1), 1) := by decide +kernel
theorem e81_70 : decode (px_cd 81) 70 = .ok (.if_icmp .eq 14, 3) := by decide +kernel
theorem e81_73 : decode (px_cd 81) 73 = .ok (.aload_n 0, 1) := by decide +kernel
theorem e81_74 : decode (px_cd 81) 74 = .ok (.bipush 14, 2) := by decide +kernel
theorem e81_76 : decode (px_cd 81) 76 = .ok (.iload_n 1, 1) := by decide +kernel
theorem e81_77 : decode (px_cd 81) 77 = .ok (.bipush 24, 2) := by decide +kernel
theorem e81_79 : decode (px_cd 81) 79 = .ok (.iadd, 1) := by decide +kernel
theorem e81_80 : decode (px_cd 81) 80 = .ok (.invokevirtual 60, 3) := by decide +kernel
theorem e81_83 : decode (px_cd 81) 83 = .ok (.ireturn, 1) := by decide +kernel
theorem e81_84 : decode (px_cd 81) 84 = .ok (.aload_n 0, 1) := by decide +kernel
theorem e81_85 : decode (px_cd 81) 85 = .ok (.getfield 9, 3) := by decide +kernel
theorem e81_88 : decode (px_cd 81) 88 = .ok (.iload_n 1, 1) := by decide +kernel
theorem e81_89 : decode (px_cd 81) 89 = .ok (.bipush 8, 2) := by decide +kernel
theorem e81_91 : decode (px_cd 81) 91 = .ok (.iadd, 1) := by decide +kernel
theorem e81_92 : decode (px_cd 81) 92 = .ok (.invokevirtual 80, 3) := by decide +kernel
theorem e81_95 : decode (px_cd 81) 95 = .ok (.lconst 0, 1) := by decide +kernel
theorem e81_96 : decode (px_cd 81) 96 = .ok (.lcmp, 1) := by decide +kernel
theorem e81_97 : decode (px_cd 81) 97 = .ok (.ifCond .eq 14, 3) := by decide +kernel
theorem e81_100 : decode (px_cd 81) 100 = .ok (.aload_n 0, 1) := by decide +kernel
theorem e81_101 : decode (px_cd 81) 101 = .ok (.bipush 15, 2) := by decide +kernel
theorem e81_103 : decode (px_cd 81) 103 = .ok (.iload_n 1, 1) := by decide +kernel
theorem e81_104 : decode (px_cd 81) 104 = .ok (.bipush 8, 2) := by decide +kernel
theorem e81_106 : decode (px_cd 81) 106 = .ok (.iadd, 1) := by decide +kernel
theorem e81_107 : decode (px_cd 81) 107 = .ok (.invokevirtual 60, 3) := by decide +kernel
theorem e81_110 : decode (px_cd 81) 110 = .ok (.ireturn, 1) := by decide +kernel
theorem e81_111 : decode (px_cd 81) 111 = .ok (.aload_n 0, 1) := by decide +kernel
theorem e81_112 : decode (px_cd 81) 112 = .ok (.getfield 9, 3) := by decide +kernel
theorem e81_115 : decode (px_cd 81) 115 = .ok (.iload_n 1, 1) := by decide +kernel
theorem e81_116 : decode (px_cd 81) 116 = .ok (.bipush 12, 2) := by decide +kernel
theorem e81_118 : decode (px_cd 81) 118 = .ok (.iadd, 1) := by decide +kernel
theorem e81_119 : decode (px_cd 81) 119 = .ok (.invokevirtual 80, 3) := by decide +kernel
theorem e81_122 : decode (px_cd 81) 122 = .ok (.lconst 0, 1) := by decide +kernel
theorem e81_123 : decode (px_cd 81) 123 = .ok (.lcmp, 1) := by decide +kernel
theorem e81_124 : decode (px_cd 81) 124 = .ok (.ifCond .eq 14, 3) := by decide +kernel
theorem e81_127 : decode (px_cd 81) 127 = .ok (.aload_n 0, 1) := by decide +kernel
theorem e81_128 : decode (px_cd 81) 128 = .ok (.bipush 16, 2) := by decide +kernel
theorem e81_130 : decode (px_cd 81) 130 = .ok (.iload_n 1, 1) := by decide +kernel
theorem e81_131 : decode (px_cd 81) 131 = .ok (.bipush 12, 2) := by decide +kernel
theorem e81_133 : decode (px_cd 81) 133 = .ok (.iadd, 1) := by decide +kernel
theorem e81_134 : decode (px_cd 81) 134 = .ok (.invokevirtual 60, 3) := by decide +kernel
theorem e81_137 : decode (px_cd 81) 137 = .ok (.ireturn, 1) := by decide +kernel
theorem e81_138 : decode (px_cd 81) 138 = .ok (.aload_n 0, 1) := by decide +kernel
theorem e81_139 : decode (px_cd 81) 139 = .ok (.getfield 9, 3) := by decide +kernel
theorem e81_142 : decode (px_cd 81) 142 = .ok (.iload_n 1, 1) := by decide +kernel
theorem e81_143 : decode (px_cd 81) 143 = .ok (.bipush 20, 2) := by decide +kernel
theorem e81_145 : decode (px_cd 81) 145 = .ok (.iadd, 1) := by decide +kernel
theorem e81_146 : decode (px_cd 81) 146 = .ok (.invokevirtual 80, 3) := by decide +kernel
theorem e81_149 : decode (px_cd 81) 149 = .ok (.lconst 0, 1) := by decide +kernel
theorem e81_150 : decode (px_cd 81) 150 = .ok (.lcmp, 1) := by decide +kernel
theorem e81_151 : decode (px_cd 81) 151 = .ok (.ifCond .eq 16, 3) := by decide +kernel
theorem e81_154 : decode (px_cd 81) 154 = .ok (.aload_n 0, 1) := by decide +kernel
theorem e81_155 : decode (px_cd 81) 155 = .ok (.bipush 18, 2) := by decide +kernel
theorem e81_157 : decode (px_cd 81) 157 = .ok (.iload_n 1, 1) := by decide +kernel
theorem e81_158 : decode (px_cd 81) 158 = .ok (.bipush 20, 2) := by decide +kernel
theorem e81_160 : decode (px_cd 81) 160 = .ok (.iadd, 1) := by decide +kernel
theorem e81_161 : decode (px_cd 81) 161 = .ok (.invokevirtual 60, 3) := by decide +kernel
theorem e81_164 : decode (px_cd 81) 164 = .ok (.goto 4, 3) := by decide +kernel
theorem e81_167 : decode (px_cd 81) 167 = .ok (.iconst 0, 1) := by decide +kernel
theorem e81_168 : decode (px_cd 81) 168 = .ok (.ireturn, 1) := by decide +kernel
-- 82 Reader_isPage
theorem e82_0 : decode (px_cd 82) 0 = .ok (.lload_n 0, 1) := by decide +kernel
theorem e82_1 : decode (px_cd 82) 1 = .ok (.lconst 1, 1) := by decide +kernel
theorem e82_2 : decode (px_cd 82) 2 = .ok (.lcmp, 1) := by decide +kernel
theorem e82_3 : decode (px_cd 82) 3 = .ok (.ifCond .lt 25, 3) := by decide +kernel
theorem e82_6 : decode (px_cd 82) 6 = .ok (.lload_n 0, 1) := by decide +kernel
theorem e82_7 : decode (px_cd 82) 7 = .ok (.ldc2_w 139, 3) := by decide +kernel
theorem e82_10 : decode (px_cd 82) 10 = .ok (.lcmp, 1) := by decide +kernel
theorem e82_11 : decode (px_cd 82) 11 = .ok (.ifCond .gt 17, 3) := by decide +kernel
theorem e82_14 : decode (px_cd 82) 14 = .ok (.lload_n 0, 1) := by decide +kernel
theorem e82_15 : decode (px_cd 82) 15 = .ok (.lload_n 0, 1) := by decide +kernel
theorem e82_16 : decode (px_cd 82) 16 = .ok (.lconst 1, 1) := by decide +kernel
theorem e82_17 : decode (px_cd 82) 17 = .ok (.lsub, 1) := by decide +kernel
theorem e82_18 : decode (px_cd 82) 18 = .ok (.land, 1) := by decide +kernel
theorem e82_19 : decode (px_cd 82) 19 = .ok (.lconst 0, 1) := by decide +kernel
theorem e82_20 : decode (px_cd 82) 20 = .ok (.lcmp, 1) := by decide +kernel
theorem e82_21 : decode (px_cd 82) 21 = .ok (.ifCond .ne 7, 3) := by decide +kernel
theorem e82_24 : decode (px_cd 82) 24 = .ok (.iconst 1, 1) := by decide +kernel
theorem e82_25 : decode (px_cd 82) 25 = .ok (.goto 4, 3) := by decide +kernel
theorem e82_28 : decode (px_cd 82) 28 = .ok (.iconst 0, 1) := by decide +kernel
theorem e82_29 : decode (px_cd 82) 29 = .ok (.ireturn, 1) := by decide +kernel
-- 83 Reader_segmentRowFault
theorem e83_0 : decode (px_cd 83) 0 = .ok (.aload_n 0, 1) := by decide +kernel
theorem e83_1 : decode (px_cd 83) 1 = .ok (.getfield 9, 3) := by decide +kernel
theorem e83_4 : decode (px_cd 83) 4 = .ok (.iload_n 1, 1) := by decide +kernel
theorem e83_5 : decode (px_cd 83) 5 = .ok (.bipush 8, 2) := by decide +kernel
theorem e83_7 : decode (px_cd 83) 7 = .ok (.iadd, 1) := by decide +kernel
theorem e83_8 : decode (px_cd 83) 8 = .ok (.invokevirtual 80, 3) := by decide +kernel
theorem e83_11 : decode (px_cd 83) 11 = .ok (.lstore_n 2, 1) := by decide +kernel
theorem e83_12 : decode (px_cd 83) 12 = .ok (.aload_n 0, 1) := by decide +kernel
theorem e83_13 : decode (px_cd 83) 13 = .ok (.getfield 9, 3) := by decide +kernel
theorem e83_16 : decode (px_cd 83) 16 = .ok (.iload_n 1, 1) := by decide +kernel
theorem e83_17 : decode (px_cd 83) 17 = .ok (.bipush 28, 2) := by decide +kernel
theorem e83_19 : decode (px_cd 83) 19 = .ok (.iadd, 1) := by decide +kernel
theorem e83_20 : decode (px_cd 83) 20 = .ok (.invokevirtual 80, 3) := by decide +kernel
theorem e83_23 : decode (px_cd 83) 23 = .ok (.lstore 4, 2) := by decide +kernel
theorem e83_25 : decode (px_cd 83) 25 = .ok (.lload 4, 2) := by decide +kernel
theorem e83_27 : decode (px_cd 83) 27 = .ok (.invokestatic 119, 3) := by decide +kernel
theorem e83_30 : decode (px_cd 83) 30 = .ok (.ifCond .eq 25, 3) := by decide +kernel
theorem e83_33 : decode (px_cd 83) 33 = .ok (.aload_n 0, 1) := by decide +kernel
theorem e83_34 : decode (px_cd 83) 34 = .ok (.getfield 9, 3) := by decide +kernel
theorem e83_37 : decode (px_cd 83) 37 = .ok (.iload_n 1, 1) := by decide +kernel
theorem e83_38 : decode (px_cd 83) 38 = .ok (.iconst 4, 1) := by decide +kernel
theorem e83_39 : decode (px_cd 83) 39 = .ok (.iadd, 1) := by decide +kernel
theorem e83_40 : decode (px_cd 83) 40 = .ok (.invokevirtual 80, 3) := by decide +kernel
theorem e83_43 : decode (px_cd 83) 43 = .ok (.lload_n 2, 1) := by decide +kernel
theorem e83_44 : decode (px_cd 83) 44 = .ok (.lxor, 1) := by decide +kernel
theorem e83_45 : decode (px_cd 83) 45 = .ok (.lload 4, 2) := by decide +kernel
theorem e83_47 : decode (px_cd 83) 47 = .ok (.lconst 1, 1) := by decide +kernel
theorem e83_48 : decode (px_cd 83) 48 = .ok (.lsub, 1) := by decide +kernel
theorem e83_49 : decode (px_cd 83) 49 = .ok (.land, 1) := by decide +kernel
theorem e83_50 : decode (px_cd 83) 50 = .ok (.lconst 0, 1) := by decide +kernel
theorem e83_51 : decode (px_cd 83) 51 = .ok (.lcmp, 1) := by decide +kernel
theorem e83_52 : decode (px_cd 83) 52 = .ok (.ifCond .eq 14, 3) := by decide +kernel
theorem e83_55 : decode (px_cd 83) 55 = .ok (.aload_n 0, 1) := by decide +kernel
theorem e83_56 : decode (px_cd 83) 56 = .ok (.bipush 13, 2) := by decide +kernel
theorem e83_58 : decode (px_cd 83) 58 = .ok (.iload_n 1, 1) := by decide +kernel
theorem e83_59 : decode (px_cd 83) 59 = .ok (.bipush 28, 2) := by decide +kernel
theorem e83_61 : decode (px_cd 83) 61 = .ok (.iadd, 1) := by decide +kernel
theorem e83_62 : decode (px_cd 83) 62 = .ok (.invokevirtual 60, 3) := by decide +kernel
theorem e83_65 : decode (px_cd 83) 65 = .ok (.ireturn, 1) := by decide +kernel
theorem e83_66 : decode (px_cd 83) 66 = .ok (.aload_n 0, 1) := by decide +kernel
theorem e83_67 : decode (px_cd 83) 67 = .ok (.getfield 18, 3) := by decide +kernel
theorem e83_70 : decode (px_cd 83) 70 = .ok (.aload_n 0, 1) := by decide +kernel
theorem e83_71 : decode (px_cd 83) 71 = .ok (.getfield 9, 3) := by decide +kernel
theorem e83_74 : decode (px_cd 83) 74 = .ok (.iload_n 1, 1) := by decide +kernel
theorem e83_75 : decode (px_cd 83) 75 = .ok (.bipush 24, 2) := by decide +kernel
theorem e83_77 : decode (px_cd 83) 77 = .ok (.iadd, 1) := by decide +kernel
theorem e83_78 : decode (px_cd 83) 78 = .ok (.invokevirtual 80, 3) := by decide +kernel
theorem e83_81 : decode (px_cd 83) 81 = .ok (.invokestatic 123, 3) := by decide +kernel
theorem e83_84 : decode (px_cd 83) 84 = .ok (.invokevirtual 127, 3) := by decide +kernel
theorem e83_87 : decode (px_cd 83) 87 = .ok (.astore 6, 2) := by decide +kernel
theorem e83_89 : decode (px_cd 83) 89 = .ok (.aload 6, 2) := by decide +kernel
theorem e83_91 : decode (px_cd 83) 91 = .ok (.ifnull 11, 3) := by decide +kernel
theorem e83_94 : decode (px_cd 83) 94 = .ok (.aload 6, 2) := by decide +kernel
theorem e83_96 : decode (px_cd 83) 96 = .ok (.getfield 131, 3) := by decide +kernel
theorem e83_99 : decode (px_cd 83) 99 = .ok (.ifCond .eq 14, 3) := by decide +kernel
theorem e83_102 : decode (px_cd 83) 102 = .ok (.aload_n 0, 1) := by decide +kernel
theorem e83_103 : decode (px_cd 83) 103 = .ok (.bipush 14, 2) := by decide +kernel
theorem e83_105 : decode (px_cd 83) 105 = .ok (.iload_n 1, 1) := by decide +kernel
theorem e83_106 : decode (px_cd 83) 106 = .ok (.bipush 24, 2) := by decide +kernel
theorem e83_108 : decode (px_cd 83) 108 = .ok (.iadd, 1) := by decide +kernel
theorem e83_109 : decode (px_cd 83) 109 = .ok (.invokevirtual 60, 3) := by decide +kernel
theorem e83_112 : decode (px_cd 83) 112 = .ok (.ireturn, 1) := by decide +kernel
theorem e83_113 : decode (px_cd 83) 113 = .ok (.lload_n 2, 1) := by decide +kernel
theorem e83_114 : decode (px_cd 83) 114 = .ok (.ldc2_w 137, 3) := by decide +kernel
theorem e83_117 : decode (px_cd 83) 117 = .ok (.lcmp, 1) := by decide +kernel
theorem e83_118 : decode (px_cd 83) 118 = .ok (.ifCond .lt 14, 3) := by decide +kernel
theorem e83_121 : decode (px_cd 83) 121 = .ok (.aload_n 0, 1) := by decide +kernel
theorem e83_122 : decode (px_cd 83) 122 = .ok (.bipush 15, 2) := by decide +kernel
theorem e83_124 : decode (px_cd 83) 124 = .ok (.iload_n 1, 1) := by decide +kernel
theorem e83_125 : decode (px_cd 83) 125 = .ok (.bipush 8, 2) := by decide +kernel
theorem e83_127 : decode (px_cd 83) 127 = .ok (.iadd, 1) := by decide +kernel
theorem e83_128 : decode (px_cd 83) 128 = .ok (.invokevirtual 60, 3) := by decide +kernel
theorem e83_131 : decode (px_cd 83) 131 = .ok (.ireturn, 1) := by decide +kernel
theorem e83_132 : decode (px_cd 83) 132 = .ok (.aload_n 0, 1) := by decide +kernel
theorem e83_133 : decode (px_cd 83) 133 = .ok (.getfield 9, 3) := by decide +kernel
theorem e83_136 : decode (px_cd 83) 136 = .ok (.iload_n 1, 1) := by decide +kernel
theorem e83_137 : decode (px_cd 83) 137 = .ok (.bipush 12, 2) := by decide +kernel
theorem e83_139 : decode (px_cd 83) 139 = .ok (.iadd, 1) := by decide +kernel
theorem e83_140 : decode (px_cd 83) 140 = .ok (.invokevirtual 80, 3) := by decide +kernel
theorem e83_143 : decode (px_cd 83) 143 = .ok (.lload_n 2, 1) := by decide +kernel
theorem e83_144 : decode (px_cd 83) 144 = .ok (.lcmp, 1) := by decide +kernel
theorem e83_145 : decode (px_cd 83) 145 = .ok (.ifCond .eq 14, 3) := by decide +kernel
theorem e83_148 : decode (px_cd 83) 148 = .ok (.aload_n 0, 1) := by decide +kernel
theorem e83_149 : decode (px_cd 83) 149 = .ok (.bipush 16, 2) := by decide +kernel
theorem e83_151 : decode (px_cd 83) 151 = .ok (.iload_n 1, 1) := by decide +kernel
theorem e83_152 : decode (px_cd 83) 152 = .ok (.bipush 12, 2) := by decide +kernel
theorem e83_154 : decode (px_cd 83) 154 = .ok (.iadd, 1) := by decide +kernel
theorem e83_155 : decode (px_cd 83) 155 = .ok (.invokevirtual 60, 3) := by decide +kernel
theorem e83_158 : decode (px_cd 83) 158 = .ok (.ireturn, 1) := by decide +kernel
theorem e83_159 : decode (px_cd 83) 159 = .ok (.aload_n 0, 1) := by decide +kernel
theorem e83_160 : decode (px_cd 83) 160 = .ok (.getfield 9, 3) := by decide +kernel
theorem e83_163 : decode (px_cd 83) 163 = .ok (.iload_n 1, 1) := by decide +kernel
theorem e83_164 : decode (px_cd 83) 164 = .ok (.bipush 16, 2) := by decide +kernel
theorem e83_166 : decode (px_cd 83) 166 = .ok (.iadd, 1) := by decide +kernel
theorem e83_167 : decode (px_cd 83) 167 = .ok (.invokevirtual 80, 3) := by decide +kernel
theorem e83_170 : decode (px_cd 83) 170 = .ok (.lstore 7, 2) := by decide +kernel
theorem e83_172 : decode (px_cd 83) 172 = .ok (.lload 7, 2) := by decide +kernel
theorem e83_174 : decode (px_cd 83) 174 = .ok (.ldc2_w 139, 3) := by decide +kernel
theorem e83_177 : decode (px_cd 83) 177 = .ok (.lcmp, 1) := by decide +kernel
theorem e83_178 : decode (px_cd 83) 178 = .ok (.ifCond .le 14, 3) := by decide +kernel
theorem e83_181 : decode (px_cd 83) 181 = .ok (.aload_n 0, 1) := by decide +kernel
theorem e83_182 : decode (px_cd 83) 182 = .ok (.bipush 17, 2) := by decide +kernel
theorem e83_184 : decode (px_cd 83) 184 = .ok (.iload_n 1, 1) := by decide +kernel
theorem e83_185 : decode (px_cd 83) 185 = .ok (.bipush 16, 2) := by decide +kernel
theorem e83_187 : decode (px_cd 83) 187 = .ok (.iadd, 1) := by decide +kernel
theorem e83_188 : decode (px_cd 83) 188 = .ok (.invokevirtual 60, 3) := by decide +kernel
theorem e83_191 : decode (px_cd 83) 191 = .ok (.ireturn, 1) := by decide +kernel
theorem e83_192 : decode (px_cd 83) 192 = .ok (.aload_n 0, 1) := by decide +kernel
theorem e83_193 : decode (px_cd 83) 193 = .ok (.getfield 9, 3) := by decide +kernel
theorem e83_196 : decode (px_cd 83) 196 = .ok (.iload_n 1, 1) := by decide +kernel
theorem e83_197 : decode (px_cd 83) 197 = .ok (.bipush 20, 2) := by decide +kernel
theorem e83_199 : decode (px_cd 83) 199 = .ok (.iadd, 1) := by decide +kernel
theorem e83_200 : decode (px_cd 83) 200 = .ok (.invokevirtual 80, 3) := by decide +kernel
theorem e83_203 : decode (px_cd 83) 203 = .ok (.lload 7, 2) := by decide +kernel
theorem e83_205 : decode (px_cd 83) 205 = .ok (.lsub, 1) := by decide +kernel
theorem e83_206 : decode (px_cd 83) 206 = .ok (.lstore 9, 2) := by decide +kernel
theorem e83_208 : decode (px_cd 83) 208 = .ok (.lload 9, 2) := by decide +kernel
theorem e83_210 : decode (px_cd 83) 210 = .ok (.lconst 0, 1) := by decide +kernel
theorem e83_211 : decode (px_cd 83) 211 = .ok (.lcmp, 1) := by decide +kernel
theorem e83_212 : decode (px_cd 83) 212 = .ok (.ifCond .lt 26, 3) := by decide +kernel
theorem e83_215 : decode (px_cd 83) 215 = .ok (.lload 9, 2) := by decide +kernel
theorem e83_217 : decode (px_cd 83) 217 = .ok (.aload 6, 2) := by decide +kernel
theorem e83_219 : decode (px_cd 83) 219 = .ok (.getfield 141, 3) := by decide +kernel
theorem e83_222 : decode (px_cd 83) 222 = .ok (.bipush 6, 2) := by decide +kernel
theorem e83_224 : decode (px_cd 83) 224 = .ok (.if_icmp .ne 8, 3) := by decide +kernel
theorem e83_227 : decode (px_cd 83) 227 = .ok (.ldc 144, 2) := by decide +kernel
theorem e83_229 : decode (px_cd 83) 229 = .ok (.goto 4, 3) := by decide +kernel
theorem e83_232 : decode (px_cd 83) 232 = .ok (.iconst 0, 1) := by decide +kernel
theorem e83_233 : decode (px_cd 83) 233 = .ok (.i2l, 1) := by decide +kernel
theorem e83_234 : decode (px_cd 83) 234 = .ok (.lcmp, 1) := by decide +kernel
theorem e83_235 : decode (px_cd 83) 235 = .ok (.ifCond .le 14, 3) := by decide +kernel
theorem e83_238 : decode (px_cd 83) 238 = .ok (.aload_n 0, 1) := by decide +kernel
theorem e83_239 : decode (px_cd 83) 239 = .ok (.bipush 18, 2) := by decide +kernel
theorem e83_241 : decode (px_cd 83) 241 = .ok (.iload_n 1, 1) := by decide +kernel
theorem e83_242 : decode (px_cd 83) 242 = .ok (.bipush 20, 2) := by decide +kernel
theorem e83_244 : decode (px_cd 83) 244 = .ok (.iadd, 1) := by decide +kernel
theorem e83_245 : decode (px_cd 83) 245 = .ok (.invokevirtual 60, 3) := by decide +kernel
theorem e83_248 : decode (px_cd 83) 248 = .ok (.ireturn, 1) := by decide +kernel
theorem e83_249 : decode (px_cd 83) 249 = .ok (.iconst 0, 1) := by decide +kernel
theorem e83_250 : decode (px_cd 83) 250 = .ok (.ireturn, 1) := by decide +kernel
-- 84 Reader_segmentWith
theorem e84_0 : decode (px_cd 84) 0 = .ok (.iconst 0, 1) := by decide +kernel
theorem e84_1 : decode (px_cd 84) 1 = .ok (.istore_n 2, 1) := by decide +kernel
theorem e84_2 : decode (px_cd 84) 2 = .ok (.iload_n 2, 1) := by decide +kernel
theorem e84_3 : decode (px_cd 84) 3 = .ok (.iconst 3, 1) := by decide +kernel
theorem e84_4 : decode (px_cd 84) 4 = .ok (.if_icmp .ge 22, 3) := by decide +kernel
theorem e84_7 : decode (px_cd 84) 7 = .ok (.getstatic 145, 3) := by decide +kernel
theorem e84_10 : decode (px_cd 84) 10 = .ok (.iload_n 2, 1) := by decide +kernel
theorem e84_11 : decode (px_cd 84) 11 = .ok (.iaload, 1) := by decide +kernel
theorem e84_12 : decode (px_cd 84) 12 = .ok (.i2l, 1) := by decide +kernel
theorem e84_13 : decode (px_cd 84) 13 = .ok (.lload_n 0, 1) := by decide +kernel
theorem e84_14 : decode (px_cd 84) 14 = .ok (.lcmp, 1) := by decide +kernel
theorem e84_15 : decode (px_cd 84) 15 = .ok (.ifCond .ne 5, 3) := by decide +kernel
theorem e84_18 : decode (px_cd 84) 18 = .ok (.iload_n 2, 1) := by decide +kernel
theorem e84_19 : decode (px_cd 84) 19 = .ok (.ireturn, 1) := by decide +kernel
theorem e84_20 : decode (px_cd 84) 20 = .ok (.iinc 2 1, 3) := by decide +kernel
theorem e84_23 : decode (px_cd 84) 23 = .ok (.goto (-21), 3) := by decide +kernel
theorem e84_26 : decode (px_cd 84) 26 = .ok (.iconst (-1), 1) := by decide +kernel
theorem e84_27 : decode (px_cd 84) 27 = .ok (.ireturn, 1) := by decide +kernel
-- 85 Reader_sharesBytes
theorem e85_0 : decode (px_cd 85) 0 = .ok (.aload_n 0, 1) := by decide +kernel
theorem e85_1 : decode (px_cd 85) 1 = .ok (.getfield 9, 3) := by decide +kernel
theorem e85_4 : decode (px_cd 85) 4 = .ok (.iload_n 1, 1) := by decide +kernel
theorem e85_5 : decode (px_cd 85) 5 = .ok (.iconst 4, 1) := by decide +kernel
theorem e85_6 : decode (px_cd 85) 6 = .ok (.iadd, 1) := by decide +kernel
theorem e85_7 : decode (px_cd 85) 7 = .ok (.invokevirtual 80, 3) := by decide +kernel
theorem e85_10 : decode (px_cd 85) 10 = .ok (.lstore_n 2, 1) := by decide +kernel
theorem e85_11 : decode (px_cd 85) 11 = .ok (.lload_n 2, 1) := by decide +kernel
theorem e85_12 : decode (px_cd 85) 12 = .ok (.aload_n 0, 1) := by decide +kernel
theorem e85_13 : decode (px_cd 85) 13 = .ok (.getfield 9, 3) := by decide +kernel
theorem e85_16 : decode (px_cd 85) 16 = .ok (.iload_n 1, 1) := by decide +kernel
theorem e85_17 : decode (px_cd 85) 17 = .ok (.bipush 16, 2) := by decide +kernel
theorem e85_19 : decode (px_cd 85) 19 = .ok (.iadd, 1) := by decide +kernel
theorem e85_20 : decode (px_cd 85) 20 = .ok (.invokevirtual 80, 3) := by decide +kernel
theorem e85_23 : decode (px_cd 85) 23 = .ok (.ladd, 1) := by decide +kernel
theorem e85_24 : decode (px_cd 85) 24 = .ok (.lstore 4, 2) := by decide +kernel
theorem e85_26 : decode (px_cd 85) 26 = .ok (.lload_n 2, 1) := by decide +kernel
theorem e85_27 : decode (px_cd 85) 27 = .ok (.lload 4, 2) := by decide +kernel
theorem e85_29 : decode (px_cd 85) 29 = .ok (.aload_n 0, 1) := by decide +kernel
theorem e85_30 : decode (px_cd 85) 30 = .ok (.getfield 87, 3) := by decide +kernel
theorem e85_33 : decode (px_cd 85) 33 = .ok (.i2l, 1) := by decide +kernel
theorem e85_34 : decode (px_cd 85) 34 = .ok (.aload_n 0, 1) := by decide +kernel
theorem e85_35 : decode (px_cd 85) 35 = .ok (.getfield 87, 3) := by decide +kernel
theorem e85_38 : decode (px_cd 85) 38 = .ok (.bipush 32, 2) := by decide +kernel
theorem e85_40 : decode (px_cd 85) 40 = .ok (.aload_n 0, 1) := by decide +kernel
theorem e85_41 : decode (px_cd 85) 41 = .ok (.getfield 84, 3) := by decide +kernel
theorem e85_44 : decode (px_cd 85) 44 = .ok (.imul, 1) := by decide +kernel
theorem e85_45 : decode (px_cd 85) 45 = .ok (.iadd, 1) := by decide +kernel
theorem e85_46 : decode (px_cd 85) 46 = .ok (.i2l, 1) := by decide +kernel
theorem e85_47 : decode (px_cd 85) 47 = .ok (.invokestatic 148, 3) := by decide +kernel
theorem e85_50 : decode (px_cd 85) 50 = .ok (.ifCond .eq 5, 3) := by decide +kernel
theorem e85_53 : decode (px_cd 85) 53 = .ok (.iconst 1, 1) := by decide +kernel
theorem e85_54 : decode (px_cd 85) 54 = .ok (.ireturn, 1) := by decide +kernel
theorem e85_55 : decode (px_cd 85) 55 = .ok (.aload_n 0, 1) := by decide +kernel
theorem e85_56 : decode (px_cd 85) 56 = .ok (.getfield 87, 3) := by decide +kernel
theorem e85_59 : decode (px_cd 85) 59 = .ok (.istore 6, 2) := by decide +kernel
theorem e85_61 : decode (px_cd 85) 61 = .ok (.iload 6, 2) := by decide +kernel
theorem e85_63 : decode (px_cd 85) 63 = .ok (.iload_n 1, 1) := by decide +kernel
theorem e85_64 : decode (px_cd 85) 64 = .ok (.if_icmp .ge 68, 3) := by decide +kernel
theorem e85_67 : decode (px_cd 85) 67 = .ok (.aload_n 0, 1) := by decide +kernel
theorem e85_68 : decode (px_cd 85) 68 = .ok (.getfield 9, 3) := by decide +kernel
theorem e85_71 : decode (px_cd 85) 71 = .ok (.iload 6, 2) := by decide +kernel
theorem e85_73 : decode (px_cd 85) 73 = .ok (.iconst 4, 1) := by decide +kernel
theorem e85_74 : decode (px_cd 85) 74 = .ok (.iadd, 1) := by decide +kernel
theorem e85_75 : decode (px_cd 85) 75 = .ok (.invokevirtual 80, 3) := by decide +kernel
theorem e85_78 : decode (px_cd 85) 78 = .ok (.lstore 7, 2) := by decide +kernel
theorem e85_80 : decode (px_cd 85) 80 = .ok (.lload 7, 2) := by decide +kernel
theorem e85_82 : decode (px_cd 85) 82 = .ok (.aload_n 0, 1) := by decide +kernel
theorem e85_83 : decode (px_cd 85) 83 = .ok (.getfield 9, 3) := by decide +kernel
theorem e85_86 : decode (px_cd 85) 86 = .ok (.iload 6, 2) := by decide +kernel
theorem e85_88 : decode (px_cd 85) 88 = .ok (.bipush 16, 2) := by decide +kernel
theorem e85_90 : decode (px_cd 85) 90 = .ok (.iadd, 1) := by decide +kernel
theorem e85_91 : decode (px_cd 85) 91 = .ok (.invokevirtual 80, 3) := by decide +kernel
theorem e85_94 : decode (px_cd 85) 94 = .ok (.ladd, 1) := by decide +kernel
theorem e85_95 : decode (px_cd 85) 95 = .ok (.lstore 9, 2) := by decide +kernel
theorem e85_97 : decode (px_cd 85) 97 = .ok (.aload_n 0, 1) := by decide +kernel
theorem e85_98 : decode (px_cd 85) 98 = .ok (.getfield 9, 3) := by decide +kernel
theorem e85_101 : decode (px_cd 85) 101 = .ok (.iload 6, 2) := by decide +kernel
theorem e85_103 : decode (px_cd 85) 103 = .ok (.invokevirtual 80, 3) := by decide +kernel
theorem e85_106 : decode (px_cd 85) 106 = .ok (.lconst 0, 1) := by decide +kernel
theorem e85_107 : decode (px_cd 85) 107 = .ok (.lcmp, 1) := by decide +kernel
theorem e85_108 : decode (px_cd 85) 108 = .ok (.ifCond .eq 18, 3) := by decide +kernel
theorem e85_111 : decode (px_cd 85) 111 = .ok (.lload_n 2, 1) := by decide +kernel
theorem e85_112 : decode (px_cd 85) 112 = .ok (.lload 4, 2) := by decide +kernel
theorem e85_114 : decode (px_cd 85) 114 = .ok (.lload 7, 2) := by decide +kernel
theorem e85_116 : decode (px_cd 85) 116 = .ok (.lload 9, 2) := by decide +kernel
theorem e85_118 : decode (px_cd 85) 118 = .ok (.invokestatic 148, 3) := by decide +kernel
theorem e85_121 : decode (px_cd 85) 121 = .ok (.ifCond .eq 5, 3) := by decide +kernel
theorem e85_124 : decode (px_cd 85) 124 = .ok (.iconst 1, 1) := by decide +kernel
theorem e85_125 : decode (px_cd 85) 125 = .ok (.ireturn, 1) := by decide +kernel
theorem e85_126 : decode (px_cd 85) 126 = .ok (.iinc 6 32, 3) := by decide +kernel
theorem e85_129 : decode (px_cd 85) 129 = .ok (.goto (-68), 3) := by decide +kernel
theorem e85_132 : decode (px_cd 85) 132 = .ok (.iconst 0, 1) := by decide +kernel
theorem e85_133 : decode (px_cd 85) 133 = .ok (.ireturn, 1) := by decide +kernel
-- 86 Reader_meet
theorem e86_0 : decode (px_cd 86) 0 = .ok (.lload_n 0, 1) := by decide +kernel
theorem e86_1 : decode (px_cd 86) 1 = .ok (.lload 4, 2) := by decide +kernel
theorem e86_3 : decode (px_cd 86) 3 = .ok (.invokestatic 152, 3) := by decide +kernel
theorem e86_6 : decode (px_cd 86) 6 = .ok (.lload_n 2, 1) := by decide +kernel
theorem e86_7 : decode (px_cd 86) 7 = .ok (.lload 6, 2) := by decide +kernel
theorem e86_9 : decode (px_cd 86) 9 = .ok (.invokestatic 158, 3) := by decide +kernel
theorem e86_12 : decode (px_cd 86) 12 = .ok (.lcmp, 1) := by decide +kernel
theorem e86_13 : decode (px_cd 86) 13 = .ok (.ifCond .ge 7, 3) := by decide +kernel
theorem e86_16 : decode (px_cd 86) 16 = .ok (.iconst 1, 1) := by decide +kernel
theorem e86_17 : decode (px_cd 86) 17 = .ok (.goto 4, 3) := by decide +kernel
theorem e86_20 : decode (px_cd 86) 20 = .ok (.iconst 0, 1) := by decide +kernel
theorem e86_21 : decode (px_cd 86) 21 = .ok (.ireturn, 1) := by decide +kernel
-- 87 Reader_takeNote
theorem e87_0 : decode (px_cd 87) 0 = .ok (.aload_n 0, 1) := by decide +kernel
theorem e87_1 : decode (px_cd 87) 1 = .ok (.iload_n 1, 1) := by decide +kernel
theorem e87_2 : decode (px_cd 87) 2 = .ok (.putfield 26, 3) := by decide +kernel
theorem e87_5 : decode (px_cd 87) 5 = .ok (.aload_n 0, 1) := by decide +kernel
theorem e87_6 : decode (px_cd 87) 6 = .ok (.aload_n 0, 1) := by decide +kernel
theorem e87_7 : decode (px_cd 87) 7 = .ok (.getfield 9, 3) := by decide +kernel
theorem e87_10 : decode (px_cd 87) 10 = .ok (.iload_n 1, 1) := by decide +kernel
theorem e87_11 : decode (px_cd 87) 11 = .ok (.iconst 4, 1) := by decide +kernel
theorem e87_12 : decode (px_cd 87) 12 = .ok (.iadd, 1) := by decide +kernel
theorem e87_13 : decode (px_cd 87) 13 = .ok (.invokevirtual 80, 3) := by decide +kernel
theorem e87_16 : decode (px_cd 87) 16 = .ok (.l2i, 1) := by decide +kernel
theorem e87_17 : decode (px_cd 87) 17 = .ok (.putfield 161, 3) := by decide +kernel
theorem e87_20 : decode (px_cd 87) 20 = .ok (.aload_n 0, 1) := by decide +kernel
theorem e87_21 : decode (px_cd 87) 21 = .ok (.aload_n 0, 1) := by decide +kernel
theorem e87_22 : decode (px_cd 87) 22 = .ok (.getfield 9, 3) := by decide +kernel
theorem e87_25 : decode (px_cd 87) 25 = .ok (.iload_n 1, 1) := by decide +kernel
theorem e87_26 : decode (px_cd 87) 26 = .ok (.bipush 16, 2) := by decide +kernel
theorem e87_28 : decode (px_cd 87) 28 = .ok (.iadd, 1) := by decide +kernel
theorem e87_29 : decode (px_cd 87) 29 = .ok (.invokevirtual 80, 3) := by decide +kernel
theorem e87_32 : decode (px_cd 87) 32 = .ok (.l2i, 1) := by decide +kernel
theorem e87_33 : decode (px_cd 87) 33 = .ok (.putfield 164, 3) := by decide +kernel
theorem e87_36 : decode (px_cd 87) 36 = .ok (.return_, 1) := by decide +kernel
-- 88 Reader_takeSegment
theorem e88_0 : decode (px_cd 88) 0 = .ok (.aload_n 0, 1) := by decide +kernel
theorem e88_1 : decode (px_cd 88) 1 = .ok (.getfield 9, 3) := by decide +kernel
theorem e88_4 : decode (px_cd 88) 4 = .ok (.iload_n 1, 1) := by decide +kernel
theorem e88_5 : decode (px_cd 88) 5 = .ok (.bipush 24, 2) := by decide +kernel
theorem e88_7 : decode (px_cd 88) 7 = .ok (.iadd, 1) := by decide +kernel
theorem e88_8 : decode (px_cd 88) 8 = .ok (.invokevirtual 80, 3) := by decide +kernel
theorem e88_11 : decode (px_cd 88) 11 = .ok (.invokestatic 123, 3) := by decide +kernel
theorem e88_14 : decode (px_cd 88) 14 = .ok (.istore_n 2, 1) := by decide +kernel
theorem e88_15 : decode (px_cd 88) 15 = .ok (.aload_n 0, 1) := by decide +kernel
theorem e88_16 : decode (px_cd 88) 16 = .ok (.getfield 18, 3) := by decide +kernel
theorem e88_19 : decode (px_cd 88) 19 = .ok (.iload_n 2, 1) := by decide +kernel
theorem e88_20 : decode (px_cd 88) 20 = .ok (.invokevirtual 127, 3) := by decide +kernel
theorem e88_23 : decode (px_cd 88) 23 = .ok (.astore_n 3, 1) := by decide +kernel
theorem e88_24 : decode (px_cd 88) 24 = .ok (.aload_n 3, 1) := by decide +kernel
theorem e88_25 : decode (px_cd 88) 25 = .ok (.ifnonnull 4, 3) := by decide +kernel
theorem e88_28 : decode (px_cd 88) 28 = .ok (.return_, 1) := by decide +kernel
theorem e88_29 : decode (px_cd 88) 29 = .ok (.aload_n 0, 1) := by decide +kernel
theorem e88_30 : decode (px_cd 88) 30 = .ok (.getfield 9, 3) := by decide +kernel
theorem e88_33 : decode (px_cd 88) 33 = .ok (.iload_n 1, 1) := by decide +kernel
theorem e88_34 : decode (px_cd 88) 34 = .ok (.bipush 16, 2) := by decide +kernel
theorem e88_36 : decode (px_cd 88) 36 = .ok (.iadd, 1) := by decide +kernel
theorem e88_37 : decode (px_cd 88) 37 = .ok (.invokevirtual 80, 3) := by decide +kernel
theorem e88_40 : decode (px_cd 88) 40 = .ok (.l2i, 1) := by decide +kernel
theorem e88_41 : decode (px_cd 88) 41 = .ok (.istore 4, 2) := by decide +kernel
theorem e88_43 : decode (px_cd 88) 43 = .ok (.aload_n 3, 1) := by decide +kernel
theorem e88_44 : decode (px_cd 88) 44 = .ok (.aload_n 0, 1) := by decide +kernel
theorem e88_45 : decode (px_cd 88) 45 = .ok (.getfield 9, 3) := by decide +kernel
theorem e88_48 : decode (px_cd 88) 48 = .ok (.iload_n 1, 1) := by decide +kernel
theorem e88_49 : decode (px_cd 88) 49 = .ok (.bipush 8, 2) := by decide +kernel
theorem e88_51 : decode (px_cd 88) 51 = .ok (.iadd, 1) := by decide +kernel
theorem e88_52 : decode (px_cd 88) 52 = .ok (.invokevirtual 80, 3) := by decide +kernel
theorem e88_55 : decode (px_cd 88) 55 = .ok (.l2i, 1) := by decide +kernel
theorem e88_56 : decode (px_cd 88) 56 = .ok (.aload_n 0, 1) := by decide +kernel
theorem e88_57 : decode (px_cd 88) 57 = .ok (.getfield 9, 3) := by decide +kernel
theorem e88_60 : decode (px_cd 88) 60 = .ok (.iload_n 1, 1) := by decide +kernel
theorem e88_61 : decode (px_cd 88) 61 = .ok (.bipush 20, 2) := by decide +kernel
theorem e88_63 : decode (px_cd 88) 63 = .ok (.iadd, 1) := by decide +kernel
theorem e88_64 : decode (px_cd 88) 64 = .ok (.invokevirtual 80, 3) := by decide +kernel
theorem e88_67 : decode (px_cd 88) 67 = .ok (.l2i, 1) := by decide +kernel
theorem e88_68 : decode (px_cd 88) 68 = .ok (.iload 4, 2) := by decide +kernel
theorem e88_70 : decode (px_cd 88) 70 = .ok (.isub, 1) := by decide +kernel
theorem e88_71 : decode (px_cd 88) 71 = .ok (.invokevirtual 167, 3) := by decide +kernel
theorem e88_74 : decode (px_cd 88) 74 = .ok (.aload_n 3, 1) := by decide +kernel
theorem e88_75 : decode (px_cd 88) 75 = .ok (.getfield 171, 3) := by decide +kernel
theorem e88_78 : decode (px_cd 88) 78 = .ok (.aload_n 0, 1) := by decide +kernel
theorem e88_79 : decode (px_cd 88) 79 = .ok (.getfield 9, 3) := by decide +kernel
theorem e88_82 : decode (px_cd 88) 82 = .ok (.aload_n 0, 1) := by decide +kernel
theorem e88_83 : decode (px_cd 88) 83 = .ok (.getfield 9, 3) := by decide +kernel
theorem e88_86 : decode (px_cd 88) 86 = .ok (.iload_n 1, 1) := by decide +kernel
theorem e88_87 : decode (px_cd 88) 87 = .ok (.iconst 4, 1) := by decide +kernel
theorem e88_88 : decode (px_cd 88) 88 = .ok (.iadd, 1) := by decide +kernel
theorem e88_89 : decode (px_cd 88) 89 = .ok (.invokevirtual 80, 3) := by decide +kernel
theorem e88_92 : decode (px_cd 88) 92 = .ok (.l2i, 1) := by decide +kernel
theorem e88_93 : decode (px_cd 88) 93 = .ok (.iload 4, 2) := by decide +kernel
theorem e88_95 : decode (px_cd 88) 95 = .ok (.invokevirtual 174, 3) := by decide +kernel
theorem e88_98 : decode (px_cd 88) 98 = .ok (.aload_n 0, 1) := by decide +kernel
theorem e88_99 : decode (px_cd 88) 99 = .ok (.getfield 18, 3) := by decide +kernel
theorem e88_102 : decode (px_cd 88) 102 = .ok (.aload_n 0, 1) := by decide +kernel
theorem e88_103 : decode (px_cd 88) 103 = .ok (.getfield 18, 3) := by decide +kernel
theorem e88_106 : decode (px_cd 88) 106 = .ok (.getfield 178, 3) := by decide +kernel
theorem e88_109 : decode (px_cd 88) 109 = .ok (.aload_n 0, 1) := by decide +kernel
theorem e88_110 : decode (px_cd 88) 110 = .ok (.getfield 9, 3) := by decide +kernel
theorem e88_113 : decode (px_cd 88) 113 = .ok (.iload_n 1, 1) := by decide +kernel
theorem e88_114 : decode (px_cd 88) 114 = .ok (.bipush 28, 2) := by decide +kernel
theorem e88_116 : decode (px_cd 88) 116 = .ok (.iadd, 1) := by decide +kernel
theorem e88_117 : decode (px_cd 88) 117 = .ok (.invokevirtual 80, 3) := by decide +kernel
theorem e88_120 : decode (px_cd 88) 120 = .ok (.l2i, 1) := by decide +kernel
theorem e88_121 : decode (px_cd 88) 121 = .ok (.invokestatic 181, 3) := by decide +kernel
theorem e88_124 : decode (px_cd 88) 124 = .ok (.putfield 178, 3) := by decide +kernel
theorem e88_127 : decode (px_cd 88) 127 = .ok (.aload_n 0, 1) := by decide +kernel
theorem e88_128 : decode (px_cd 88) 128 = .ok (.getfield 22, 3) := by decide +kernel
theorem e88_131 : decode (px_cd 88) 131 = .ok (.iload_n 2, 1) := by decide +kernel
theorem e88_132 : decode (px_cd 88) 132 = .ok (.iload_n 1, 1) := by decide +kernel
theorem e88_133 : decode (px_cd 88) 133 = .ok (.iastore, 1) := by decide +kernel
theorem e88_134 : decode (px_cd 88) 134 = .ok (.return_, 1) := by decide +kernel
-- 89 Reader_memoryFault
theorem e89_0 : decode (px_cd 89) 0 = .ok (.aload_n 0, 1) := by decide +kernel
theorem e89_1 : decode (px_cd 89) 1 = .ok (.getfield 18, 3) := by decide +kernel
theorem e89_4 : decode (px_cd 89) 4 = .ok (.invokevirtual 183, 3) := by decide +kernel
theorem e89_7 : decode (px_cd 89) 7 = .ok (.ifCond .ne 12, 3) := by decide +kernel
theorem e89_10 : decode (px_cd 89) 10 = .ok (.aload_n 0, 1) := by decide +kernel
theorem e89_11 : decode (px_cd 89) 11 = .ok (.bipush 21, 2) := by decide +kernel
theorem e89_13 : decode (px_cd 89) 13 = .ok (.bipush 44, 2) := by decide +kernel
theorem e89_15 : decode (px_cd 89) 15 = .ok (.invokevirtual 60, 3) := by decide +kernel
theorem e89_18 : decode (px_cd 89) 18 = .ok (.ireturn, 1) := by decide +kernel
theorem e89_19 : decode (px_cd 89) 19 = .ok (.aload_n 0, 1) := by decide +kernel
theorem e89_20 : decode (px_cd 89) 20 = .ok (.getfield 18, 3) := by decide +kernel
theorem e89_23 : decode (px_cd 89) 23 = .ok (.invokevirtual 187, 3) := by decide +kernel
theorem e89_26 : decode (px_cd 89) 26 = .ok (.istore_n 1, 1) := by decide +kernel
theorem e89_27 : decode (px_cd 89) 27 = .ok (.iload_n 1, 1) := by decide +kernel
theorem e89_28 : decode (px_cd 89) 28 = .ok (.iconst (-1), 1) := by decide +kernel
theorem e89_29 : decode (px_cd 89) 29 = .ok (.if_icmp .eq 19, 3) := by decide +kernel
theorem e89_32 : decode (px_cd 89) 32 = .ok (.aload_n 0, 1) := by decide +kernel
theorem e89_33 : decode (px_cd 89) 33 = .ok (.bipush 22, 2) := by decide +kernel
theorem e89_35 : decode (px_cd 89) 35 = .ok (.aload_n 0, 1) := by decide +kernel
theorem e89_36 : decode (px_cd 89) 36 = .ok (.getfield 22, 3) := by decide +kernel
theorem e89_39 : decode (px_cd 89) 39 = .ok (.iload_n 1, 1) := by decide +kernel
theorem e89_40 : decode (px_cd 89) 40 = .ok (.iaload, 1) := by decide +kernel
theorem e89_41 : decode (px_cd 89) 41 = .ok (.bipush 20, 2) := by decide +kernel
theorem e89_43 : decode (px_cd 89) 43 = .ok (.iadd, 1) := by decide +kernel
theorem e89_44 : decode (px_cd 89) 44 = .ok (.invokevirtual 60, 3) := by decide +kernel
theorem e89_47 : decode (px_cd 89) 47 = .ok (.ireturn, 1) := by decide +kernel
theorem e89_48 : decode (px_cd 89) 48 = .ok (.aload_n 0, 1) := by decide +kernel
theorem e89_49 : decode (px_cd 89) 49 = .ok (.getfield 18, 3) := by decide +kernel
theorem e89_52 : decode (px_cd 89) 52 = .ok (.invokevirtual 190, 3) := by decide +kernel
theorem e89_55 : decode (px_cd 89) 55 = .ok (.istore_n 2, 1) := by decide +kernel
theorem e89_56 : decode (px_cd 89) 56 = .ok (.iload_n 2, 1) := by decide +kernel
theorem e89_57 : decode (px_cd 89) 57 = .ok (.iconst (-1), 1) := by decide +kernel
theorem e89_58 : decode (px_cd 89) 58 = .ok (.if_icmp .eq 38, 3) := by decide +kernel
theorem e89_61 : decode (px_cd 89) 61 = .ok (.aload_n 0, 1) := by decide +kernel
theorem e89_62 : decode (px_cd 89) 62 = .ok (.getfield 22, 3) := by decide +kernel
theorem e89_65 : decode (px_cd 89) 65 = .ok (.getstatic 193, 3) := by decide +kernel
theorem e89_68 : decode (px_cd 89) 68 = .ok (.iload_n 2, 1) := by decide +kernel
theorem e89_69 : decode (px_cd 89) 69 = .ok (.iaload, 1) := by decide +kernel
theorem e89_70 : decode (px_cd 89) 70 = .ok (.iaload, 1) := by decide +kernel
theorem e89_71 : decode (px_cd 89) 71 = .ok (.aload_n 0, 1) := by decide +kernel
theorem e89_72 : decode (px_cd 89) 72 = .ok (.getfield 22, 3) := by decide +kernel
theorem e89_75 : decode (px_cd 89) 75 = .ok (.getstatic 196, 3) := by decide +kernel
theorem e89_78 : decode (px_cd 89) 78 = .ok (.iload_n 2, 1) := by decide +kernel
theorem e89_79 : decode (px_cd 89) 79 = .ok (.iaload, 1) := by decide +kernel
theorem e89_80 : decode (px_cd 89) 80 = .ok (.iaload, 1) := by decide +kernel
theorem e89_81 : decode (px_cd 89) 81 = .ok (.invokestatic 181, 3) := by decide +kernel
theorem e89_84 : decode (px_cd 89) 84 = .ok (.istore_n 3, 1) := by decide +kernel
theorem e89_85 : decode (px_cd 89) 85 = .ok (.aload_n 0, 1) := by decide +kernel
theorem e89_86 : decode (px_cd 89) 86 = .ok (.bipush 23, 2) := by decide +kernel
theorem e89_88 : decode (px_cd 89) 88 = .ok (.iload_n 3, 1) := by decide +kernel
theorem e89_89 : decode (px_cd 89) 89 = .ok (.bipush 8, 2) := by decide +kernel
theorem e89_91 : decode (px_cd 89) 91 = .ok (.iadd, 1) := by decide +kernel
theorem e89_92 : decode (px_cd 89) 92 = .ok (.invokevirtual 60, 3) := by decide +kernel
theorem e89_95 : decode (px_cd 89) 95 = .ok (.ireturn, 1) := by decide +kernel
theorem e89_96 : decode (px_cd 89) 96 = .ok (.iconst 0, 1) := by decide +kernel
theorem e89_97 : decode (px_cd 89) 97 = .ok (.ireturn, 1) := by decide +kernel
-- 90 Reader_noteFault
theorem e90_0 : decode (px_cd 90) 0 = .ok (.aload_n 0, 1) := by decide +kernel
theorem e90_1 : decode (px_cd 90) 1 = .ok (.getfield 26, 3) := by decide +kernel
theorem e90_4 : decode (px_cd 90) 4 = .ok (.iconst (-1), 1) := by decide +kernel
theorem e90_5 : decode (px_cd 90) 5 = .ok (.if_icmp .ne 12, 3) := by decide +kernel
theorem e90_8 : decode (px_cd 90) 8 = .ok (.aload_n 0, 1) := by decide +kernel
theorem e90_9 : decode (px_cd 90) 9 = .ok (.bipush 24, 2) := by decide +kernel
theorem e90_11 : decode (px_cd 90) 11 = .ok (.bipush 44, 2) := by decide +kernel
theorem e90_13 : decode (px_cd 90) 13 = .ok (.invokevirtual 60, 3) := by decide +kernel
theorem e90_16 : decode (px_cd 90) 16 = .ok (.ireturn, 1) := by decide +kernel
theorem e90_17 : decode (px_cd 90) 17 = .ok (.aload_n 0, 1) := by decide +kernel
theorem e90_18 : decode (px_cd 90) 18 = .ok (.getfield 164, 3) := by decide +kernel
theorem e90_21 : decode (px_cd 90) 21 = .ok (.bipush 28, 2) := by decide +kernel
theorem e90_23 : decode (px_cd 90) 23 = .ok (.if_icmp .ge 17, 3) := by decide +kernel
theorem e90_26 : decode (px_cd 90) 26 = .ok (.aload_n 0, 1) := by decide +kernel
theorem e90_27 : decode (px_cd 90) 27 = .ok (.bipush 25, 2) := by decide +kernel
theorem e90_29 : decode (px_cd 90) 29 = .ok (.aload_n 0, 1) := by decide +kernel
theorem e90_30 : decode (px_cd 90) 30 = .ok (.getfield 26, 3) := by decide +kernel
theorem e90_33 : decode (px_cd 90) 33 = .ok (.bipush 16, 2) := by decide +kernel
theorem e90_35 : decode (px_cd 90) 35 = .ok (.iadd, 1) := by decide +kernel
theorem e90_36 : decode (px_cd 90) 36 = .ok (.invokevirtual 60, 3) := by decide +kernel
theorem e90_39 : decode (px_cd 90) 39 = .ok (.ireturn, 1) := by decide +kernel
theorem e90_40 : decode (px_cd 90) 40 = .ok (.aload_n 0, 1) := by decide +kernel
theorem e90_41 : decode (px_cd 90) 41 = .ok (.invokevirtual 199, 3) := by decide +kernel
theorem e90_44 : decode (px_cd 90) 44 = .ok (.istore_n 1, 1) := by decide +kernel
theorem e90_45 : decode (px_cd 90) 45 = .ok (.iload_n 1, 1) := by decide +kernel
theorem e90_46 : decode (px_cd 90) 46 = .ok (.iconst (-1), 1) := by decide +kernel
theorem e90_47 : decode (px_cd 90) 47 = .ok (.if_icmp .eq 11, 3) := by decide +kernel
theorem e90_50 : decode (px_cd 90) 50 = .ok (.aload_n 0, 1) := by decide +kernel
theorem e90_51 : decode (px_cd 90) 51 = .ok (.bipush 25, 2) := by decide +kernel
theorem e90_53 : decode (px_cd 90) 53 = .ok (.iload_n 1, 1) := by decide +kernel
theorem e90_54 : decode (px_cd 90) 54 = .ok (.invokevirtual 60, 3) := by decide +kernel
theorem e90_57 : decode (px_cd 90) 57 = .ok (.ireturn, 1) := by decide +kernel
theorem e90_58 : decode (px_cd 90) 58 = .ok (.aload_n 0, 1) := by decide +kernel
theorem e90_59 : decode (px_cd 90) 59 = .ok (.getfield 164, 3) := by decide +kernel
theorem e90_62 : decode (px_cd 90) 62 = .ok (.aload_n 0, 1) := by decide +kernel
theorem e90_63 : decode (px_cd 90) 63 = .ok (.getfield 18, 3) := by decide +kernel
theorem e90_66 : decode (px_cd 90) 66 = .ok (.invokestatic 202, 3) := by decide +kernel
theorem e90_69 : decode (px_cd 90) 69 = .ok (.if_icmp .eq 17, 3) := by decide +kernel
theorem e90_72 : decode (px_cd 90) 72 = .ok (.aload_n 0, 1) := by decide +kernel
theorem e90_73 : decode (px_cd 90) 73 = .ok (.bipush 25, 2) := by decide +kernel
theorem e90_75 : decode (px_cd 90) 75 = .ok (.aload_n 0, 1) := by decide +kernel
theorem e90_76 : decode (px_cd 90) 76 = .ok (.getfield 26, 3) := by decide +kernel
theorem e90_79 : decode (px_cd 90) 79 = .ok (.bipush 16, 2) := by decide +kernel
theorem e90_81 : decode (px_cd 90) 81 = .ok (.iadd, 1) := by decide +kernel
theorem e90_82 : decode (px_cd 90) 82 = .ok (.invokevirtual 60, 3) := by decide +kernel
theorem e90_85 : decode (px_cd 90) 85 = .ok (.ireturn, 1) := by decide +kernel
theorem e90_86 : decode (px_cd 90) 86 = .ok (.aload_n 0, 1) := by decide +kernel
theorem e90_87 : decode (px_cd 90) 87 = .ok (.invokevirtual 207, 3) := by decide +kernel
theorem e90_90 : decode (px_cd 90) 90 = .ok (.ireturn, 1) := by decide +kernel
-- 91 Reader_firstWrongInNote
theorem e91_0 : decode (px_cd 91) 0 = .ok (.aload_n 0, 1) := by decide +kernel
theorem e91_1 : decode (px_cd 91) 1 = .ok (.getfield 9, 3) := by decide +kernel
theorem e91_4 : decode (px_cd 91) 4 = .ok (.aload_n 0, 1) := by decide +kernel
theorem e91_5 : decode (px_cd 91) 5 = .ok (.getfield 161, 3) := by decide +kernel
theorem e91_8 : decode (px_cd 91) 8 = .ok (.invokevirtual 80, 3) := by decide +kernel
theorem e91_11 : decode (px_cd 91) 11 = .ok (.ldc2_w 210, 3) := by decide +kernel
theorem e91_14 : decode (px_cd 91) 14 = .ok (.lcmp, 1) := by decide +kernel
theorem e91_15 : decode (px_cd 91) 15 = .ok (.ifCond .eq 8, 3) := by decide +kernel
theorem e91_18 : decode (px_cd 91) 18 = .ok (.aload_n 0, 1) := by decide +kernel
theorem e91_19 : decode (px_cd 91) 19 = .ok (.getfield 161, 3) := by decide +kernel
theorem e91_22 : decode (px_cd 91) 22 = .ok (.ireturn, 1) := by decide +kernel
theorem e91_23 : decode (px_cd 91) 23 = .ok (.aload_n 0, 1) := by decide +kernel
theorem e91_24 : decode (px_cd 91) 24 = .ok (.getfield 9, 3) := by decide +kernel
theorem e91_27 : decode (px_cd 91) 27 = .ok (.aload_n 0, 1) := by decide +kernel
theorem e91_28 : decode (px_cd 91) 28 = .ok (.getfield 161, 3) := by decide +kernel
theorem e91_31 : decode (px_cd 91) 31 = .ok (.iconst 4, 1) := by decide +kernel
theorem e91_32 : decode (px_cd 91) 32 = .ok (.iadd, 1) := by decide +kernel
theorem e91_33 : decode (px_cd 91) 33 = .ok (.invokevirtual 80, 3) := by decide +kernel
theorem e91_36 : decode (px_cd 91) 36 = .ok (.aload_n 0, 1) := by decide +kernel
theorem e91_37 : decode (px_cd 91) 37 = .ok (.getfield 164, 3) := by decide +kernel
theorem e91_40 : decode (px_cd 91) 40 = .ok (.bipush 20, 2) := by decide +kernel
theorem e91_42 : decode (px_cd 91) 42 = .ok (.isub, 1) := by decide +kernel
theorem e91_43 : decode (px_cd 91) 43 = .ok (.i2l, 1) := by decide +kernel
theorem e91_44 : decode (px_cd 91) 44 = .ok (.lcmp, 1) := by decide +kernel
theorem e91_45 : decode (px_cd 91) 45 = .ok (.ifCond .eq 10, 3) := by decide +kernel
theorem e91_48 : decode (px_cd 91) 48 = .ok (.aload_n 0, 1) := by decide +kernel
theorem e91_49 : decode (px_cd 91) 49 = .ok (.getfield 161, 3) := by decide +kernel
theorem e91_52 : decode (px_cd 91) 52 = .ok (.iconst 4, 1) := by decide +kernel
theorem e91_53 : decode (px_cd 91) 53 = .ok (.iadd, 1) := by decide +kernel
theorem e91_54 : decode (px_cd 91) 54 = .ok (.ireturn, 1) := by decide +kernel
theorem e91_55 : decode (px_cd 91) 55 = .ok (.aload_n 0, 1) := by decide +kernel
theorem e91_56 : decode (px_cd 91) 56 = .ok (.getfield 9, 3) := by decide +kernel
theorem e91_59 : decode (px_cd 91) 59 = .ok (.aload_n 0, 1) := by decide +kernel
theorem e91_60 : decode (px_cd 91) 60 = .ok (.getfield 161, 3) := by decide +kernel
theorem e91_63 : decode (px_cd 91) 63 = .ok (.bipush 8, 2) := by decide +kernel
theorem e91_65 : decode (px_cd 91) 65 = .ok (.iadd, 1) := by decide +kernel
theorem e91_66 : decode (px_cd 91) 66 = .ok (.invokevirtual 80, 3) := by decide +kernel
theorem e91_69 : decode (px_cd 91) 69 = .ok (.lconst 1, 1) := by decide +kernel
theorem e91_70 : decode (px_cd 91) 70 = .ok (.lcmp, 1) := by decide +kernel
theorem e91_71 : decode (px_cd 91) 71 = .ok (.ifCond .eq 11, 3) := by decide +kernel
theorem e91_74 : decode (px_cd 91) 74 = .ok (.aload_n 0, 1) := by decide +kernel
theorem e91_75 : decode (px_cd 91) 75 = .ok (.getfield 161, 3) := by decide +kernel
theorem e91_78 : decode (px_cd 91) 78 = .ok (.bipush 8, 2) := by decide +kernel
theorem e91_80 : decode (px_cd 91) 80 = .ok (.iadd, 1) := by decide +kernel
theorem e91_81 : decode (px_cd 91) 81 = .ok (.ireturn, 1) := by decide +kernel
theorem e91_82 : decode (px_cd 91) 82 = .ok (.iconst 0, 1) := by decide +kernel
theorem e91_83 : decode (px_cd 91) 83 = .ok (.istore_n 1, 1) := by decide +kernel
theorem e91_84 : decode (px_cd 91) 84 = .ok (.iload_n 1, 1) := by decide +kernel
theorem e91_85 : decode (px_cd 91) 85 = .ok (.getstatic 212, 3) := by decide +kernel
theorem e91_88 : decode (px_cd 91) 88 = .ok (.arraylength, 1) := by decide +kernel
theorem e91_89 : decode (px_cd 91) 89 = .ok (.if_icmp .ge 43, 3) := by decide +kernel
theorem e91_92 : decode (px_cd 91) 92 = .ok (.aload_n 0, 1) := by decide +kernel
theorem e91_93 : decode (px_cd 91) 93 = .ok (.getfield 9, 3) := by decide +kernel
theorem e91_96 : decode (px_cd 91) 96 = .ok (.aload_n 0, 1) := by decide +kernel
theorem e91_97 : decode (px_cd 91) 97 = .ok (.getfield 161, 3) := by decide +kernel
theorem e91_100 : decode (px_cd 91) 100 = .ok (.bipush 12, 2) := by decide +kernel
theorem e91_102 : decode (px_cd 91) 102 = .ok (.iadd, 1) := by decide +kernel
theorem e91_103 : decode (px_cd 91) 103 = .ok (.iload_n 1, 1) := by decide +kernel
theorem e91_104 : decode (px_cd 91) 104 = .ok (.iadd, 1) := by decide +kernel
theorem e91_105 : decode (px_cd 91) 105 = .ok (.invokevirtual 67, 3) := by decide +kernel
theorem e91_108 : decode (px_cd 91) 108 = .ok (.getstatic 212, 3) := by decide +kernel
theorem e91_111 : decode (px_cd 91) 111 = .ok (.iload_n 1, 1) := by decide +kernel
theorem e91_112 : decode (px_cd 91) 112 = .ok (.iaload, 1) := by decide +kernel
theorem e91_113 : decode (px_cd 91) 113 = .ok (.if_icmp .eq 13, 3) := by decide +kernel
theorem e91_116 : decode (px_cd 91) 116 = .ok (.aload_n 0, 1) := by decide +kernel
theorem e91_117 : decode (px_cd 91) 117 = .ok (.getfield 161, 3) := by decide +kernel
theorem e91_120 : decode (px_cd 91) 120 = .ok (.bipush 12, 2) := by decide +kernel
theorem e91_122 : decode (px_cd 91) 122 = .ok (.iadd, 1) := by decide +kernel
theorem e91_123 : decode (px_cd 91) 123 = .ok (.iload_n 1, 1) := by decide +kernel
theorem e91_124 : decode (px_cd 91) 124 = .ok (.iadd, 1) := by decide +kernel
theorem e91_125 : decode (px_cd 91) 125 = .ok (.ireturn, 1) := by decide +kernel
theorem e91_126 : decode (px_cd 91) 126 = .ok (.iinc 1 1, 3) := by decide +kernel
theorem e91_129 : decode (px_cd 91) 129 = .ok (.goto (-45), 3) := by decide +kernel
theorem e91_132 : decode (px_cd 91) 132 = .ok (.aload_n 0, 1) := by decide +kernel
theorem e91_133 : decode (px_cd 91) 133 = .ok (.getfield 9, 3) := by decide +kernel
theorem e91_136 : decode (px_cd 91) 136 = .ok (.aload_n 0, 1) := by decide +kernel
theorem e91_137 : decode (px_cd 91) 137 = .ok (.getfield 161, 3) := by decide +kernel
theorem e91_140 : decode (px_cd 91) 140 = .ok (.bipush 20, 2) := by decide +kernel
theorem e91_142 : decode (px_cd 91) 142 = .ok (.iadd, 1) := by decide +kernel
theorem e91_143 : decode (px_cd 91) 143 = .ok (.invokevirtual 80, 3) := by decide +kernel
theorem e91_146 : decode (px_cd 91) 146 = .ok (.aload_n 0, 1) := by decide +kernel
theorem e91_147 : decode (px_cd 91) 147 = .ok (.getfield 18, 3) := by decide +kernel
theorem e91_150 : decode (px_cd 91) 150 = .ok (.getfield 215, 3) := by decide +kernel
theorem e91_153 : decode (px_cd 91) 153 = .ok (.getfield 171, 3) := by decide +kernel
theorem e91_156 : decode (px_cd 91) 156 = .ok (.getfield 55, 3) := by decide +kernel
theorem e91_159 : decode (px_cd 91) 159 = .ok (.iconst 2, 1) := by decide +kernel
theorem e91_160 : decode (px_cd 91) 160 = .ok (.idiv, 1) := by decide +kernel
theorem e91_161 : decode (px_cd 91) 161 = .ok (.i2l, 1) := by decide +kernel
theorem e91_162 : decode (px_cd 91) 162 = .ok (.lcmp, 1) := by decide +kernel
theorem e91_163 : decode (px_cd 91) 163 = .ok (.ifCond .ne 7, 3) := by decide +kernel
theorem e91_166 : decode (px_cd 91) 166 = .ok (.iconst 1, 1) := by decide +kernel
theorem e91_167 : decode (px_cd 91) 167 = .ok (.goto 4, 3) := by decide +kernel
theorem e91_170 : decode (px_cd 91) 170 = .ok (.iconst 0, 1) := by decide +kernel
theorem e91_171 : decode (px_cd 91) 171 = .ok (.istore_n 1, 1) := by decide +kernel
theorem e91_172 : decode (px_cd 91) 172 = .ok (.iload_n 1, 1) := by decide +kernel
theorem e91_173 : decode (px_cd 91) 173 = .ok (.ifCond .eq 7, 3) := by decide +kernel
theorem e91_176 : decode (px_cd 91) 176 = .ok (.iconst (-1), 1) := by decide +kernel
theorem e91_177 : decode (px_cd 91) 177 = .ok (.goto 10, 3) := by decide +kernel
theorem e91_180 : decode (px_cd 91) 180 = .ok (.aload_n 0, 1) := by decide +kernel
theorem e91_181 : decode (px_cd 91) 181 = .ok (.getfield 161, 3) := by decide +kernel
theorem e91_184 : decode (px_cd 91) 184 = .ok (.bipush 20, 2) := by decide +kernel
theorem e91_186 : decode (px_cd 91) 186 = .ok (.iadd, 1) := by decide +kernel
theorem e91_187 : decode (px_cd 91) 187 = .ok (.ireturn, 1) := by decide +kernel
-- 92 Reader_restFault
theorem e92_0 : decode (px_cd 92) 0 = .ok (.aload_n 0, 1) := by decide +kernel
theorem e92_1 : decode (px_cd 92) 1 = .ok (.getfield 161, 3) := by decide +kernel
theorem e92_4 : decode (px_cd 92) 4 = .ok (.aload_n 0, 1) := by decide +kernel
theorem e92_5 : decode (px_cd 92) 5 = .ok (.getfield 164, 3) := by decide +kernel
theorem e92_8 : decode (px_cd 92) 8 = .ok (.iadd, 1) := by decide +kernel
theorem e92_9 : decode (px_cd 92) 9 = .ok (.istore_n 1, 1) := by decide +kernel
theorem e92_10 : decode (px_cd 92) 10 = .ok (.aload_n 0, 1) := by decide +kernel
theorem e92_11 : decode (px_cd 92) 11 = .ok (.getfield 161, 3) := by decide +kernel
theorem e92_14 : decode (px_cd 92) 14 = .ok (.bipush 28, 2) := by decide +kernel
theorem e92_16 : decode (px_cd 92) 16 = .ok (.iadd, 1) := by decide +kernel
theorem e92_17 : decode (px_cd 92) 17 = .ok (.aload_n 0, 1) := by decide +kernel
theorem e92_18 : decode (px_cd 92) 18 = .ok (.getfield 18, 3) := by decide +kernel
theorem e92_21 : decode (px_cd 92) 21 = .ok (.invokevirtual 219, 3) := by decide +kernel
theorem e92_24 : decode (px_cd 92) 24 = .ok (.iadd, 1) := by decide +kernel
theorem e92_25 : decode (px_cd 92) 25 = .ok (.istore_n 2, 1) := by decide +kernel
theorem e92_26 : decode (px_cd 92) 26 = .ok (.aload_n 0, 1) := by decide +kernel
theorem e92_27 : decode (px_cd 92) 27 = .ok (.getfield 18, 3) := by decide +kernel
theorem e92_30 : decode (px_cd 92) 30 = .ok (.getfield 215, 3) := by decide +kernel
theorem e92_33 : decode (px_cd 92) 33 = .ok (.getfield 171, 3) := by decide +kernel
theorem e92_36 : decode (px_cd 92) 36 = .ok (.getfield 55, 3) := by decide +kernel
theorem e92_39 : decode (px_cd 92) 39 = .ok (.iconst 2, 1) := by decide +kernel
theorem e92_40 : decode (px_cd 92) 40 = .ok (.idiv, 1) := by decide +kernel
theorem e92_41 : decode (px_cd 92) 41 = .ok (.iconst 1, 1) := by decide +kernel
theorem e92_42 : decode (px_cd 92) 42 = .ok (.isub, 1) := by decide +kernel
theorem e92_43 : decode (px_cd 92) 43 = .ok (.bipush 7, 2) := by decide +kernel
theorem e92_45 : decode (px_cd 92) 45 = .ok (.iand, 1) := by decide +kernel
theorem e92_46 : decode (px_cd 92) 46 = .ok (.iconst 1, 1) := by decide +kernel
theorem e92_47 : decode (px_cd 92) 47 = .ok (.iadd, 1) := by decide +kernel
theorem e92_48 : decode (px_cd 92) 48 = .ok (.istore_n 3, 1) := by decide +kernel
theorem e92_49 : decode (px_cd 92) 49 = .ok (.aload_n 0, 1) := by decide +kernel
theorem e92_50 : decode (px_cd 92) 50 = .ok (.getfield 9, 3) := by decide +kernel
theorem e92_53 : decode (px_cd 92) 53 = .ok (.iload_n 2, 1) := by decide +kernel
theorem e92_54 : decode (px_cd 92) 54 = .ok (.iconst 1, 1) := by decide +kernel
theorem e92_55 : decode (px_cd 92) 55 = .ok (.isub, 1) := by decide +kernel
theorem e92_56 : decode (px_cd 92) 56 = .ok (.invokevirtual 67, 3) := by decide +kernel
theorem e92_59 : decode (px_cd 92) 59 = .ok (.iload_n 3, 1) := by decide +kernel
theorem e92_60 : decode (px_cd 92) 60 = .ok (.ishr, 1) := by decide +kernel
theorem e92_61 : decode (px_cd 92) 61 = .ok (.ifCond .eq 13, 3) := by decide +kernel
theorem e92_64 : decode (px_cd 92) 64 = .ok (.aload_n 0, 1) := by decide +kernel
theorem e92_65 : decode (px_cd 92) 65 = .ok (.bipush 26, 2) := by decide +kernel
theorem e92_67 : decode (px_cd 92) 67 = .ok (.iload_n 2, 1) := by decide +kernel
theorem e92_68 : decode (px_cd 92) 68 = .ok (.iconst 1, 1) := by decide +kernel
theorem e92_69 : decode (px_cd 92) 69 = .ok (.isub, 1) := by decide +kernel
theorem e92_70 : decode (px_cd 92) 70 = .ok (.invokevirtual 60, 3) := by decide +kernel
theorem e92_73 : decode (px_cd 92) 73 = .ok (.ireturn, 1) := by decide +kernel
theorem e92_74 : decode (px_cd 92) 74 = .ok (.iload_n 2, 1) := by decide +kernel
theorem e92_75 : decode (px_cd 92) 75 = .ok (.istore 4, 2) := by decide +kernel
theorem e92_77 : decode (px_cd 92) 77 = .ok (.iload 4, 2) := by decide +kernel
theorem e92_79 : decode (px_cd 92) 79 = .ok (.iload_n 1, 1) := by decide +kernel
theorem e92_80 : decode (px_cd 92) 80 = .ok (.if_icmp .ge 30, 3) := by decide +kernel
theorem e92_83 : decode (px_cd 92) 83 = .ok (.aload_n 0, 1) := by decide +kernel
theorem e92_84 : decode (px_cd 92) 84 = .ok (.getfield 9, 3) := by decide +kernel
theorem e92_87 : decode (px_cd 92) 87 = .ok (.iload 4, 2) := by decide +kernel
theorem e92_89 : decode (px_cd 92) 89 = .ok (.invokevirtual 67, 3) := by decide +kernel
theorem e92_92 : decode (px_cd 92) 92 = .ok (.ifCond .eq 12, 3) := by decide +kernel
theorem e92_95 : decode (px_cd 92) 95 = .ok (.aload_n 0, 1) := by decide +kernel
theorem e92_96 : decode (px_cd 92) 96 = .ok (.bipush 26, 2) := by decide +kernel
theorem e92_98 : decode (px_cd 92) 98 = .ok (.iload 4, 2) := by decide +kernel
theorem e92_100 : decode (px_cd 92) 100 = .ok (.invokevirtual 60, 3) := by decide +kernel
theorem e92_103 : decode (px_cd 92) 103 = .ok (.ireturn, 1) := by decide +kernel
theorem e92_104 : decode (px_cd 92) 104 = .ok (.iinc 4 1, 3) := by decide +kernel
theorem e92_107 : decode (px_cd 92) 107 = .ok (.goto (-30), 3) := by decide +kernel
theorem e92_110 : decode (px_cd 92) 110 = .ok (.iconst 0, 1) := by decide +kernel
theorem e92_111 : decode (px_cd 92) 111 = .ok (.ireturn, 1) := by decide +kernel
-- 93 Reader_marksFault
theorem e93_0 : decode (px_cd 93) 0 = .ok (.aload_n 0, 1) := by decide +kernel
theorem e93_1 : decode (px_cd 93) 1 = .ok (.getfield 18, 3) := by decide +kernel
theorem e93_4 : decode (px_cd 93) 4 = .ok (.invokevirtual 219, 3) := by decide +kernel
theorem e93_7 : decode (px_cd 93) 7 = .ok (.istore_n 1, 1) := by decide +kernel
theorem e93_8 : decode (px_cd 93) 8 = .ok (.iconst 0, 1) := by decide +kernel
theorem e93_9 : decode (px_cd 93) 9 = .ok (.istore_n 2, 1) := by decide +kernel
theorem e93_10 : decode (px_cd 93) 10 = .ok (.iload_n 2, 1) := by decide +kernel
theorem e93_11 : decode (px_cd 93) 11 = .ok (.iload_n 1, 1) := by decide +kernel
theorem e93_12 : decode (px_cd 93) 12 = .ok (.if_icmp .ge 33, 3) := by decide +kernel
theorem e93_15 : decode (px_cd 93) 15 = .ok (.aload_n 0, 1) := by decide +kernel
theorem e93_16 : decode (px_cd 93) 16 = .ok (.getfield 18, 3) := by decide +kernel
theorem e93_19 : decode (px_cd 93) 19 = .ok (.iload_n 2, 1) := by decide +kernel
theorem e93_20 : decode (px_cd 93) 20 = .ok (.aload_n 0, 1) := by decide +kernel
theorem e93_21 : decode (px_cd 93) 21 = .ok (.getfield 9, 3) := by decide +kernel
theorem e93_24 : decode (px_cd 93) 24 = .ok (.aload_n 0, 1) := by decide +kernel
theorem e93_25 : decode (px_cd 93) 25 = .ok (.getfield 161, 3) := by decide +kernel
theorem e93_28 : decode (px_cd 93) 28 = .ok (.bipush 28, 2) := by decide +kernel
theorem e93_30 : decode (px_cd 93) 30 = .ok (.iadd, 1) := by decide +kernel
theorem e93_31 : decode (px_cd 93) 31 = .ok (.iload_n 2, 1) := by decide +kernel
theorem e93_32 : decode (px_cd 93) 32 = .ok (.iadd, 1) := by decide +kernel
theorem e93_33 : decode (px_cd 93) 33 = .ok (.invokevirtual 67, 3) := by decide +kernel
theorem e93_36 : decode (px_cd 93) 36 = .ok (.invokevirtual 222, 3) := by decide +kernel
theorem e93_39 : decode (px_cd 93) 39 = .ok (.iinc 2 1, 3) := by decide +kernel
theorem e93_42 : decode (px_cd 93) 42 = .ok (.goto (-32), 3) := by decide +kernel
theorem e93_45 : decode (px_cd 93) 45 = .ok (.aload_n 0, 1) := by decide +kernel
theorem e93_46 : decode (px_cd 93) 46 = .ok (.getfield 18, 3) := by decide +kernel
theorem e93_49 : decode (px_cd 93) 49 = .ok (.invokevirtual 225, 3) := by decide +kernel
theorem e93_52 : decode (px_cd 93) 52 = .ok (.istore_n 2, 1) := by decide +kernel
theorem e93_53 : decode (px_cd 93) 53 = .ok (.iload_n 2, 1) := by decide +kernel
theorem e93_54 : decode (px_cd 93) 54 = .ok (.iconst (-1), 1) := by decide +kernel
theorem e93_55 : decode (px_cd 93) 55 = .ok (.if_icmp .eq 21, 3) := by decide +kernel
theorem e93_58 : decode (px_cd 93) 58 = .ok (.aload_n 0, 1) := by decide +kernel
theorem e93_59 : decode (px_cd 93) 59 = .ok (.bipush 27, 2) := by decide +kernel
theorem e93_61 : decode (px_cd 93) 61 = .ok (.aload_n 0, 1) := by decide +kernel
theorem e93_62 : decode (px_cd 93) 62 = .ok (.getfield 161, 3) := by decide +kernel
theorem e93_65 : decode (px_cd 93) 65 = .ok (.bipush 28, 2) := by decide +kernel
theorem e93_67 : decode (px_cd 93) 67 = .ok (.iadd, 1) := by decide +kernel
theorem e93_68 : decode (px_cd 93) 68 = .ok (.iload_n 2, 1) := by decide +kernel
theorem e93_69 : decode (px_cd 93) 69 = .ok (.iconst 4, 1) := by decide +kernel
theorem e93_70 : decode (px_cd 93) 70 = .ok (.ishr, 1) := by decide +kernel
theorem e93_71 : decode (px_cd 93) 71 = .ok (.iadd, 1) := by decide +kernel
theorem e93_72 : decode (px_cd 93) 72 = .ok (.invokevirtual 60, 3) := by decide +kernel
theorem e93_75 : decode (px_cd 93) 75 = .ok (.ireturn, 1) := by decide +kernel
theorem e93_76 : decode (px_cd 93) 76 = .ok (.aload_n 0, 1) := by decide +kernel
theorem e93_77 : decode (px_cd 93) 77 = .ok (.getfield 18, 3) := by decide +kernel
theorem e93_80 : decode (px_cd 93) 80 = .ok (.invokevirtual 228, 3) := by decide +kernel
theorem e93_83 : decode (px_cd 93) 83 = .ok (.ifCond .ne 12, 3) := by decide +kernel
theorem e93_86 : decode (px_cd 93) 86 = .ok (.aload_n 0, 1) := by decide +kernel
theorem e93_87 : decode (px_cd 93) 87 = .ok (.bipush 28, 2) := by decide +kernel
theorem e93_89 : decode (px_cd 93) 89 = .ok (.bipush 24, 2) := by decide +kernel
theorem e93_91 : decode (px_cd 93) 91 = .ok (.invokevirtual 60, 3) := by decide +kernel
theorem e93_94 : decode (px_cd 93) 94 = .ok (.ireturn, 1) := by decide +kernel
theorem e93_95 : decode (px_cd 93) 95 = .ok (.aload_n 0, 1) := by decide +kernel
theorem e93_96 : decode (px_cd 93) 96 = .ok (.getfield 9, 3) := by decide +kernel
theorem e93_99 : decode (px_cd 93) 99 = .ok (.aload_n 0, 1) := by decide +kernel
theorem e93_100 : decode (px_cd 93) 100 = .ok (.getfield 161, 3) := by decide +kernel
theorem e93_103 : decode (px_cd 93) 103 = .ok (.bipush 24, 2) := by decide +kernel
theorem e93_105 : decode (px_cd 93) 105 = .ok (.iadd, 1) := by decide +kernel
theorem e93_106 : decode (px_cd 93) 106 = .ok (.invokevirtual 80, 3) := by decide +kernel
theorem e93_109 : decode (px_cd 93) 109 = .ok (.l2i, 1) := by decide +kernel
theorem e93_110 : decode (px_cd 93) 110 = .ok (.aload_n 0, 1) := by decide +kernel
theorem e93_111 : decode (px_cd 93) 111 = .ok (.getfield 18, 3) := by decide +kernel
theorem e93_114 : decode (px_cd 93) 114 = .ok (.invokevirtual 231, 3) := by decide +kernel
theorem e93_117 : decode (px_cd 93) 117 = .ok (.if_icmp .eq 17, 3) := by decide +kernel
theorem e93_120 : decode (px_cd 93) 120 = .ok (.aload_n 0, 1) := by decide +kernel
theorem e93_121 : decode (px_cd 93) 121 = .ok (.bipush 29, 2) := by decide +kernel
theorem e93_123 : decode (px_cd 93) 123 = .ok (.aload_n 0, 1) := by decide +kernel
theorem e93_124 : decode (px_cd 93) 124 = .ok (.getfield 161, 3) := by decide +kernel
theorem e93_127 : decode (px_cd 93) 127 = .ok (.bipush 24, 2) := by decide +kernel
theorem e93_129 : decode (px_cd 93) 129 = .ok (.iadd, 1) := by decide +kernel
theorem e93_130 : decode (px_cd 93) 130 = .ok (.invokevirtual 60, 3) := by decide +kernel
theorem e93_133 : decode (px_cd 93) 133 = .ok (.ireturn, 1) := by decide +kernel
theorem e93_134 : decode (px_cd 93) 134 = .ok (.aload_n 0, 1) := by decide +kernel
theorem e93_135 : decode (px_cd 93) 135 = .ok (.getfield 9, 3) := by decide +kernel
theorem e93_138 : decode (px_cd 93) 138 = .ok (.bipush 36, 2) := by decide +kernel
theorem e93_140 : decode (px_cd 93) 140 = .ok (.invokevirtual 80, 3) := by decide +kernel
theorem e93_143 : decode (px_cd 93) 143 = .ok (.aload_n 0, 1) := by decide +kernel
theorem e93_144 : decode (px_cd 93) 144 = .ok (.getfield 18, 3) := by decide +kernel
theorem e93_147 : decode (px_cd 93) 147 = .ok (.invokevirtual 234, 3) := by decide +kernel
theorem e93_150 : decode (px_cd 93) 150 = .ok (.i2l, 1) := by decide +kernel
theorem e93_151 : decode (px_cd 93) 151 = .ok (.lcmp, 1) := by decide +kernel
theorem e93_152 : decode (px_cd 93) 152 = .ok (.ifCond .eq 14, 3) := by decide +kernel
theorem e93_155 : decode (px_cd 93) 155 = .ok (.aload_n 0, 1) := by decide +kernel
theorem e93_156 : decode (px_cd 93) 156 = .ok (.bipush 30, 2) := by decide +kernel
theorem e93_158 : decode (px_cd 93) 158 = .ok (.bipush 36, 2) := by decide +kernel
theorem e93_160 : decode (px_cd 93) 160 = .ok (.invokevirtual 60, 3) := by decide +kernel
theorem e93_163 : decode (px_cd 93) 163 = .ok (.goto 4, 3) := by decide +kernel
theorem e93_166 : decode (px_cd 93) 166 = .ok (.iconst 0, 1) := by decide +kernel
theorem e93_167 : decode (px_cd 93) 167 = .ok (.ireturn, 1) := by decide +kernel
