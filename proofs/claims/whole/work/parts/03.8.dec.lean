/-! printed by wip/whole/gen3.py: what stands at each place of a method, and what the tables say there -/
-- 114 ImageFileModel_init
theorem e114_0 : decode (px_cd 114) 0 = .ok (.aload_n 0, 1) := by decide +kernel
theorem e114_1 : decode (px_cd 114) 1 = .ok (.invokespecial 1, 3) := by decide +kernel
theorem e114_4 : decode (px_cd 114) 4 = .ok (.aload_n 0, 1) := by decide +kernel
theorem e114_5 : decode (px_cd 114) 5 = .ok (.bipush 6, 2) := by decide +kernel
theorem e114_7 : decode (px_cd 114) 7 = .ok (.newarray .boolean, 2) := by decide +kernel
theorem e114_9 : decode (px_cd 114) 9 = .ok (.putfield 7, 3) := by decide +kernel
theorem e114_12 : decode (px_cd 114) 12 = .ok (.aload_n 0, 1) := by decide +kernel
theorem e114_13 : decode (px_cd 114) 13 = .ok (.bipush 6, 2) := by decide +kernel
theorem e114_15 : decode (px_cd 114) 15 = .ok (.newarray .int, 2) := by decide +kernel
theorem e114_17 : decode (px_cd 114) 17 = .ok (.putfield 13, 3) := by decide +kernel
theorem e114_20 : decode (px_cd 114) 20 = .ok (.aload_n 0, 1) := by decide +kernel
theorem e114_21 : decode (px_cd 114) 21 = .ok (.bipush 6, 2) := by decide +kernel
theorem e114_23 : decode (px_cd 114) 23 = .ok (.newarray .int, 2) := by decide +kernel
theorem e114_25 : decode (px_cd 114) 25 = .ok (.putfield 17, 3) := by decide +kernel
theorem e114_28 : decode (px_cd 114) 28 = .ok (.aload_n 0, 1) := by decide +kernel
theorem e114_29 : decode (px_cd 114) 29 = .ok (.bipush 6, 2) := by decide +kernel
theorem e114_31 : decode (px_cd 114) 31 = .ok (.newarray .int, 2) := by decide +kernel
theorem e114_33 : decode (px_cd 114) 33 = .ok (.putfield 20, 3) := by decide +kernel
theorem e114_36 : decode (px_cd 114) 36 = .ok (.aload_n 0, 1) := by decide +kernel
theorem e114_37 : decode (px_cd 114) 37 = .ok (.sipush 24576, 3) := by decide +kernel
theorem e114_40 : decode (px_cd 114) 40 = .ok (.newarray .int, 2) := by decide +kernel
theorem e114_42 : decode (px_cd 114) 42 = .ok (.putfield 23, 3) := by decide +kernel
theorem e114_45 : decode (px_cd 114) 45 = .ok (.aload_n 0, 1) := by decide +kernel
theorem e114_46 : decode (px_cd 114) 46 = .ok (.sipush 4096, 3) := by decide +kernel
theorem e114_49 : decode (px_cd 114) 49 = .ok (.newarray .boolean, 2) := by decide +kernel
theorem e114_51 : decode (px_cd 114) 51 = .ok (.putfield 26, 3) := by decide +kernel
theorem e114_54 : decode (px_cd 114) 54 = .ok (.aload_n 0, 1) := by decide +kernel
theorem e114_55 : decode (px_cd 114) 55 = .ok (.iconst 2, 1) := by decide +kernel
theorem e114_56 : decode (px_cd 114) 56 = .ok (.newarray .int, 2) := by decide +kernel
theorem e114_58 : decode (px_cd 114) 58 = .ok (.putfield 29, 3) := by decide +kernel
theorem e114_61 : decode (px_cd 114) 61 = .ok (.aload_n 0, 1) := by decide +kernel
theorem e114_62 : decode (px_cd 114) 62 = .ok (.iconst 2, 1) := by decide +kernel
theorem e114_63 : decode (px_cd 114) 63 = .ok (.newarray .int, 2) := by decide +kernel
theorem e114_65 : decode (px_cd 114) 65 = .ok (.dup, 1) := by decide +kernel
theorem e114_66 : decode (px_cd 114) 66 = .ok (.iconst 0, 1) := by decide +kernel
theorem e114_67 : decode (px_cd 114) 67 = .ok (.iconst 1, 1) := by decide +kernel
theorem e114_68 : decode (px_cd 114) 68 = .ok (.iastore, 1) := by decide +kernel
theorem e114_69 : decode (px_cd 114) 69 = .ok (.dup, 1) := by decide +kernel
theorem e114_70 : decode (px_cd 114) 70 = .ok (.iconst 1, 1) := by decide +kernel
theorem e114_71 : decode (px_cd 114) 71 = .ok (.iconst 1, 1) := by decide +kernel
theorem e114_72 : decode (px_cd 114) 72 = .ok (.iastore, 1) := by decide +kernel
theorem e114_73 : decode (px_cd 114) 73 = .ok (.putfield 32, 3) := by decide +kernel
theorem e114_76 : decode (px_cd 114) 76 = .ok (.aload_n 0, 1) := by decide +kernel
theorem e114_77 : decode (px_cd 114) 77 = .ok (.sipush 16384, 3) := by decide +kernel
theorem e114_80 : decode (px_cd 114) 80 = .ok (.newarray .int, 2) := by decide +kernel
theorem e114_82 : decode (px_cd 114) 82 = .ok (.putfield 35, 3) := by decide +kernel
theorem e114_85 : decode (px_cd 114) 85 = .ok (.aload_n 0, 1) := by decide +kernel
theorem e114_86 : decode (px_cd 114) 86 = .ok (.iconst (-1), 1) := by decide +kernel
theorem e114_87 : decode (px_cd 114) 87 = .ok (.putfield 38, 3) := by decide +kernel
theorem e114_90 : decode (px_cd 114) 90 = .ok (.aload_n 0, 1) := by decide +kernel
theorem e114_91 : decode (px_cd 114) 91 = .ok (.iconst 4, 1) := by decide +kernel
theorem e114_92 : decode (px_cd 114) 92 = .ok (.newarray .int, 2) := by decide +kernel
theorem e114_94 : decode (px_cd 114) 94 = .ok (.putfield 42, 3) := by decide +kernel
theorem e114_97 : decode (px_cd 114) 97 = .ok (.aload_n 0, 1) := by decide +kernel
theorem e114_98 : decode (px_cd 114) 98 = .ok (.iconst 4, 1) := by decide +kernel
theorem e114_99 : decode (px_cd 114) 99 = .ok (.newarray .int, 2) := by decide +kernel
theorem e114_101 : decode (px_cd 114) 101 = .ok (.putfield 45, 3) := by decide +kernel
theorem e114_104 : decode (px_cd 114) 104 = .ok (.return_, 1) := by decide +kernel
-- 115 ImageFileModel_clear
theorem e115_0 : decode (px_cd 115) 0 = .ok (.iconst 0, 1) := by decide +kernel
theorem e115_1 : decode (px_cd 115) 1 = .ok (.istore_n 1, 1) := by decide +kernel
theorem e115_2 : decode (px_cd 115) 2 = .ok (.iload_n 1, 1) := by decide +kernel
theorem e115_3 : decode (px_cd 115) 3 = .ok (.iconst 3, 1) := by decide +kernel
theorem e115_4 : decode (px_cd 115) 4 = .ok (.if_icmp .ge 23, 3) := by decide +kernel
theorem e115_7 : decode (px_cd 115) 7 = .ok (.aload_n 0, 1) := by decide +kernel
theorem e115_8 : decode (px_cd 115) 8 = .ok (.getfield 7, 3) := by decide +kernel
theorem e115_11 : decode (px_cd 115) 11 = .ok (.iload_n 1, 1) := by decide +kernel
theorem e115_12 : decode (px_cd 115) 12 = .ok (.iconst 0, 1) := by decide +kernel
theorem e115_13 : decode (px_cd 115) 13 = .ok (.bastore, 1) := by decide +kernel
theorem e115_14 : decode (px_cd 115) 14 = .ok (.aload_n 0, 1) := by decide +kernel
theorem e115_15 : decode (px_cd 115) 15 = .ok (.getfield 20, 3) := by decide +kernel
theorem e115_18 : decode (px_cd 115) 18 = .ok (.iload_n 1, 1) := by decide +kernel
theorem e115_19 : decode (px_cd 115) 19 = .ok (.iconst 0, 1) := by decide +kernel
theorem e115_20 : decode (px_cd 115) 20 = .ok (.iastore, 1) := by decide +kernel
theorem e115_21 : decode (px_cd 115) 21 = .ok (.iinc 1 1, 3) := by decide +kernel
theorem e115_24 : decode (px_cd 115) 24 = .ok (.goto (-22), 3) := by decide +kernel
theorem e115_27 : decode (px_cd 115) 27 = .ok (.iconst 0, 1) := by decide +kernel
theorem e115_28 : decode (px_cd 115) 28 = .ok (.istore_n 1, 1) := by decide +kernel
theorem e115_29 : decode (px_cd 115) 29 = .ok (.iload_n 1, 1) := by decide +kernel
theorem e115_30 : decode (px_cd 115) 30 = .ok (.sipush 2048, 3) := by decide +kernel
theorem e115_33 : decode (px_cd 115) 33 = .ok (.if_icmp .ge 16, 3) := by decide +kernel
theorem e115_36 : decode (px_cd 115) 36 = .ok (.aload_n 0, 1) := by decide +kernel
theorem e115_37 : decode (px_cd 115) 37 = .ok (.getfield 26, 3) := by decide +kernel
theorem e115_40 : decode (px_cd 115) 40 = .ok (.iload_n 1, 1) := by decide +kernel
theorem e115_41 : decode (px_cd 115) 41 = .ok (.iconst 0, 1) := by decide +kernel
theorem e115_42 : decode (px_cd 115) 42 = .ok (.bastore, 1) := by decide +kernel
theorem e115_43 : decode (px_cd 115) 43 = .ok (.iinc 1 1, 3) := by decide +kernel
theorem e115_46 : decode (px_cd 115) 46 = .ok (.goto (-17), 3) := by decide +kernel
theorem e115_49 : decode (px_cd 115) 49 = .ok (.aload_n 0, 1) := by decide +kernel
theorem e115_50 : decode (px_cd 115) 50 = .ok (.getfield 29, 3) := by decide +kernel
theorem e115_53 : decode (px_cd 115) 53 = .ok (.iconst 0, 1) := by decide +kernel
theorem e115_54 : decode (px_cd 115) 54 = .ok (.iconst 0, 1) := by decide +kernel
theorem e115_55 : decode (px_cd 115) 55 = .ok (.iastore, 1) := by decide +kernel
theorem e115_56 : decode (px_cd 115) 56 = .ok (.aload_n 0, 1) := by decide +kernel
theorem e115_57 : decode (px_cd 115) 57 = .ok (.getfield 32, 3) := by decide +kernel
theorem e115_60 : decode (px_cd 115) 60 = .ok (.iconst 0, 1) := by decide +kernel
theorem e115_61 : decode (px_cd 115) 61 = .ok (.iconst 1, 1) := by decide +kernel
theorem e115_62 : decode (px_cd 115) 62 = .ok (.iastore, 1) := by decide +kernel
theorem e115_63 : decode (px_cd 115) 63 = .ok (.return_, 1) := by decide +kernel
-- 116 ImageFileModel_entry
theorem e116_0 : decode (px_cd 116) 0 = .ok (.aload_n 0, 1) := by decide +kernel
theorem e116_1 : decode (px_cd 116) 1 = .ok (.getfield 29, 3) := by decide +kernel
theorem e116_4 : decode (px_cd 116) 4 = .ok (.iconst 0, 1) := by decide +kernel
theorem e116_5 : decode (px_cd 116) 5 = .ok (.iload_n 1, 1) := by decide +kernel
theorem e116_6 : decode (px_cd 116) 6 = .ok (.iastore, 1) := by decide +kernel
theorem e116_7 : decode (px_cd 116) 7 = .ok (.return_, 1) := by decide +kernel
-- 117 ImageFileModel_page
theorem e117_0 : decode (px_cd 117) 0 = .ok (.iload_n 1, 1) := by decide +kernel
theorem e117_1 : decode (px_cd 117) 1 = .ok (.ifCond .lt 9, 3) := by decide +kernel
theorem e117_4 : decode (px_cd 117) 4 = .ok (.iload_n 1, 1) := by decide +kernel
theorem e117_5 : decode (px_cd 117) 5 = .ok (.bipush 12, 2) := by decide +kernel
theorem e117_7 : decode (px_cd 117) 7 = .ok (.if_icmp .le 5, 3) := by decide +kernel
theorem e117_10 : decode (px_cd 117) 10 = .ok (.iconst 0, 1) := by decide +kernel
theorem e117_11 : decode (px_cd 117) 11 = .ok (.ireturn, 1) := by decide +kernel
theorem e117_12 : decode (px_cd 117) 12 = .ok (.aload_n 0, 1) := by decide +kernel
theorem e117_13 : decode (px_cd 117) 13 = .ok (.getfield 32, 3) := by decide +kernel
theorem e117_16 : decode (px_cd 117) 16 = .ok (.iconst 0, 1) := by decide +kernel
theorem e117_17 : decode (px_cd 117) 17 = .ok (.iconst 1, 1) := by decide +kernel
theorem e117_18 : decode (px_cd 117) 18 = .ok (.iload_n 1, 1) := by decide +kernel
theorem e117_19 : decode (px_cd 117) 19 = .ok (.ishl, 1) := by decide +kernel
theorem e117_20 : decode (px_cd 117) 20 = .ok (.iastore, 1) := by decide +kernel
theorem e117_21 : decode (px_cd 117) 21 = .ok (.iconst 1, 1) := by decide +kernel
theorem e117_22 : decode (px_cd 117) 22 = .ok (.ireturn, 1) := by decide +kernel
-- 118 ImageFileModel_segment
theorem e118_0 : decode (px_cd 118) 0 = .ok (.iload_n 1, 1) := by decide +kernel
theorem e118_1 : decode (px_cd 118) 1 = .ok (.invokestatic 54, 3) := by decide +kernel
theorem e118_4 : decode (px_cd 118) 4 = .ok (.ifCond .eq 32, 3) := by decide +kernel
theorem e118_7 : decode (px_cd 118) 7 = .ok (.iload_n 2, 1) := by decide +kernel
theorem e118_8 : decode (px_cd 118) 8 = .ok (.ifCond .lt 28, 3) := by decide +kernel
theorem e118_11 : decode (px_cd 118) 11 = .ok (.iload_n 2, 1) := by decide +kernel
theorem e118_12 : decode (px_cd 118) 12 = .ok (.ldc 58, 2) := by decide +kernel
theorem e118_14 : decode (px_cd 118) 14 = .ok (.if_icmp .ge 22, 3) := by decide +kernel
theorem e118_17 : decode (px_cd 118) 17 = .ok (.iload_n 3, 1) := by decide +kernel
theorem e118_18 : decode (px_cd 118) 18 = .ok (.ifCond .lt 18, 3) := by decide +kernel
theorem e118_21 : decode (px_cd 118) 21 = .ok (.iload_n 3, 1) := by decide +kernel
theorem e118_22 : decode (px_cd 118) 22 = .ok (.ldc 59, 2) := by decide +kernel
theorem e118_24 : decode (px_cd 118) 24 = .ok (.if_icmp .gt 12, 3) := by decide +kernel
theorem e118_27 : decode (px_cd 118) 27 = .ok (.iload_n 1, 1) := by decide +kernel
theorem e118_28 : decode (px_cd 118) 28 = .ok (.iconst 2, 1) := by decide +kernel
theorem e118_29 : decode (px_cd 118) 29 = .ok (.if_icmp .ge 9, 3) := by decide +kernel
theorem e118_32 : decode (px_cd 118) 32 = .ok (.iload_n 3, 1) := by decide +kernel
theorem e118_33 : decode (px_cd 118) 33 = .ok (.ifCond .le 5, 3) := by decide +kernel
theorem e118_36 : decode (px_cd 118) 36 = .ok (.iconst 0, 1) := by decide +kernel
theorem e118_37 : decode (px_cd 118) 37 = .ok (.ireturn, 1) := by decide +kernel
theorem e118_38 : decode (px_cd 118) 38 = .ok (.aload_n 0, 1) := by decide +kernel
theorem e118_39 : decode (px_cd 118) 39 = .ok (.getfield 7, 3) := by decide +kernel
theorem e118_42 : decode (px_cd 118) 42 = .ok (.iload_n 1, 1) := by decide +kernel
theorem e118_43 : decode (px_cd 118) 43 = .ok (.baload, 1) := by decide +kernel
theorem e118_44 : decode (px_cd 118) 44 = .ok (.ifCond .ne 10, 3) := by decide +kernel
theorem e118_47 : decode (px_cd 118) 47 = .ok (.aload_n 0, 1) := by decide +kernel
theorem e118_48 : decode (px_cd 118) 48 = .ok (.getfield 20, 3) := by decide +kernel
theorem e118_51 : decode (px_cd 118) 51 = .ok (.iload_n 1, 1) := by decide +kernel
theorem e118_52 : decode (px_cd 118) 52 = .ok (.iconst 0, 1) := by decide +kernel
theorem e118_53 : decode (px_cd 118) 53 = .ok (.iastore, 1) := by decide +kernel
theorem e118_54 : decode (px_cd 118) 54 = .ok (.aload_n 0, 1) := by decide +kernel
theorem e118_55 : decode (px_cd 118) 55 = .ok (.getfield 7, 3) := by decide +kernel
theorem e118_58 : decode (px_cd 118) 58 = .ok (.iload_n 1, 1) := by decide +kernel
theorem e118_59 : decode (px_cd 118) 59 = .ok (.iconst 1, 1) := by decide +kernel
theorem e118_60 : decode (px_cd 118) 60 = .ok (.bastore, 1) := by decide +kernel
theorem e118_61 : decode (px_cd 118) 61 = .ok (.aload_n 0, 1) := by decide +kernel
theorem e118_62 : decode (px_cd 118) 62 = .ok (.getfield 13, 3) := by decide +kernel
theorem e118_65 : decode (px_cd 118) 65 = .ok (.iload_n 1, 1) := by decide +kernel
theorem e118_66 : decode (px_cd 118) 66 = .ok (.iload_n 2, 1) := by decide +kernel
theorem e118_67 : decode (px_cd 118) 67 = .ok (.iastore, 1) := by decide +kernel
theorem e118_68 : decode (px_cd 118) 68 = .ok (.aload_n 0, 1) := by decide +kernel
theorem e118_69 : decode (px_cd 118) 69 = .ok (.getfield 17, 3) := by decide +kernel
theorem e118_72 : decode (px_cd 118) 72 = .ok (.iload_n 1, 1) := by decide +kernel
theorem e118_73 : decode (px_cd 118) 73 = .ok (.iload_n 3, 1) := by decide +kernel
theorem e118_74 : decode (px_cd 118) 74 = .ok (.iastore, 1) := by decide +kernel
theorem e118_75 : decode (px_cd 118) 75 = .ok (.iconst 1, 1) := by decide +kernel
theorem e118_76 : decode (px_cd 118) 76 = .ok (.ireturn, 1) := by decide +kernel
-- 119 ImageFileModel_isSegment
theorem e119_0 : decode (px_cd 119) 0 = .ok (.iload_n 0, 1) := by decide +kernel
theorem e119_1 : decode (px_cd 119) 1 = .ok (.ifCond .lt 12, 3) := by decide +kernel
theorem e119_4 : decode (px_cd 119) 4 = .ok (.iload_n 0, 1) := by decide +kernel
theorem e119_5 : decode (px_cd 119) 5 = .ok (.iconst 3, 1) := by decide +kernel
theorem e119_6 : decode (px_cd 119) 6 = .ok (.if_icmp .ge 7, 3) := by decide +kernel
theorem e119_9 : decode (px_cd 119) 9 = .ok (.iconst 1, 1) := by decide +kernel
theorem e119_10 : decode (px_cd 119) 10 = .ok (.goto 4, 3) := by decide +kernel
theorem e119_13 : decode (px_cd 119) 13 = .ok (.iconst 0, 1) := by decide +kernel
theorem e119_14 : decode (px_cd 119) 14 = .ok (.ireturn, 1) := by decide +kernel
-- 120 ImageFileModel_drop
theorem e120_0 : decode (px_cd 120) 0 = .ok (.iload_n 1, 1) := by decide +kernel
theorem e120_1 : decode (px_cd 120) 1 = .ok (.invokestatic 54, 3) := by decide +kernel
theorem e120_4 : decode (px_cd 120) 4 = .ok (.ifCond .eq 12, 3) := by decide +kernel
theorem e120_7 : decode (px_cd 120) 7 = .ok (.aload_n 0, 1) := by decide +kernel
theorem e120_8 : decode (px_cd 120) 8 = .ok (.getfield 7, 3) := by decide +kernel
theorem e120_11 : decode (px_cd 120) 11 = .ok (.iload_n 1, 1) := by decide +kernel
theorem e120_12 : decode (px_cd 120) 12 = .ok (.baload, 1) := by decide +kernel
theorem e120_13 : decode (px_cd 120) 13 = .ok (.ifCond .ne 5, 3) := by decide +kernel
theorem e120_16 : decode (px_cd 120) 16 = .ok (.iconst 0, 1) := by decide +kernel
theorem e120_17 : decode (px_cd 120) 17 = .ok (.ireturn, 1) := by decide +kernel
theorem e120_18 : decode (px_cd 120) 18 = .ok (.aload_n 0, 1) := by decide +kernel
theorem e120_19 : decode (px_cd 120) 19 = .ok (.getfield 7, 3) := by decide +kernel
theorem e120_22 : decode (px_cd 120) 22 = .ok (.iload_n 1, 1) := by decide +kernel
theorem e120_23 : decode (px_cd 120) 23 = .ok (.iconst 0, 1) := by decide +kernel
theorem e120_24 : decode (px_cd 120) 24 = .ok (.bastore, 1) := by decide +kernel
theorem e120_25 : decode (px_cd 120) 25 = .ok (.iconst 1, 1) := by decide +kernel
theorem e120_26 : decode (px_cd 120) 26 = .ok (.ireturn, 1) := by decide +kernel
-- 121 ImageFileModel_put
theorem e121_0 : decode (px_cd 121) 0 = .ok (.iload_n 1, 1) := by decide +kernel
theorem e121_1 : decode (px_cd 121) 1 = .ok (.invokestatic 54, 3) := by decide +kernel
theorem e121_4 : decode (px_cd 121) 4 = .ok (.ifCond .eq 37, 3) := by decide +kernel
theorem e121_7 : decode (px_cd 121) 7 = .ok (.aload_n 0, 1) := by decide +kernel
theorem e121_8 : decode (px_cd 121) 8 = .ok (.getfield 7, 3) := by decide +kernel
theorem e121_11 : decode (px_cd 121) 11 = .ok (.iload_n 1, 1) := by decide +kernel
theorem e121_12 : decode (px_cd 121) 12 = .ok (.baload, 1) := by decide +kernel
theorem e121_13 : decode (px_cd 121) 13 = .ok (.ifCond .eq 28, 3) := by decide +kernel
theorem e121_16 : decode (px_cd 121) 16 = .ok (.iload_n 2, 1) := by decide +kernel
theorem e121_17 : decode (px_cd 121) 17 = .ok (.iconst 1, 1) := by decide +kernel
theorem e121_18 : decode (px_cd 121) 18 = .ok (.if_icmp .lt 23, 3) := by decide +kernel
theorem e121_21 : decode (px_cd 121) 21 = .ok (.iload_n 2, 1) := by decide +kernel
theorem e121_22 : decode (px_cd 121) 22 = .ok (.bipush 8, 2) := by decide +kernel
theorem e121_24 : decode (px_cd 121) 24 = .ok (.if_icmp .gt 17, 3) := by decide +kernel
theorem e121_27 : decode (px_cd 121) 27 = .ok (.aload_n 0, 1) := by decide +kernel
theorem e121_28 : decode (px_cd 121) 28 = .ok (.getfield 20, 3) := by decide +kernel
theorem e121_31 : decode (px_cd 121) 31 = .ok (.iload_n 1, 1) := by decide +kernel
theorem e121_32 : decode (px_cd 121) 32 = .ok (.iaload, 1) := by decide +kernel
theorem e121_33 : decode (px_cd 121) 33 = .ok (.iload_n 2, 1) := by decide +kernel
theorem e121_34 : decode (px_cd 121) 34 = .ok (.iadd, 1) := by decide +kernel
theorem e121_35 : decode (px_cd 121) 35 = .ok (.sipush 4096, 3) := by decide +kernel
theorem e121_38 : decode (px_cd 121) 38 = .ok (.if_icmp .le 5, 3) := by decide +kernel
theorem e121_41 : decode (px_cd 121) 41 = .ok (.iconst 0, 1) := by decide +kernel
theorem e121_42 : decode (px_cd 121) 42 = .ok (.ireturn, 1) := by decide +kernel
theorem e121_43 : decode (px_cd 121) 43 = .ok (.iconst 0, 1) := by decide +kernel
theorem e121_44 : decode (px_cd 121) 44 = .ok (.istore 5, 2) := by decide +kernel
theorem e121_46 : decode (px_cd 121) 46 = .ok (.iload 5, 2) := by decide +kernel
theorem e121_48 : decode (px_cd 121) 48 = .ok (.iload_n 2, 1) := by decide +kernel
theorem e121_49 : decode (px_cd 121) 49 = .ok (.if_icmp .ge 35, 3) := by decide +kernel
theorem e121_52 : decode (px_cd 121) 52 = .ok (.aload_n 0, 1) := by decide +kernel
theorem e121_53 : decode (px_cd 121) 53 = .ok (.getfield 23, 3) := by decide +kernel
theorem e121_56 : decode (px_cd 121) 56 = .ok (.sipush 4096, 3) := by decide +kernel
theorem e121_59 : decode (px_cd 121) 59 = .ok (.iload_n 1, 1) := by decide +kernel
theorem e121_60 : decode (px_cd 121) 60 = .ok (.imul, 1) := by decide +kernel
theorem e121_61 : decode (px_cd 121) 61 = .ok (.aload_n 0, 1) := by decide +kernel
theorem e121_62 : decode (px_cd 121) 62 = .ok (.getfield 20, 3) := by decide +kernel
theorem e121_65 : decode (px_cd 121) 65 = .ok (.iload_n 1, 1) := by decide +kernel
theorem e121_66 : decode (px_cd 121) 66 = .ok (.iaload, 1) := by decide +kernel
theorem e121_67 : decode (px_cd 121) 67 = .ok (.iadd, 1) := by decide +kernel
theorem e121_68 : decode (px_cd 121) 68 = .ok (.iload 5, 2) := by decide +kernel
theorem e121_70 : decode (px_cd 121) 70 = .ok (.iadd, 1) := by decide +kernel
theorem e121_71 : decode (px_cd 121) 71 = .ok (.lload_n 3, 1) := by decide +kernel
theorem e121_72 : decode (px_cd 121) 72 = .ok (.iload 5, 2) := by decide +kernel
theorem e121_74 : decode (px_cd 121) 74 = .ok (.invokestatic 60, 3) := by decide +kernel
theorem e121_77 : decode (px_cd 121) 77 = .ok (.iastore, 1) := by decide +kernel
theorem e121_78 : decode (px_cd 121) 78 = .ok (.iinc 5 1, 3) := by decide +kernel
theorem e121_81 : decode (px_cd 121) 81 = .ok (.goto (-35), 3) := by decide +kernel
theorem e121_84 : decode (px_cd 121) 84 = .ok (.aload_n 0, 1) := by decide +kernel
theorem e121_85 : decode (px_cd 121) 85 = .ok (.getfield 20, 3) := by decide +kernel
theorem e121_88 : decode (px_cd 121) 88 = .ok (.iload_n 1, 1) := by decide +kernel
theorem e121_89 : decode (px_cd 121) 89 = .ok (.dup2, 1) := by decide +kernel
theorem e121_90 : decode (px_cd 121) 90 = .ok (.iaload, 1) := by decide +kernel
theorem e121_91 : decode (px_cd 121) 91 = .ok (.iload_n 2, 1) := by decide +kernel
theorem e121_92 : decode (px_cd 121) 92 = .ok (.iadd, 1) := by decide +kernel
theorem e121_93 : decode (px_cd 121) 93 = .ok (.iastore, 1) := by decide +kernel
theorem e121_94 : decode (px_cd 121) 94 = .ok (.iconst 1, 1) := by decide +kernel
theorem e121_95 : decode (px_cd 121) 95 = .ok (.ireturn, 1) := by decide +kernel
-- 122 ImageFileModel_byteOf
theorem e122_0 : decode (px_cd 122) 0 = .ok (.lload_n 0, 1) := by decide +kernel
theorem e122_1 : decode (px_cd 122) 1 = .ok (.bipush 56, 2) := by decide +kernel
theorem e122_3 : decode (px_cd 122) 3 = .ok (.bipush 8, 2) := by decide +kernel
theorem e122_5 : decode (px_cd 122) 5 = .ok (.iload_n 2, 1) := by decide +kernel
theorem e122_6 : decode (px_cd 122) 6 = .ok (.imul, 1) := by decide +kernel
theorem e122_7 : decode (px_cd 122) 7 = .ok (.isub, 1) := by decide +kernel
theorem e122_8 : decode (px_cd 122) 8 = .ok (.lshr, 1) := by decide +kernel
theorem e122_9 : decode (px_cd 122) 9 = .ok (.ldc2_w 52, 3) := by decide +kernel
theorem e122_12 : decode (px_cd 122) 12 = .ok (.land, 1) := by decide +kernel
theorem e122_13 : decode (px_cd 122) 13 = .ok (.l2i, 1) := by decide +kernel
theorem e122_14 : decode (px_cd 122) 14 = .ok (.ireturn, 1) := by decide +kernel
-- 123 ImageFileModel_mark
theorem e123_0 : decode (px_cd 123) 0 = .ok (.iload_n 1, 1) := by decide +kernel
theorem e123_1 : decode (px_cd 123) 1 = .ok (.ifCond .lt 28, 3) := by decide +kernel
theorem e123_4 : decode (px_cd 123) 4 = .ok (.iload_n 1, 1) := by decide +kernel
theorem e123_5 : decode (px_cd 123) 5 = .ok (.sipush 4094, 3) := by decide +kernel
theorem e123_8 : decode (px_cd 123) 8 = .ok (.if_icmp .gt 21, 3) := by decide +kernel
theorem e123_11 : decode (px_cd 123) 11 = .ok (.iload_n 1, 1) := by decide +kernel
theorem e123_12 : decode (px_cd 123) 12 = .ok (.iconst 2, 1) := by decide +kernel
theorem e123_13 : decode (px_cd 123) 13 = .ok (.irem, 1) := by decide +kernel
theorem e123_14 : decode (px_cd 123) 14 = .ok (.ifCond .ne 15, 3) := by decide +kernel
theorem e123_17 : decode (px_cd 123) 17 = .ok (.aload_n 0, 1) := by decide +kernel
theorem e123_18 : decode (px_cd 123) 18 = .ok (.getfield 26, 3) := by decide +kernel
theorem e123_21 : decode (px_cd 123) 21 = .ok (.iload_n 1, 1) := by decide +kernel
theorem e123_22 : decode (px_cd 123) 22 = .ok (.iconst 2, 1) := by decide +kernel
theorem e123_23 : decode (px_cd 123) 23 = .ok (.idiv, 1) := by decide +kernel
theorem e123_24 : decode (px_cd 123) 24 = .ok (.baload, 1) := by decide +kernel
theorem e123_25 : decode (px_cd 123) 25 = .ok (.iload_n 2, 1) := by decide +kernel
theorem e123_26 : decode (px_cd 123) 26 = .ok (.if_icmp .ne 5, 3) := by decide +kernel
theorem e123_29 : decode (px_cd 123) 29 = .ok (.iconst 0, 1) := by decide +kernel
theorem e123_30 : decode (px_cd 123) 30 = .ok (.ireturn, 1) := by decide +kernel
theorem e123_31 : decode (px_cd 123) 31 = .ok (.aload_n 0, 1) := by decide +kernel
theorem e123_32 : decode (px_cd 123) 32 = .ok (.getfield 26, 3) := by decide +kernel
theorem e123_35 : decode (px_cd 123) 35 = .ok (.iload_n 1, 1) := by decide +kernel
theorem e123_36 : decode (px_cd 123) 36 = .ok (.iconst 2, 1) := by decide +kernel
theorem e123_37 : decode (px_cd 123) 37 = .ok (.idiv, 1) := by decide +kernel
theorem e123_38 : decode (px_cd 123) 38 = .ok (.iload_n 2, 1) := by decide +kernel
theorem e123_39 : decode (px_cd 123) 39 = .ok (.bastore, 1) := by decide +kernel
theorem e123_40 : decode (px_cd 123) 40 = .ok (.iconst 1, 1) := by decide +kernel
theorem e123_41 : decode (px_cd 123) 41 = .ok (.ireturn, 1) := by decide +kernel
-- 124 ImageFileModel_write
theorem e124_0 : decode (px_cd 124) 0 = .ok (.aload_n 0, 1) := by decide +kernel
theorem e124_1 : decode (px_cd 124) 1 = .ok (.iconst 0, 1) := by decide +kernel
theorem e124_2 : decode (px_cd 124) 2 = .ok (.invokevirtual 112, 3) := by decide +kernel
theorem e124_5 : decode (px_cd 124) 5 = .ok (.istore_n 1, 1) := by decide +kernel
theorem e124_6 : decode (px_cd 124) 6 = .ok (.iload_n 1, 1) := by decide +kernel
theorem e124_7 : decode (px_cd 124) 7 = .ok (.ifCond .le 6, 3) := by decide +kernel
theorem e124_10 : decode (px_cd 124) 10 = .ok (.iload_n 1, 1) := by decide +kernel
theorem e124_11 : decode (px_cd 124) 11 = .ok (.ineg, 1) := by decide +kernel
theorem e124_12 : decode (px_cd 124) 12 = .ok (.ireturn, 1) := by decide +kernel
theorem e124_13 : decode (px_cd 124) 13 = .ok (.iconst 1, 1) := by decide +kernel
theorem e124_14 : decode (px_cd 124) 14 = .ok (.istore_n 2, 1) := by decide +kernel
theorem e124_15 : decode (px_cd 124) 15 = .ok (.iconst 0, 1) := by decide +kernel
theorem e124_16 : decode (px_cd 124) 16 = .ok (.istore_n 3, 1) := by decide +kernel
theorem e124_17 : decode (px_cd 124) 17 = .ok (.iload_n 3, 1) := by decide +kernel
theorem e124_18 : decode (px_cd 124) 18 = .ok (.iconst 3, 1) := by decide +kernel
theorem e124_19 : decode (px_cd 124) 19 = .ok (.if_icmp .ge 26, 3) := by decide +kernel
theorem e124_22 : decode (px_cd 124) 22 = .ok (.iload_n 2, 1) := by decide +kernel
theorem e124_23 : decode (px_cd 124) 23 = .ok (.aload_n 0, 1) := by decide +kernel
theorem e124_24 : decode (px_cd 124) 24 = .ok (.getfield 7, 3) := by decide +kernel
theorem e124_27 : decode (px_cd 124) 27 = .ok (.iload_n 3, 1) := by decide +kernel
theorem e124_28 : decode (px_cd 124) 28 = .ok (.baload, 1) := by decide +kernel
theorem e124_29 : decode (px_cd 124) 29 = .ok (.ifCond .eq 7, 3) := by decide +kernel
theorem e124_32 : decode (px_cd 124) 32 = .ok (.iconst 1, 1) := by decide +kernel
theorem e124_33 : decode (px_cd 124) 33 = .ok (.goto 4, 3) := by decide +kernel
theorem e124_36 : decode (px_cd 124) 36 = .ok (.iconst 0, 1) := by decide +kernel
theorem e124_37 : decode (px_cd 124) 37 = .ok (.iadd, 1) := by decide +kernel
theorem e124_38 : decode (px_cd 124) 38 = .ok (.istore_n 2, 1) := by decide +kernel
theorem e124_39 : decode (px_cd 124) 39 = .ok (.iinc 3 1, 3) := by decide +kernel
theorem e124_42 : decode (px_cd 124) 42 = .ok (.goto (-25), 3) := by decide +kernel
theorem e124_45 : decode (px_cd 124) 45 = .ok (.bipush 52, 2) := by decide +kernel
theorem e124_47 : decode (px_cd 124) 47 = .ok (.bipush 32, 2) := by decide +kernel
theorem e124_49 : decode (px_cd 124) 49 = .ok (.iload_n 2, 1) := by decide +kernel
theorem e124_50 : decode (px_cd 124) 50 = .ok (.imul, 1) := by decide +kernel
theorem e124_51 : decode (px_cd 124) 51 = .ok (.iadd, 1) := by decide +kernel
theorem e124_52 : decode (px_cd 124) 52 = .ok (.istore_n 3, 1) := by decide +kernel
theorem e124_53 : decode (px_cd 124) 53 = .ok (.iconst 0, 1) := by decide +kernel
theorem e124_54 : decode (px_cd 124) 54 = .ok (.istore 4, 2) := by decide +kernel
theorem e124_56 : decode (px_cd 124) 56 = .ok (.iload 4, 2) := by decide +kernel
theorem e124_58 : decode (px_cd 124) 58 = .ok (.iconst 3, 1) := by decide +kernel
theorem e124_59 : decode (px_cd 124) 59 = .ok (.if_icmp .ge 71, 3) := by decide +kernel
theorem e124_62 : decode (px_cd 124) 62 = .ok (.aload_n 0, 1) := by decide +kernel
theorem e124_63 : decode (px_cd 124) 63 = .ok (.getfield 7, 3) := by decide +kernel
theorem e124_66 : decode (px_cd 124) 66 = .ok (.iload 4, 2) := by decide +kernel
theorem e124_68 : decode (px_cd 124) 68 = .ok (.baload, 1) := by decide +kernel
theorem e124_69 : decode (px_cd 124) 69 = .ok (.ifCond .ne 6, 3) := by decide +kernel
theorem e124_72 : decode (px_cd 124) 72 = .ok (.goto 52, 3) := by decide +kernel
theorem e124_75 : decode (px_cd 124) 75 = .ok (.iload_n 3, 1) := by decide +kernel
theorem e124_76 : decode (px_cd 124) 76 = .ok (.aload_n 0, 1) := by decide +kernel
theorem e124_77 : decode (px_cd 124) 77 = .ok (.getfield 32, 3) := by decide +kernel
theorem e124_80 : decode (px_cd 124) 80 = .ok (.iconst 0, 1) := by decide +kernel
theorem e124_81 : decode (px_cd 124) 81 = .ok (.iaload, 1) := by decide +kernel
theorem e124_82 : decode (px_cd 124) 82 = .ok (.irem, 1) := by decide +kernel
theorem e124_83 : decode (px_cd 124) 83 = .ok (.aload_n 0, 1) := by decide +kernel
theorem e124_84 : decode (px_cd 124) 84 = .ok (.getfield 13, 3) := by decide +kernel
theorem e124_87 : decode (px_cd 124) 87 = .ok (.iload 4, 2) := by decide +kernel
theorem e124_89 : decode (px_cd 124) 89 = .ok (.iaload, 1) := by decide +kernel
theorem e124_90 : decode (px_cd 124) 90 = .ok (.aload_n 0, 1) := by decide +kernel
theorem e124_91 : decode (px_cd 124) 91 = .ok (.getfield 32, 3) := by decide +kernel
theorem e124_94 : decode (px_cd 124) 94 = .ok (.iconst 0, 1) := by decide +kernel
theorem e124_95 : decode (px_cd 124) 95 = .ok (.iaload, 1) := by decide +kernel
theorem e124_96 : decode (px_cd 124) 96 = .ok (.irem, 1) := by decide +kernel
theorem e124_97 : decode (px_cd 124) 97 = .ok (.if_icmp .eq 9, 3) := by decide +kernel
theorem e124_100 : decode (px_cd 124) 100 = .ok (.iinc 3 1, 3) := by decide +kernel
theorem e124_103 : decode (px_cd 124) 103 = .ok (.goto (-28), 3) := by decide +kernel
theorem e124_106 : decode (px_cd 124) 106 = .ok (.aload_n 0, 1) := by decide +kernel
theorem e124_107 : decode (px_cd 124) 107 = .ok (.getfield 45, 3) := by decide +kernel
theorem e124_110 : decode (px_cd 124) 110 = .ok (.iload 4, 2) := by decide +kernel
theorem e124_112 : decode (px_cd 124) 112 = .ok (.iload_n 3, 1) := by decide +kernel
theorem e124_113 : decode (px_cd 124) 113 = .ok (.iastore, 1) := by decide +kernel
theorem e124_114 : decode (px_cd 124) 114 = .ok (.iload_n 3, 1) := by decide +kernel
theorem e124_115 : decode (px_cd 124) 115 = .ok (.aload_n 0, 1) := by decide +kernel
theorem e124_116 : decode (px_cd 124) 116 = .ok (.getfield 20, 3) := by decide +kernel
theorem e124_119 : decode (px_cd 124) 119 = .ok (.iload 4, 2) := by decide +kernel
theorem e124_121 : decode (px_cd 124) 121 = .ok (.iaload, 1) := by decide +kernel
theorem e124_122 : decode (px_cd 124) 122 = .ok (.iadd, 1) := by decide +kernel
theorem e124_123 : decode (px_cd 124) 123 = .ok (.istore_n 3, 1) := by decide +kernel
theorem e124_124 : decode (px_cd 124) 124 = .ok (.iinc 4 1, 3) := by decide +kernel
theorem e124_127 : decode (px_cd 124) 127 = .ok (.goto (-71), 3) := by decide +kernel
theorem e124_130 : decode (px_cd 124) 130 = .ok (.iload_n 3, 1) := by decide +kernel
theorem e124_131 : decode (px_cd 124) 131 = .ok (.invokestatic 115, 3) := by decide +kernel
theorem e124_134 : decode (px_cd 124) 134 = .ok (.istore_n 3, 1) := by decide +kernel
theorem e124_135 : decode (px_cd 124) 135 = .ok (.aload_n 0, 1) := by decide +kernel
theorem e124_136 : decode (px_cd 124) 136 = .ok (.getfield 45, 3) := by decide +kernel
theorem e124_139 : decode (px_cd 124) 139 = .ok (.iconst 3, 1) := by decide +kernel
theorem e124_140 : decode (px_cd 124) 140 = .ok (.iload_n 3, 1) := by decide +kernel
theorem e124_141 : decode (px_cd 124) 141 = .ok (.iastore, 1) := by decide +kernel
theorem e124_142 : decode (px_cd 124) 142 = .ok (.bipush 28, 2) := by decide +kernel
theorem e124_144 : decode (px_cd 124) 144 = .ok (.aload_n 0, 1) := by decide +kernel
theorem e124_145 : decode (px_cd 124) 145 = .ok (.iconst 0, 1) := by decide +kernel
theorem e124_146 : decode (px_cd 124) 146 = .ok (.invokevirtual 99, 3) := by decide +kernel
theorem e124_149 : decode (px_cd 124) 149 = .ok (.invokestatic 115, 3) := by decide +kernel
theorem e124_152 : decode (px_cd 124) 152 = .ok (.iadd, 1) := by decide +kernel
theorem e124_153 : decode (px_cd 124) 153 = .ok (.istore 4, 2) := by decide +kernel
theorem e124_155 : decode (px_cd 124) 155 = .ok (.iload_n 3, 1) := by decide +kernel
theorem e124_156 : decode (px_cd 124) 156 = .ok (.iload 4, 2) := by decide +kernel
theorem e124_158 : decode (px_cd 124) 158 = .ok (.iadd, 1) := by decide +kernel
theorem e124_159 : decode (px_cd 124) 159 = .ok (.sipush 16384, 3) := by decide +kernel
theorem e124_162 : decode (px_cd 124) 162 = .ok (.if_icmp .le 6, 3) := by decide +kernel
theorem e124_165 : decode (px_cd 124) 165 = .ok (.bipush (-6), 2) := by decide +kernel
theorem e124_167 : decode (px_cd 124) 167 = .ok (.ireturn, 1) := by decide +kernel
theorem e124_168 : decode (px_cd 124) 168 = .ok (.aload_n 0, 1) := by decide +kernel
theorem e124_169 : decode (px_cd 124) 169 = .ok (.iload_n 3, 1) := by decide +kernel
theorem e124_170 : decode (px_cd 124) 170 = .ok (.iload 4, 2) := by decide +kernel
theorem e124_172 : decode (px_cd 124) 172 = .ok (.iadd, 1) := by decide +kernel
theorem e124_173 : decode (px_cd 124) 173 = .ok (.putfield 118, 3) := by decide +kernel
theorem e124_176 : decode (px_cd 124) 176 = .ok (.iconst 0, 1) := by decide +kernel
theorem e124_177 : decode (px_cd 124) 177 = .ok (.istore 5, 2) := by decide +kernel
theorem e124_179 : decode (px_cd 124) 179 = .ok (.iload 5, 2) := by decide +kernel
theorem e124_181 : decode (px_cd 124) 181 = .ok (.aload_n 0, 1) := by decide +kernel
theorem e124_182 : decode (px_cd 124) 182 = .ok (.getfield 118, 3) := by decide +kernel
theorem e124_185 : decode (px_cd 124) 185 = .ok (.if_icmp .ge 17, 3) := by decide +kernel
theorem e124_188 : decode (px_cd 124) 188 = .ok (.aload_n 0, 1) := by decide +kernel
theorem e124_189 : decode (px_cd 124) 189 = .ok (.getfield 35, 3) := by decide +kernel
theorem e124_192 : decode (px_cd 124) 192 = .ok (.iload 5, 2) := by decide +kernel
theorem e124_194 : decode (px_cd 124) 194 = .ok (.iconst 0, 1) := by decide +kernel
theorem e124_195 : decode (px_cd 124) 195 = .ok (.iastore, 1) := by decide +kernel
theorem e124_196 : decode (px_cd 124) 196 = .ok (.iinc 5 1, 3) := by decide +kernel
theorem e124_199 : decode (px_cd 124) 199 = .ok (.goto (-20), 3) := by decide +kernel
theorem e124_202 : decode (px_cd 124) 202 = .ok (.aload_n 0, 1) := by decide +kernel
theorem e124_203 : decode (px_cd 124) 203 = .ok (.iconst 0, 1) := by decide +kernel
theorem e124_204 : decode (px_cd 124) 204 = .ok (.ldc 121, 2) := by decide +kernel
theorem e124_206 : decode (px_cd 124) 206 = .ok (.invokevirtual 109, 3) := by decide +kernel
theorem e124_209 : decode (px_cd 124) 209 = .ok (.aload_n 0, 1) := by decide +kernel
theorem e124_210 : decode (px_cd 124) 210 = .ok (.iconst 4, 1) := by decide +kernel
theorem e124_211 : decode (px_cd 124) 211 = .ok (.ldc 122, 2) := by decide +kernel
theorem e124_213 : decode (px_cd 124) 213 = .ok (.invokevirtual 109, 3) := by decide +kernel
theorem e124_216 : decode (px_cd 124) 216 = .ok (.aload_n 0, 1) := by decide +kernel
theorem e124_217 : decode (px_cd 124) 217 = .ok (.bipush 16, 2) := by decide +kernel
theorem e124_219 : decode (px_cd 124) 219 = .ok (.iconst 2, 1) := by decide +kernel
theorem e124_220 : decode (px_cd 124) 220 = .ok (.invokevirtual 105, 3) := by decide +kernel
theorem e124_223 : decode (px_cd 124) 223 = .ok (.aload_n 0, 1) := by decide +kernel
theorem e124_224 : decode (px_cd 124) 224 = .ok (.bipush 18, 2) := by decide +kernel
theorem e124_226 : decode (px_cd 124) 226 = .ok (.sipush 243, 3) := by decide +kernel
theorem e124_229 : decode (px_cd 124) 229 = .ok (.invokevirtual 105, 3) := by decide +kernel
theorem e124_232 : decode (px_cd 124) 232 = .ok (.aload_n 0, 1) := by decide +kernel
theorem e124_233 : decode (px_cd 124) 233 = .ok (.bipush 20, 2) := by decide +kernel
theorem e124_235 : decode (px_cd 124) 235 = .ok (.iconst 1, 1) := by decide +kernel
theorem e124_236 : decode (px_cd 124) 236 = .ok (.invokevirtual 109, 3) := by decide +kernel
theorem e124_239 : decode (px_cd 124) 239 = .ok (.aload_n 0, 1) := by decide +kernel
theorem e124_240 : decode (px_cd 124) 240 = .ok (.bipush 24, 2) := by decide +kernel
theorem e124_242 : decode (px_cd 124) 242 = .ok (.aload_n 0, 1) := by decide +kernel
theorem e124_243 : decode (px_cd 124) 243 = .ok (.getfield 29, 3) := by decide +kernel
theorem e124_246 : decode (px_cd 124) 246 = .ok (.iconst 0, 1) := by decide +kernel
theorem e124_247 : decode (px_cd 124) 247 = .ok (.iaload, 1) := by decide +kernel
theorem e124_248 : decode (px_cd 124) 248 = .ok (.invokevirtual 109, 3) := by decide +kernel
theorem e124_251 : decode (px_cd 124) 251 = .ok (.aload_n 0, 1) := by decide +kernel
theorem e124_252 : decode (px_cd 124) 252 = .ok (.bipush 28, 2) := by decide +kernel
theorem e124_254 : decode (px_cd 124) 254 = .ok (.bipush 52, 2) := by decide +kernel
theorem e124_256 : decode (px_cd 124) 256 = .ok (.invokevirtual 109, 3) := by decide +kernel
theorem e124_259 : decode (px_cd 124) 259 = .ok (.aload_n 0, 1) := by decide +kernel
theorem e124_260 : decode (px_cd 124) 260 = .ok (.bipush 36, 2) := by decide +kernel
theorem e124_262 : decode (px_cd 124) 262 = .ok (.aload_n 0, 1) := by decide +kernel
theorem e124_263 : decode (px_cd 124) 263 = .ok (.iconst 0, 1) := by decide +kernel
theorem e124_264 : decode (px_cd 124) 264 = .ok (.invokevirtual 123, 3) := by decide +kernel
theorem e124_267 : decode (px_cd 124) 267 = .ok (.ifCond .le 7, 3) := by decide +kernel
theorem e124_270 : decode (px_cd 124) 270 = .ok (.iconst 1, 1) := by decide +kernel
theorem e124_271 : decode (px_cd 124) 271 = .ok (.goto 4, 3) := by decide +kernel
theorem e124_274 : decode (px_cd 124) 274 = .ok (.iconst 0, 1) := by decide +kernel
theorem e124_275 : decode (px_cd 124) 275 = .ok (.invokevirtual 109, 3) := by decide +kernel
theorem e124_278 : decode (px_cd 124) 278 = .ok (.aload_n 0, 1) := by decide +kernel
theorem e124_279 : decode (px_cd 124) 279 = .ok (.bipush 40, 2) := by decide +kernel
theorem e124_281 : decode (px_cd 124) 281 = .ok (.bipush 52, 2) := by decide +kernel
theorem e124_283 : decode (px_cd 124) 283 = .ok (.invokevirtual 105, 3) := by decide +kernel
theorem e124_286 : decode (px_cd 124) 286 = .ok (.aload_n 0, 1) := by decide +kernel
theorem e124_287 : decode (px_cd 124) 287 = .ok (.bipush 42, 2) := by decide +kernel
theorem e124_289 : decode (px_cd 124) 289 = .ok (.bipush 32, 2) := by decide +kernel
theorem e124_291 : decode (px_cd 124) 291 = .ok (.invokevirtual 105, 3) := by decide +kernel
theorem e124_294 : decode (px_cd 124) 294 = .ok (.aload_n 0, 1) := by decide +kernel
theorem e124_295 : decode (px_cd 124) 295 = .ok (.bipush 44, 2) := by decide +kernel
theorem e124_297 : decode (px_cd 124) 297 = .ok (.iload_n 2, 1) := by decide +kernel
theorem e124_298 : decode (px_cd 124) 298 = .ok (.invokevirtual 105, 3) := by decide +kernel
theorem e124_301 : decode (px_cd 124) 301 = .ok (.bipush 52, 2) := by decide +kernel
theorem e124_303 : decode (px_cd 124) 303 = .ok (.istore 5, 2) := by decide +kernel
theorem e124_305 : decode (px_cd 124) 305 = .ok (.iconst 0, 1) := by decide +kernel
theorem e124_306 : decode (px_cd 124) 306 = .ok (.istore 6, 2) := by decide +kernel
theorem e124_308 : decode (px_cd 124) 308 = .ok (.iload 6, 2) := by decide +kernel
theorem e124_310 : decode (px_cd 124) 310 = .ok (.iconst 3, 1) := by decide +kernel
theorem e124_311 : decode (px_cd 124) 311 = .ok (.if_icmp .ge 129, 3) := by decide +kernel
theorem e124_314 : decode (px_cd 124) 314 = .ok (.aload_n 0, 1) := by decide +kernel
theorem e124_315 : decode (px_cd 124) 315 = .ok (.getfield 7, 3) := by decide +kernel
theorem e124_318 : decode (px_cd 124) 318 = .ok (.iload 6, 2) := by decide +kernel
theorem e124_320 : decode (px_cd 124) 320 = .ok (.baload, 1) := by decide +kernel
theorem e124_321 : decode (px_cd 124) 321 = .ok (.ifCond .ne 6, 3) := by decide +kernel
theorem e124_324 : decode (px_cd 124) 324 = .ok (.goto 110, 3) := by decide +kernel
theorem e124_327 : decode (px_cd 124) 327 = .ok (.aload_n 0, 1) := by decide +kernel
theorem e124_328 : decode (px_cd 124) 328 = .ok (.iload 5, 2) := by decide +kernel
theorem e124_330 : decode (px_cd 124) 330 = .ok (.iconst 1, 1) := by decide +kernel
theorem e124_331 : decode (px_cd 124) 331 = .ok (.aload_n 0, 1) := by decide +kernel
theorem e124_332 : decode (px_cd 124) 332 = .ok (.getfield 45, 3) := by decide +kernel
theorem e124_335 : decode (px_cd 124) 335 = .ok (.iload 6, 2) := by decide +kernel
theorem e124_337 : decode (px_cd 124) 337 = .ok (.iaload, 1) := by decide +kernel
theorem e124_338 : decode (px_cd 124) 338 = .ok (.aload_n 0, 1) := by decide +kernel
theorem e124_339 : decode (px_cd 124) 339 = .ok (.getfield 13, 3) := by decide +kernel
theorem e124_342 : decode (px_cd 124) 342 = .ok (.iload 6, 2) := by decide +kernel
theorem e124_344 : decode (px_cd 124) 344 = .ok (.iaload, 1) := by decide +kernel
theorem e124_345 : decode (px_cd 124) 345 = .ok (.aload_n 0, 1) := by decide +kernel
theorem e124_346 : decode (px_cd 124) 346 = .ok (.getfield 20, 3) := by decide +kernel
theorem e124_349 : decode (px_cd 124) 349 = .ok (.iload 6, 2) := by decide +kernel
theorem e124_351 : decode (px_cd 124) 351 = .ok (.iaload, 1) := by decide +kernel
theorem e124_352 : decode (px_cd 124) 352 = .ok (.aload_n 0, 1) := by decide +kernel
theorem e124_353 : decode (px_cd 124) 353 = .ok (.getfield 20, 3) := by decide +kernel
theorem e124_356 : decode (px_cd 124) 356 = .ok (.iload 6, 2) := by decide +kernel
theorem e124_358 : decode (px_cd 124) 358 = .ok (.iaload, 1) := by decide +kernel
theorem e124_359 : decode (px_cd 124) 359 = .ok (.aload_n 0, 1) := by decide +kernel
theorem e124_360 : decode (px_cd 124) 360 = .ok (.getfield 17, 3) := by decide +kernel
theorem e124_363 : decode (px_cd 124) 363 = .ok (.iload 6, 2) := by decide +kernel
theorem e124_365 : decode (px_cd 124) 365 = .ok (.iaload, 1) := by decide +kernel
theorem e124_366 : decode (px_cd 124) 366 = .ok (.iadd, 1) := by decide +kernel
theorem e124_367 : decode (px_cd 124) 367 = .ok (.iload 6, 2) := by decide +kernel
theorem e124_369 : decode (px_cd 124) 369 = .ok (.invokestatic 126, 3) := by decide +kernel
theorem e124_372 : decode (px_cd 124) 372 = .ok (.aload_n 0, 1) := by decide +kernel
theorem e124_373 : decode (px_cd 124) 373 = .ok (.getfield 32, 3) := by decide +kernel
theorem e124_376 : decode (px_cd 124) 376 = .ok (.iconst 0, 1) := by decide +kernel
theorem e124_377 : decode (px_cd 124) 377 = .ok (.iaload, 1) := by decide +kernel
theorem e124_378 : decode (px_cd 124) 378 = .ok (.invokevirtual 129, 3) := by decide +kernel
theorem e124_381 : decode (px_cd 124) 381 = .ok (.iconst 0, 1) := by decide +kernel
theorem e124_382 : decode (px_cd 124) 382 = .ok (.istore 7, 2) := by decide +kernel
theorem e124_384 : decode (px_cd 124) 384 = .ok (.iload 7, 2) := by decide +kernel
theorem e124_386 : decode (px_cd 124) 386 = .ok (.aload_n 0, 1) := by decide +kernel
theorem e124_387 : decode (px_cd 124) 387 = .ok (.getfield 20, 3) := by decide +kernel
theorem e124_390 : decode (px_cd 124) 390 = .ok (.iload 6, 2) := by decide +kernel
theorem e124_392 : decode (px_cd 124) 392 = .ok (.iaload, 1) := by decide +kernel
theorem e124_393 : decode (px_cd 124) 393 = .ok (.if_icmp .ge 38, 3) := by decide +kernel
theorem e124_396 : decode (px_cd 124) 396 = .ok (.aload_n 0, 1) := by decide +kernel
theorem e124_397 : decode (px_cd 124) 397 = .ok (.getfield 35, 3) := by decide +kernel
theorem e124_400 : decode (px_cd 124) 400 = .ok (.aload_n 0, 1) := by decide +kernel
theorem e124_401 : decode (px_cd 124) 401 = .ok (.getfield 45, 3) := by decide +kernel
theorem e124_404 : decode (px_cd 124) 404 = .ok (.iload 6, 2) := by decide +kernel
theorem e124_406 : decode (px_cd 124) 406 = .ok (.iaload, 1) := by decide +kernel
theorem e124_407 : decode (px_cd 124) 407 = .ok (.iload 7, 2) := by decide +kernel
theorem e124_409 : decode (px_cd 124) 409 = .ok (.iadd, 1) := by decide +kernel
theorem e124_410 : decode (px_cd 124) 410 = .ok (.aload_n 0, 1) := by decide +kernel
theorem e124_411 : decode (px_cd 124) 411 = .ok (.getfield 23, 3) := by decide +kernel
theorem e124_414 : decode (px_cd 124) 414 = .ok (.sipush 4096, 3) := by decide +kernel
theorem e124_417 : decode (px_cd 124) 417 = .ok (.iload 6, 2) := by decide +kernel
theorem e124_419 : decode (px_cd 124) 419 = .ok (.imul, 1) := by decide +kernel
theorem e124_420 : decode (px_cd 124) 420 = .ok (.iload 7, 2) := by decide +kernel
theorem e124_422 : decode (px_cd 124) 422 = .ok (.iadd, 1) := by decide +kernel
theorem e124_423 : decode (px_cd 124) 423 = .ok (.iaload, 1) := by decide +kernel
theorem e124_424 : decode (px_cd 124) 424 = .ok (.iastore, 1) := by decide +kernel
theorem e124_425 : decode (px_cd 124) 425 = .ok (.iinc 7 1, 3) := by decide +kernel
theorem e124_428 : decode (px_cd 124) 428 = .ok (.goto (-44), 3) := by decide +kernel
theorem e124_431 : decode (px_cd 124) 431 = .ok (.iinc 5 32, 3) := by decide +kernel
theorem e124_434 : decode (px_cd 124) 434 = .ok (.iinc 6 1, 3) := by decide +kernel
theorem e124_437 : decode (px_cd 124) 437 = .ok (.goto (-129), 3) := by decide +kernel
theorem e124_440 : decode (px_cd 124) 440 = .ok (.aload_n 0, 1) := by decide +kernel
theorem e124_441 : decode (px_cd 124) 441 = .ok (.iload 5, 2) := by decide +kernel
theorem e124_443 : decode (px_cd 124) 443 = .ok (.iconst 4, 1) := by decide +kernel
theorem e124_444 : decode (px_cd 124) 444 = .ok (.iload_n 3, 1) := by decide +kernel
theorem e124_445 : decode (px_cd 124) 445 = .ok (.iconst 0, 1) := by decide +kernel
theorem e124_446 : decode (px_cd 124) 446 = .ok (.iload 4, 2) := by decide +kernel
theorem e124_448 : decode (px_cd 124) 448 = .ok (.iconst 0, 1) := by decide +kernel
theorem e124_449 : decode (px_cd 124) 449 = .ok (.iconst 4, 1) := by decide +kernel
theorem e124_450 : decode (px_cd 124) 450 = .ok (.iconst 4, 1) := by decide +kernel
theorem e124_451 : decode (px_cd 124) 451 = .ok (.invokevirtual 129, 3) := by decide +kernel
theorem e124_454 : decode (px_cd 124) 454 = .ok (.aload_n 0, 1) := by decide +kernel
theorem e124_455 : decode (px_cd 124) 455 = .ok (.iload_n 3, 1) := by decide +kernel
theorem e124_456 : decode (px_cd 124) 456 = .ok (.bipush 6, 2) := by decide +kernel
theorem e124_458 : decode (px_cd 124) 458 = .ok (.invokevirtual 109, 3) := by decide +kernel
theorem e124_461 : decode (px_cd 124) 461 = .ok (.aload_n 0, 1) := by decide +kernel
theorem e124_462 : decode (px_cd 124) 462 = .ok (.iload_n 3, 1) := by decide +kernel
theorem e124_463 : decode (px_cd 124) 463 = .ok (.iconst 4, 1) := by decide +kernel
theorem e124_464 : decode (px_cd 124) 464 = .ok (.iadd, 1) := by decide +kernel
theorem e124_465 : decode (px_cd 124) 465 = .ok (.iload 4, 2) := by decide +kernel
theorem e124_467 : decode (px_cd 124) 467 = .ok (.bipush 20, 2) := by decide +kernel
theorem e124_469 : decode (px_cd 124) 469 = .ok (.isub, 1) := by decide +kernel
theorem e124_470 : decode (px_cd 124) 470 = .ok (.invokevirtual 109, 3) := by decide +kernel
theorem e124_473 : decode (px_cd 124) 473 = .ok (.aload_n 0, 1) := by decide +kernel
theorem e124_474 : decode (px_cd 124) 474 = .ok (.iload_n 3, 1) := by decide +kernel
theorem e124_475 : decode (px_cd 124) 475 = .ok (.bipush 8, 2) := by decide +kernel
theorem e124_477 : decode (px_cd 124) 477 = .ok (.iadd, 1) := by decide +kernel
theorem e124_478 : decode (px_cd 124) 478 = .ok (.iconst 1, 1) := by decide +kernel
theorem e124_479 : decode (px_cd 124) 479 = .ok (.invokevirtual 109, 3) := by decide +kernel
theorem e124_482 : decode (px_cd 124) 482 = .ok (.aload_n 0, 1) := by decide +kernel
theorem e124_483 : decode (px_cd 124) 483 = .ok (.iload_n 3, 1) := by decide +kernel
theorem e124_484 : decode (px_cd 124) 484 = .ok (.bipush 12, 2) := by decide +kernel
theorem e124_486 : decode (px_cd 124) 486 = .ok (.iadd, 1) := by decide +kernel
theorem e124_487 : decode (px_cd 124) 487 = .ok (.ldc 133, 2) := by decide +kernel
theorem e124_489 : decode (px_cd 124) 489 = .ok (.invokevirtual 109, 3) := by decide +kernel
theorem e124_492 : decode (px_cd 124) 492 = .ok (.aload_n 0, 1) := by decide +kernel
theorem e124_493 : decode (px_cd 124) 493 = .ok (.iload_n 3, 1) := by decide +kernel
theorem e124_494 : decode (px_cd 124) 494 = .ok (.bipush 16, 2) := by decide +kernel
theorem e124_496 : decode (px_cd 124) 496 = .ok (.iadd, 1) := by decide +kernel
theorem e124_497 : decode (px_cd 124) 497 = .ok (.bipush 115, 2) := by decide +kernel
theorem e124_499 : decode (px_cd 124) 499 = .ok (.invokevirtual 109, 3) := by decide +kernel
theorem e124_502 : decode (px_cd 124) 502 = .ok (.aload_n 0, 1) := by decide +kernel
theorem e124_503 : decode (px_cd 124) 503 = .ok (.iload_n 3, 1) := by decide +kernel
theorem e124_504 : decode (px_cd 124) 504 = .ok (.bipush 20, 2) := by decide +kernel
theorem e124_506 : decode (px_cd 124) 506 = .ok (.iadd, 1) := by decide +kernel
theorem e124_507 : decode (px_cd 124) 507 = .ok (.aload_n 0, 1) := by decide +kernel
theorem e124_508 : decode (px_cd 124) 508 = .ok (.getfield 20, 3) := by decide +kernel
theorem e124_511 : decode (px_cd 124) 511 = .ok (.iconst 0, 1) := by decide +kernel
theorem e124_512 : decode (px_cd 124) 512 = .ok (.iaload, 1) := by decide +kernel
theorem e124_513 : decode (px_cd 124) 513 = .ok (.iconst 2, 1) := by decide +kernel
theorem e124_514 : decode (px_cd 124) 514 = .ok (.idiv, 1) := by decide +kernel
theorem e124_515 : decode (px_cd 124) 515 = .ok (.invokevirtual 109, 3) := by decide +kernel
theorem e124_518 : decode (px_cd 124) 518 = .ok (.aload_n 0, 1) := by decide +kernel
theorem e124_519 : decode (px_cd 124) 519 = .ok (.iload_n 3, 1) := by decide +kernel
theorem e124_520 : decode (px_cd 124) 520 = .ok (.bipush 24, 2) := by decide +kernel
theorem e124_522 : decode (px_cd 124) 522 = .ok (.iadd, 1) := by decide +kernel
theorem e124_523 : decode (px_cd 124) 523 = .ok (.aload_n 0, 1) := by decide +kernel
theorem e124_524 : decode (px_cd 124) 524 = .ok (.iconst 0, 1) := by decide +kernel
theorem e124_525 : decode (px_cd 124) 525 = .ok (.invokevirtual 134, 3) := by decide +kernel
theorem e124_528 : decode (px_cd 124) 528 = .ok (.invokevirtual 109, 3) := by decide +kernel
theorem e124_531 : decode (px_cd 124) 531 = .ok (.iconst 0, 1) := by decide +kernel
theorem e124_532 : decode (px_cd 124) 532 = .ok (.istore 6, 2) := by decide +kernel
theorem e124_534 : decode (px_cd 124) 534 = .ok (.iload 6, 2) := by decide +kernel
theorem e124_536 : decode (px_cd 124) 536 = .ok (.aload_n 0, 1) := by decide +kernel
theorem e124_537 : decode (px_cd 124) 537 = .ok (.iconst 0, 1) := by decide +kernel
theorem e124_538 : decode (px_cd 124) 538 = .ok (.invokevirtual 99, 3) := by decide +kernel
theorem e124_541 : decode (px_cd 124) 541 = .ok (.if_icmp .ge 28, 3) := by decide +kernel
theorem e124_544 : decode (px_cd 124) 544 = .ok (.aload_n 0, 1) := by decide +kernel
theorem e124_545 : decode (px_cd 124) 545 = .ok (.getfield 35, 3) := by decide +kernel
theorem e124_548 : decode (px_cd 124) 548 = .ok (.iload_n 3, 1) := by decide +kernel
theorem e124_549 : decode (px_cd 124) 549 = .ok (.bipush 28, 2) := by decide +kernel
theorem e124_551 : decode (px_cd 124) 551 = .ok (.iadd, 1) := by decide +kernel
theorem e124_552 : decode (px_cd 124) 552 = .ok (.iload 6, 2) := by decide +kernel
theorem e124_554 : decode (px_cd 124) 554 = .ok (.iadd, 1) := by decide +kernel
theorem e124_555 : decode (px_cd 124) 555 = .ok (.aload_n 0, 1) := by decide +kernel
theorem e124_556 : decode (px_cd 124) 556 = .ok (.iconst 0, 1) := by decide +kernel
theorem e124_557 : decode (px_cd 124) 557 = .ok (.iload 6, 2) := by decide +kernel
theorem e124_559 : decode (px_cd 124) 559 = .ok (.invokevirtual 102, 3) := by decide +kernel
theorem e124_562 : decode (px_cd 124) 562 = .ok (.iastore, 1) := by decide +kernel
theorem e124_563 : decode (px_cd 124) 563 = .ok (.iinc 6 1, 3) := by decide +kernel
theorem e124_566 : decode (px_cd 124) 566 = .ok (.goto (-32), 3) := by decide +kernel
theorem e124_569 : decode (px_cd 124) 569 = .ok (.aload_n 0, 1) := by decide +kernel
theorem e124_570 : decode (px_cd 124) 570 = .ok (.getfield 118, 3) := by decide +kernel
theorem e124_573 : decode (px_cd 124) 573 = .ok (.ireturn, 1) := by decide +kernel
-- 125 ImageFileModel_bad
theorem e125_0 : decode (px_cd 125) 0 = .ok (.iconst 3, 1) := by decide +kernel
theorem e125_1 : decode (px_cd 125) 1 = .ok (.iload_n 1, 1) := by decide +kernel
theorem e125_2 : decode (px_cd 125) 2 = .ok (.imul, 1) := by decide +kernel
theorem e125_3 : decode (px_cd 125) 3 = .ok (.istore_n 2, 1) := by decide +kernel
theorem e125_4 : decode (px_cd 125) 4 = .ok (.aload_n 0, 1) := by decide +kernel
theorem e125_5 : decode (px_cd 125) 5 = .ok (.getfield 7, 3) := by decide +kernel
theorem e125_8 : decode (px_cd 125) 8 = .ok (.iload_n 2, 1) := by decide +kernel
theorem e125_9 : decode (px_cd 125) 9 = .ok (.baload, 1) := by decide +kernel
theorem e125_10 : decode (px_cd 125) 10 = .ok (.ifCond .eq 23, 3) := by decide +kernel
theorem e125_13 : decode (px_cd 125) 13 = .ok (.aload_n 0, 1) := by decide +kernel
theorem e125_14 : decode (px_cd 125) 14 = .ok (.getfield 20, 3) := by decide +kernel
theorem e125_17 : decode (px_cd 125) 17 = .ok (.iload_n 2, 1) := by decide +kernel
theorem e125_18 : decode (px_cd 125) 18 = .ok (.iaload, 1) := by decide +kernel
theorem e125_19 : decode (px_cd 125) 19 = .ok (.ifCond .eq 14, 3) := by decide +kernel
theorem e125_22 : decode (px_cd 125) 22 = .ok (.aload_n 0, 1) := by decide +kernel
theorem e125_23 : decode (px_cd 125) 23 = .ok (.getfield 20, 3) := by decide +kernel
theorem e125_26 : decode (px_cd 125) 26 = .ok (.iload_n 2, 1) := by decide +kernel
theorem e125_27 : decode (px_cd 125) 27 = .ok (.iaload, 1) := by decide +kernel
theorem e125_28 : decode (px_cd 125) 28 = .ok (.iconst 2, 1) := by decide +kernel
theorem e125_29 : decode (px_cd 125) 29 = .ok (.irem, 1) := by decide +kernel
theorem e125_30 : decode (px_cd 125) 30 = .ok (.ifCond .eq 5, 3) := by decide +kernel
theorem e125_33 : decode (px_cd 125) 33 = .ok (.iconst 1, 1) := by decide +kernel
theorem e125_34 : decode (px_cd 125) 34 = .ok (.ireturn, 1) := by decide +kernel
theorem e125_35 : decode (px_cd 125) 35 = .ok (.iload_n 2, 1) := by decide +kernel
theorem e125_36 : decode (px_cd 125) 36 = .ok (.istore_n 3, 1) := by decide +kernel
theorem e125_37 : decode (px_cd 125) 37 = .ok (.iload_n 3, 1) := by decide +kernel
theorem e125_38 : decode (px_cd 125) 38 = .ok (.iload_n 2, 1) := by decide +kernel
theorem e125_39 : decode (px_cd 125) 39 = .ok (.iconst 3, 1) := by decide +kernel
theorem e125_40 : decode (px_cd 125) 40 = .ok (.iadd, 1) := by decide +kernel
theorem e125_41 : decode (px_cd 125) 41 = .ok (.if_icmp .ge 30, 3) := by decide +kernel
theorem e125_44 : decode (px_cd 125) 44 = .ok (.aload_n 0, 1) := by decide +kernel
theorem e125_45 : decode (px_cd 125) 45 = .ok (.getfield 7, 3) := by decide +kernel
theorem e125_48 : decode (px_cd 125) 48 = .ok (.iload_n 3, 1) := by decide +kernel
theorem e125_49 : decode (px_cd 125) 49 = .ok (.baload, 1) := by decide +kernel
theorem e125_50 : decode (px_cd 125) 50 = .ok (.ifCond .eq 15, 3) := by decide +kernel
theorem e125_53 : decode (px_cd 125) 53 = .ok (.aload_n 0, 1) := by decide +kernel
theorem e125_54 : decode (px_cd 125) 54 = .ok (.iload_n 3, 1) := by decide +kernel
theorem e125_55 : decode (px_cd 125) 55 = .ok (.invokevirtual 64, 3) := by decide +kernel
theorem e125_58 : decode (px_cd 125) 58 = .ok (.ldc 58, 2) := by decide +kernel
theorem e125_60 : decode (px_cd 125) 60 = .ok (.if_icmp .le 5, 3) := by decide +kernel
theorem e125_63 : decode (px_cd 125) 63 = .ok (.iconst 2, 1) := by decide +kernel
theorem e125_64 : decode (px_cd 125) 64 = .ok (.ireturn, 1) := by decide +kernel
theorem e125_65 : decode (px_cd 125) 65 = .ok (.iinc 3 1, 3) := by decide +kernel
theorem e125_68 : decode (px_cd 125) 68 = .ok (.goto (-31), 3) := by decide +kernel
theorem e125_71 : decode (px_cd 125) 71 = .ok (.aload_n 0, 1) := by decide +kernel
theorem e125_72 : decode (px_cd 125) 72 = .ok (.iload_n 2, 1) := by decide +kernel
theorem e125_73 : decode (px_cd 125) 73 = .ok (.iload_n 2, 1) := by decide +kernel
theorem e125_74 : decode (px_cd 125) 74 = .ok (.iconst 1, 1) := by decide +kernel
theorem e125_75 : decode (px_cd 125) 75 = .ok (.iadd, 1) := by decide +kernel
theorem e125_76 : decode (px_cd 125) 76 = .ok (.invokevirtual 79, 3) := by decide +kernel
theorem e125_79 : decode (px_cd 125) 79 = .ok (.ifCond .ne 27, 3) := by decide +kernel
theorem e125_82 : decode (px_cd 125) 82 = .ok (.aload_n 0, 1) := by decide +kernel
theorem e125_83 : decode (px_cd 125) 83 = .ok (.iload_n 2, 1) := by decide +kernel
theorem e125_84 : decode (px_cd 125) 84 = .ok (.iload_n 2, 1) := by decide +kernel
theorem e125_85 : decode (px_cd 125) 85 = .ok (.iconst 2, 1) := by decide +kernel
theorem e125_86 : decode (px_cd 125) 86 = .ok (.iadd, 1) := by decide +kernel
theorem e125_87 : decode (px_cd 125) 87 = .ok (.invokevirtual 79, 3) := by decide +kernel
theorem e125_90 : decode (px_cd 125) 90 = .ok (.ifCond .ne 16, 3) := by decide +kernel
theorem e125_93 : decode (px_cd 125) 93 = .ok (.aload_n 0, 1) := by decide +kernel
theorem e125_94 : decode (px_cd 125) 94 = .ok (.iload_n 2, 1) := by decide +kernel
theorem e125_95 : decode (px_cd 125) 95 = .ok (.iconst 1, 1) := by decide +kernel
theorem e125_96 : decode (px_cd 125) 96 = .ok (.iadd, 1) := by decide +kernel
theorem e125_97 : decode (px_cd 125) 97 = .ok (.iload_n 2, 1) := by decide +kernel
theorem e125_98 : decode (px_cd 125) 98 = .ok (.iconst 2, 1) := by decide +kernel
theorem e125_99 : decode (px_cd 125) 99 = .ok (.iadd, 1) := by decide +kernel
theorem e125_100 : decode (px_cd 125) 100 = .ok (.invokevirtual 79, 3) := by decide +kernel
theorem e125_103 : decode (px_cd 125) 103 = .ok (.ifCond .eq 5, 3) := by decide +kernel
theorem e125_106 : decode (px_cd 125) 106 = .ok (.iconst 3, 1) := by decide +kernel
theorem e125_107 : decode (px_cd 125) 107 = .ok (.ireturn, 1) := by decide +kernel
theorem e125_108 : decode (px_cd 125) 108 = .ok (.aload_n 0, 1) := by decide +kernel
theorem e125_109 : decode (px_cd 125) 109 = .ok (.iload_n 1, 1) := by decide +kernel
theorem e125_110 : decode (px_cd 125) 110 = .ok (.invokevirtual 82, 3) := by decide +kernel
theorem e125_113 : decode (px_cd 125) 113 = .ok (.iconst (-1), 1) := by decide +kernel
theorem e125_114 : decode (px_cd 125) 114 = .ok (.if_icmp .eq 5, 3) := by decide +kernel
theorem e125_117 : decode (px_cd 125) 117 = .ok (.iconst 4, 1) := by decide +kernel
theorem e125_118 : decode (px_cd 125) 118 = .ok (.ireturn, 1) := by decide +kernel
theorem e125_119 : decode (px_cd 125) 119 = .ok (.aload_n 0, 1) := by decide +kernel
theorem e125_120 : decode (px_cd 125) 120 = .ok (.iload_n 1, 1) := by decide +kernel
theorem e125_121 : decode (px_cd 125) 121 = .ok (.aload_n 0, 1) := by decide +kernel
theorem e125_122 : decode (px_cd 125) 122 = .ok (.getfield 29, 3) := by decide +kernel
theorem e125_125 : decode (px_cd 125) 125 = .ok (.iload_n 1, 1) := by decide +kernel
theorem e125_126 : decode (px_cd 125) 126 = .ok (.iaload, 1) := by decide +kernel
theorem e125_127 : decode (px_cd 125) 127 = .ok (.invokevirtual 85, 3) := by decide +kernel
theorem e125_130 : decode (px_cd 125) 130 = .ok (.ifCond .eq 7, 3) := by decide +kernel
theorem e125_133 : decode (px_cd 125) 133 = .ok (.iconst 0, 1) := by decide +kernel
theorem e125_134 : decode (px_cd 125) 134 = .ok (.goto 4, 3) := by decide +kernel
theorem e125_137 : decode (px_cd 125) 137 = .ok (.iconst 5, 1) := by decide +kernel
theorem e125_138 : decode (px_cd 125) 138 = .ok (.ireturn, 1) := by decide +kernel
-- 126 ImageFileModel_endOf
theorem e126_0 : decode (px_cd 126) 0 = .ok (.aload_n 0, 1) := by decide +kernel
theorem e126_1 : decode (px_cd 126) 1 = .ok (.getfield 13, 3) := by decide +kernel
theorem e126_4 : decode (px_cd 126) 4 = .ok (.iload_n 1, 1) := by decide +kernel
theorem e126_5 : decode (px_cd 126) 5 = .ok (.iaload, 1) := by decide +kernel
theorem e126_6 : decode (px_cd 126) 6 = .ok (.aload_n 0, 1) := by decide +kernel
theorem e126_7 : decode (px_cd 126) 7 = .ok (.getfield 20, 3) := by decide +kernel
theorem e126_10 : decode (px_cd 126) 10 = .ok (.iload_n 1, 1) := by decide +kernel
theorem e126_11 : decode (px_cd 126) 11 = .ok (.iaload, 1) := by decide +kernel
theorem e126_12 : decode (px_cd 126) 12 = .ok (.iadd, 1) := by decide +kernel
theorem e126_13 : decode (px_cd 126) 13 = .ok (.aload_n 0, 1) := by decide +kernel
theorem e126_14 : decode (px_cd 126) 14 = .ok (.getfield 17, 3) := by decide +kernel
theorem e126_17 : decode (px_cd 126) 17 = .ok (.iload_n 1, 1) := by decide +kernel
theorem e126_18 : decode (px_cd 126) 18 = .ok (.iaload, 1) := by decide +kernel
theorem e126_19 : decode (px_cd 126) 19 = .ok (.iadd, 1) := by decide +kernel
theorem e126_20 : decode (px_cd 126) 20 = .ok (.ireturn, 1) := by decide +kernel
-- 127 ImageFileModel_meets
theorem e127_0 : decode (px_cd 127) 0 = .ok (.aload_n 0, 1) := by decide +kernel
theorem e127_1 : decode (px_cd 127) 1 = .ok (.getfield 7, 3) := by decide +kernel
theorem e127_4 : decode (px_cd 127) 4 = .ok (.iload_n 1, 1) := by decide +kernel
theorem e127_5 : decode (px_cd 127) 5 = .ok (.baload, 1) := by decide +kernel
theorem e127_6 : decode (px_cd 127) 6 = .ok (.ifCond .eq 72, 3) := by decide +kernel
theorem e127_9 : decode (px_cd 127) 9 = .ok (.aload_n 0, 1) := by decide +kernel
theorem e127_10 : decode (px_cd 127) 10 = .ok (.getfield 7, 3) := by decide +kernel
theorem e127_13 : decode (px_cd 127) 13 = .ok (.iload_n 2, 1) := by decide +kernel
theorem e127_14 : decode (px_cd 127) 14 = .ok (.baload, 1) := by decide +kernel
theorem e127_15 : decode (px_cd 127) 15 = .ok (.ifCond .eq 63, 3) := by decide +kernel
theorem e127_18 : decode (px_cd 127) 18 = .ok (.aload_n 0, 1) := by decide +kernel
theorem e127_19 : decode (px_cd 127) 19 = .ok (.getfield 13, 3) := by decide +kernel
theorem e127_22 : decode (px_cd 127) 22 = .ok (.iload_n 1, 1) := by decide +kernel
theorem e127_23 : decode (px_cd 127) 23 = .ok (.iaload, 1) := by decide +kernel
theorem e127_24 : decode (px_cd 127) 24 = .ok (.aload_n 0, 1) := by decide +kernel
theorem e127_25 : decode (px_cd 127) 25 = .ok (.iload_n 2, 1) := by decide +kernel
theorem e127_26 : decode (px_cd 127) 26 = .ok (.invokevirtual 64, 3) := by decide +kernel
theorem e127_29 : decode (px_cd 127) 29 = .ok (.if_icmp .ge 49, 3) := by decide +kernel
theorem e127_32 : decode (px_cd 127) 32 = .ok (.aload_n 0, 1) := by decide +kernel
theorem e127_33 : decode (px_cd 127) 33 = .ok (.getfield 13, 3) := by decide +kernel
theorem e127_36 : decode (px_cd 127) 36 = .ok (.iload_n 2, 1) := by decide +kernel
theorem e127_37 : decode (px_cd 127) 37 = .ok (.iaload, 1) := by decide +kernel
theorem e127_38 : decode (px_cd 127) 38 = .ok (.aload_n 0, 1) := by decide +kernel
theorem e127_39 : decode (px_cd 127) 39 = .ok (.iload_n 1, 1) := by decide +kernel
theorem e127_40 : decode (px_cd 127) 40 = .ok (.invokevirtual 64, 3) := by decide +kernel
theorem e127_43 : decode (px_cd 127) 43 = .ok (.if_icmp .ge 35, 3) := by decide +kernel
theorem e127_46 : decode (px_cd 127) 46 = .ok (.aload_n 0, 1) := by decide +kernel
theorem e127_47 : decode (px_cd 127) 47 = .ok (.iload_n 1, 1) := by decide +kernel
theorem e127_48 : decode (px_cd 127) 48 = .ok (.invokevirtual 64, 3) := by decide +kernel
theorem e127_51 : decode (px_cd 127) 51 = .ok (.aload_n 0, 1) := by decide +kernel
theorem e127_52 : decode (px_cd 127) 52 = .ok (.getfield 13, 3) := by decide +kernel
theorem e127_55 : decode (px_cd 127) 55 = .ok (.iload_n 1, 1) := by decide +kernel
theorem e127_56 : decode (px_cd 127) 56 = .ok (.iaload, 1) := by decide +kernel
theorem e127_57 : decode (px_cd 127) 57 = .ok (.if_icmp .le 21, 3) := by decide +kernel
theorem e127_60 : decode (px_cd 127) 60 = .ok (.aload_n 0, 1) := by decide +kernel
theorem e127_61 : decode (px_cd 127) 61 = .ok (.iload_n 2, 1) := by decide +kernel
theorem e127_62 : decode (px_cd 127) 62 = .ok (.invokevirtual 64, 3) := by decide +kernel
theorem e127_65 : decode (px_cd 127) 65 = .ok (.aload_n 0, 1) := by decide +kernel
theorem e127_66 : decode (px_cd 127) 66 = .ok (.getfield 13, 3) := by decide +kernel
theorem e127_69 : decode (px_cd 127) 69 = .ok (.iload_n 2, 1) := by decide +kernel
theorem e127_70 : decode (px_cd 127) 70 = .ok (.iaload, 1) := by decide +kernel
theorem e127_71 : decode (px_cd 127) 71 = .ok (.if_icmp .le 7, 3) := by decide +kernel
theorem e127_74 : decode (px_cd 127) 74 = .ok (.iconst 1, 1) := by decide +kernel
theorem e127_75 : decode (px_cd 127) 75 = .ok (.goto 4, 3) := by decide +kernel
theorem e127_78 : decode (px_cd 127) 78 = .ok (.iconst 0, 1) := by decide +kernel
theorem e127_79 : decode (px_cd 127) 79 = .ok (.ireturn, 1) := by decide +kernel
-- 128 ImageFileModel_wrongMark
theorem e128_0 : decode (px_cd 128) 0 = .ok (.iconst 0, 1) := by decide +kernel
theorem e128_1 : decode (px_cd 128) 1 = .ok (.istore_n 2, 1) := by decide +kernel
theorem e128_2 : decode (px_cd 128) 2 = .ok (.iload_n 2, 1) := by decide +kernel
theorem e128_3 : decode (px_cd 128) 3 = .ok (.sipush 2048, 3) := by decide +kernel
theorem e128_6 : decode (px_cd 128) 6 = .ok (.if_icmp .ge 35, 3) := by decide +kernel
theorem e128_9 : decode (px_cd 128) 9 = .ok (.aload_n 0, 1) := by decide +kernel
theorem e128_10 : decode (px_cd 128) 10 = .ok (.getfield 26, 3) := by decide +kernel
theorem e128_13 : decode (px_cd 128) 13 = .ok (.sipush 2048, 3) := by decide +kernel
theorem e128_16 : decode (px_cd 128) 16 = .ok (.iload_n 1, 1) := by decide +kernel
theorem e128_17 : decode (px_cd 128) 17 = .ok (.imul, 1) := by decide +kernel
theorem e128_18 : decode (px_cd 128) 18 = .ok (.iload_n 2, 1) := by decide +kernel
theorem e128_19 : decode (px_cd 128) 19 = .ok (.iadd, 1) := by decide +kernel
theorem e128_20 : decode (px_cd 128) 20 = .ok (.baload, 1) := by decide +kernel
theorem e128_21 : decode (px_cd 128) 21 = .ok (.ifCond .eq 14, 3) := by decide +kernel
theorem e128_24 : decode (px_cd 128) 24 = .ok (.aload_n 0, 1) := by decide +kernel
theorem e128_25 : decode (px_cd 128) 25 = .ok (.iload_n 1, 1) := by decide +kernel
theorem e128_26 : decode (px_cd 128) 26 = .ok (.iload_n 2, 1) := by decide +kernel
theorem e128_27 : decode (px_cd 128) 27 = .ok (.invokevirtual 75, 3) := by decide +kernel
theorem e128_30 : decode (px_cd 128) 30 = .ok (.ifCond .ne 5, 3) := by decide +kernel
theorem e128_33 : decode (px_cd 128) 33 = .ok (.iload_n 2, 1) := by decide +kernel
theorem e128_34 : decode (px_cd 128) 34 = .ok (.ireturn, 1) := by decide +kernel
theorem e128_35 : decode (px_cd 128) 35 = .ok (.iinc 2 1, 3) := by decide +kernel
theorem e128_38 : decode (px_cd 128) 38 = .ok (.goto (-36), 3) := by decide +kernel
theorem e128_41 : decode (px_cd 128) 41 = .ok (.iconst (-1), 1) := by decide +kernel
theorem e128_42 : decode (px_cd 128) 42 = .ok (.ireturn, 1) := by decide +kernel
-- 129 ImageFileModel_isRight
theorem e129_0 : decode (px_cd 129) 0 = .ok (.aload_n 0, 1) := by decide +kernel
theorem e129_1 : decode (px_cd 129) 1 = .ok (.getfield 20, 3) := by decide +kernel
theorem e129_4 : decode (px_cd 129) 4 = .ok (.iconst 3, 1) := by decide +kernel
theorem e129_5 : decode (px_cd 129) 5 = .ok (.iload_n 1, 1) := by decide +kernel
theorem e129_6 : decode (px_cd 129) 6 = .ok (.imul, 1) := by decide +kernel
theorem e129_7 : decode (px_cd 129) 7 = .ok (.iaload, 1) := by decide +kernel
theorem e129_8 : decode (px_cd 129) 8 = .ok (.istore_n 3, 1) := by decide +kernel
theorem e129_9 : decode (px_cd 129) 9 = .ok (.iconst 2, 1) := by decide +kernel
theorem e129_10 : decode (px_cd 129) 10 = .ok (.iload_n 2, 1) := by decide +kernel
theorem e129_11 : decode (px_cd 129) 11 = .ok (.imul, 1) := by decide +kernel
theorem e129_12 : decode (px_cd 129) 12 = .ok (.iload_n 3, 1) := by decide +kernel
theorem e129_13 : decode (px_cd 129) 13 = .ok (.if_icmp .lt 5, 3) := by decide +kernel
theorem e129_16 : decode (px_cd 129) 16 = .ok (.iconst 0, 1) := by decide +kernel
theorem e129_17 : decode (px_cd 129) 17 = .ok (.ireturn, 1) := by decide +kernel
theorem e129_18 : decode (px_cd 129) 18 = .ok (.aload_n 0, 1) := by decide +kernel
theorem e129_19 : decode (px_cd 129) 19 = .ok (.iload_n 1, 1) := by decide +kernel
theorem e129_20 : decode (px_cd 129) 20 = .ok (.iload_n 2, 1) := by decide +kernel
theorem e129_21 : decode (px_cd 129) 21 = .ok (.invokevirtual 71, 3) := by decide +kernel
theorem e129_24 : decode (px_cd 129) 24 = .ok (.istore 4, 2) := by decide +kernel
theorem e129_26 : decode (px_cd 129) 26 = .ok (.iconst 2, 1) := by decide +kernel
theorem e129_27 : decode (px_cd 129) 27 = .ok (.iload_n 2, 1) := by decide +kernel
theorem e129_28 : decode (px_cd 129) 28 = .ok (.imul, 1) := by decide +kernel
theorem e129_29 : decode (px_cd 129) 29 = .ok (.iload 4, 2) := by decide +kernel
theorem e129_31 : decode (px_cd 129) 31 = .ok (.iadd, 1) := by decide +kernel
theorem e129_32 : decode (px_cd 129) 32 = .ok (.iload_n 3, 1) := by decide +kernel
theorem e129_33 : decode (px_cd 129) 33 = .ok (.if_icmp .gt 41, 3) := by decide +kernel
theorem e129_36 : decode (px_cd 129) 36 = .ok (.iload 4, 2) := by decide +kernel
theorem e129_38 : decode (px_cd 129) 38 = .ok (.iconst 2, 1) := by decide +kernel
theorem e129_39 : decode (px_cd 129) 39 = .ok (.if_icmp .eq 31, 3) := by decide +kernel
theorem e129_42 : decode (px_cd 129) 42 = .ok (.iconst 2, 1) := by decide +kernel
theorem e129_43 : decode (px_cd 129) 43 = .ok (.iload_n 2, 1) := by decide +kernel
theorem e129_44 : decode (px_cd 129) 44 = .ok (.imul, 1) := by decide +kernel
theorem e129_45 : decode (px_cd 129) 45 = .ok (.iconst 2, 1) := by decide +kernel
theorem e129_46 : decode (px_cd 129) 46 = .ok (.iadd, 1) := by decide +kernel
theorem e129_47 : decode (px_cd 129) 47 = .ok (.sipush 4096, 3) := by decide +kernel
theorem e129_50 : decode (px_cd 129) 50 = .ok (.if_icmp .ge 20, 3) := by decide +kernel
theorem e129_53 : decode (px_cd 129) 53 = .ok (.aload_n 0, 1) := by decide +kernel
theorem e129_54 : decode (px_cd 129) 54 = .ok (.getfield 26, 3) := by decide +kernel
theorem e129_57 : decode (px_cd 129) 57 = .ok (.sipush 2048, 3) := by decide +kernel
theorem e129_60 : decode (px_cd 129) 60 = .ok (.iload_n 1, 1) := by decide +kernel
theorem e129_61 : decode (px_cd 129) 61 = .ok (.imul, 1) := by decide +kernel
theorem e129_62 : decode (px_cd 129) 62 = .ok (.iload_n 2, 1) := by decide +kernel
theorem e129_63 : decode (px_cd 129) 63 = .ok (.iadd, 1) := by decide +kernel
theorem e129_64 : decode (px_cd 129) 64 = .ok (.iconst 1, 1) := by decide +kernel
theorem e129_65 : decode (px_cd 129) 65 = .ok (.iadd, 1) := by decide +kernel
theorem e129_66 : decode (px_cd 129) 66 = .ok (.baload, 1) := by decide +kernel
theorem e129_67 : decode (px_cd 129) 67 = .ok (.ifCond .ne 7, 3) := by decide +kernel
theorem e129_70 : decode (px_cd 129) 70 = .ok (.iconst 1, 1) := by decide +kernel
theorem e129_71 : decode (px_cd 129) 71 = .ok (.goto 4, 3) := by decide +kernel
theorem e129_74 : decode (px_cd 129) 74 = .ok (.iconst 0, 1) := by decide +kernel
theorem e129_75 : decode (px_cd 129) 75 = .ok (.ireturn, 1) := by decide +kernel
-- 130 ImageFileModel_sizeOfMark
theorem e130_0 : decode (px_cd 130) 0 = .ok (.aload_n 0, 1) := by decide +kernel
theorem e130_1 : decode (px_cd 130) 1 = .ok (.getfield 23, 3) := by decide +kernel
theorem e130_4 : decode (px_cd 130) 4 = .ok (.sipush 12288, 3) := by decide +kernel
theorem e130_7 : decode (px_cd 130) 7 = .ok (.iload_n 1, 1) := by decide +kernel
theorem e130_8 : decode (px_cd 130) 8 = .ok (.imul, 1) := by decide +kernel
theorem e130_9 : decode (px_cd 130) 9 = .ok (.iconst 2, 1) := by decide +kernel
theorem e130_10 : decode (px_cd 130) 10 = .ok (.iload_n 2, 1) := by decide +kernel
theorem e130_11 : decode (px_cd 130) 11 = .ok (.imul, 1) := by decide +kernel
theorem e130_12 : decode (px_cd 130) 12 = .ok (.iadd, 1) := by decide +kernel
theorem e130_13 : decode (px_cd 130) 13 = .ok (.iaload, 1) := by decide +kernel
theorem e130_14 : decode (px_cd 130) 14 = .ok (.invokestatic 68, 3) := by decide +kernel
theorem e130_17 : decode (px_cd 130) 17 = .ok (.ifCond .eq 7, 3) := by decide +kernel
theorem e130_20 : decode (px_cd 130) 20 = .ok (.iconst 2, 1) := by decide +kernel
theorem e130_21 : decode (px_cd 130) 21 = .ok (.goto 4, 3) := by decide +kernel
theorem e130_24 : decode (px_cd 130) 24 = .ok (.iconst 4, 1) := by decide +kernel
theorem e130_25 : decode (px_cd 130) 25 = .ok (.ireturn, 1) := by decide +kernel
-- 131 ImageFileModel_isShort
theorem e131_0 : decode (px_cd 131) 0 = .ok (.iload_n 0, 1) := by decide +kernel
theorem e131_1 : decode (px_cd 131) 1 = .ok (.iconst 3, 1) := by decide +kernel
theorem e131_2 : decode (px_cd 131) 2 = .ok (.iand, 1) := by decide +kernel
theorem e131_3 : decode (px_cd 131) 3 = .ok (.iconst 3, 1) := by decide +kernel
theorem e131_4 : decode (px_cd 131) 4 = .ok (.if_icmp .eq 7, 3) := by decide +kernel
theorem e131_7 : decode (px_cd 131) 7 = .ok (.iconst 1, 1) := by decide +kernel
theorem e131_8 : decode (px_cd 131) 8 = .ok (.goto 4, 3) := by decide +kernel
theorem e131_11 : decode (px_cd 131) 11 = .ok (.iconst 0, 1) := by decide +kernel
theorem e131_12 : decode (px_cd 131) 12 = .ok (.ireturn, 1) := by decide +kernel
-- 132 ImageFileModel_isMarkAt
theorem e132_0 : decode (px_cd 132) 0 = .ok (.iload_n 2, 1) := by decide +kernel
theorem e132_1 : decode (px_cd 132) 1 = .ok (.aload_n 0, 1) := by decide +kernel
theorem e132_2 : decode (px_cd 132) 2 = .ok (.getfield 13, 3) := by decide +kernel
theorem e132_5 : decode (px_cd 132) 5 = .ok (.iconst 3, 1) := by decide +kernel
theorem e132_6 : decode (px_cd 132) 6 = .ok (.iload_n 1, 1) := by decide +kernel
theorem e132_7 : decode (px_cd 132) 7 = .ok (.imul, 1) := by decide +kernel
theorem e132_8 : decode (px_cd 132) 8 = .ok (.iaload, 1) := by decide +kernel
theorem e132_9 : decode (px_cd 132) 9 = .ok (.isub, 1) := by decide +kernel
theorem e132_10 : decode (px_cd 132) 10 = .ok (.istore_n 3, 1) := by decide +kernel
theorem e132_11 : decode (px_cd 132) 11 = .ok (.aload_n 0, 1) := by decide +kernel
theorem e132_12 : decode (px_cd 132) 12 = .ok (.getfield 7, 3) := by decide +kernel
theorem e132_15 : decode (px_cd 132) 15 = .ok (.iconst 3, 1) := by decide +kernel
theorem e132_16 : decode (px_cd 132) 16 = .ok (.iload_n 1, 1) := by decide +kernel
theorem e132_17 : decode (px_cd 132) 17 = .ok (.imul, 1) := by decide +kernel
theorem e132_18 : decode (px_cd 132) 18 = .ok (.baload, 1) := by decide +kernel
theorem e132_19 : decode (px_cd 132) 19 = .ok (.ifCond .eq 49, 3) := by decide +kernel
theorem e132_22 : decode (px_cd 132) 22 = .ok (.iload_n 2, 1) := by decide +kernel
theorem e132_23 : decode (px_cd 132) 23 = .ok (.aload_n 0, 1) := by decide +kernel
theorem e132_24 : decode (px_cd 132) 24 = .ok (.getfield 13, 3) := by decide +kernel
theorem e132_27 : decode (px_cd 132) 27 = .ok (.iconst 3, 1) := by decide +kernel
theorem e132_28 : decode (px_cd 132) 28 = .ok (.iload_n 1, 1) := by decide +kernel
theorem e132_29 : decode (px_cd 132) 29 = .ok (.imul, 1) := by decide +kernel
theorem e132_30 : decode (px_cd 132) 30 = .ok (.iaload, 1) := by decide +kernel
theorem e132_31 : decode (px_cd 132) 31 = .ok (.if_icmp .lt 37, 3) := by decide +kernel
theorem e132_34 : decode (px_cd 132) 34 = .ok (.iload_n 3, 1) := by decide +kernel
theorem e132_35 : decode (px_cd 132) 35 = .ok (.sipush 4096, 3) := by decide +kernel
theorem e132_38 : decode (px_cd 132) 38 = .ok (.if_icmp .ge 30, 3) := by decide +kernel
theorem e132_41 : decode (px_cd 132) 41 = .ok (.iload_n 3, 1) := by decide +kernel
theorem e132_42 : decode (px_cd 132) 42 = .ok (.iconst 2, 1) := by decide +kernel
theorem e132_43 : decode (px_cd 132) 43 = .ok (.irem, 1) := by decide +kernel
theorem e132_44 : decode (px_cd 132) 44 = .ok (.ifCond .ne 24, 3) := by decide +kernel
theorem e132_47 : decode (px_cd 132) 47 = .ok (.aload_n 0, 1) := by decide +kernel
theorem e132_48 : decode (px_cd 132) 48 = .ok (.getfield 26, 3) := by decide +kernel
theorem e132_51 : decode (px_cd 132) 51 = .ok (.sipush 2048, 3) := by decide +kernel
theorem e132_54 : decode (px_cd 132) 54 = .ok (.iload_n 1, 1) := by decide +kernel
theorem e132_55 : decode (px_cd 132) 55 = .ok (.imul, 1) := by decide +kernel
theorem e132_56 : decode (px_cd 132) 56 = .ok (.iload_n 3, 1) := by decide +kernel
theorem e132_57 : decode (px_cd 132) 57 = .ok (.iconst 2, 1) := by decide +kernel
theorem e132_58 : decode (px_cd 132) 58 = .ok (.idiv, 1) := by decide +kernel
theorem e132_59 : decode (px_cd 132) 59 = .ok (.iadd, 1) := by decide +kernel
theorem e132_60 : decode (px_cd 132) 60 = .ok (.baload, 1) := by decide +kernel
theorem e132_61 : decode (px_cd 132) 61 = .ok (.ifCond .eq 7, 3) := by decide +kernel
theorem e132_64 : decode (px_cd 132) 64 = .ok (.iconst 1, 1) := by decide +kernel
theorem e132_65 : decode (px_cd 132) 65 = .ok (.goto 4, 3) := by decide +kernel
theorem e132_68 : decode (px_cd 132) 68 = .ok (.iconst 0, 1) := by decide +kernel
theorem e132_69 : decode (px_cd 132) 69 = .ok (.ireturn, 1) := by decide +kernel
-- 133 ImageFileModel_upTo4
theorem e133_0 : decode (px_cd 133) 0 = .ok (.iload_n 0, 1) := by decide +kernel
theorem e133_1 : decode (px_cd 133) 1 = .ok (.iconst 3, 1) := by decide +kernel
theorem e133_2 : decode (px_cd 133) 2 = .ok (.iadd, 1) := by decide +kernel
theorem e133_3 : decode (px_cd 133) 3 = .ok (.iconst 4, 1) := by decide +kernel
theorem e133_4 : decode (px_cd 133) 4 = .ok (.idiv, 1) := by decide +kernel
theorem e133_5 : decode (px_cd 133) 5 = .ok (.iconst 4, 1) := by decide +kernel
theorem e133_6 : decode (px_cd 133) 6 = .ok (.imul, 1) := by decide +kernel
theorem e133_7 : decode (px_cd 133) 7 = .ok (.ireturn, 1) := by decide +kernel
-- 134 ImageFileModel_markBytes
theorem e134_0 : decode (px_cd 134) 0 = .ok (.aload_n 0, 1) := by decide +kernel
theorem e134_1 : decode (px_cd 134) 1 = .ok (.getfield 7, 3) := by decide +kernel
theorem e134_4 : decode (px_cd 134) 4 = .ok (.iconst 3, 1) := by decide +kernel
theorem e134_5 : decode (px_cd 134) 5 = .ok (.iload_n 1, 1) := by decide +kernel
theorem e134_6 : decode (px_cd 134) 6 = .ok (.imul, 1) := by decide +kernel
theorem e134_7 : decode (px_cd 134) 7 = .ok (.baload, 1) := by decide +kernel
theorem e134_8 : decode (px_cd 134) 8 = .ok (.ifCond .eq 20, 3) := by decide +kernel
theorem e134_11 : decode (px_cd 134) 11 = .ok (.aload_n 0, 1) := by decide +kernel
theorem e134_12 : decode (px_cd 134) 12 = .ok (.getfield 20, 3) := by decide +kernel
theorem e134_15 : decode (px_cd 134) 15 = .ok (.iconst 3, 1) := by decide +kernel
theorem e134_16 : decode (px_cd 134) 16 = .ok (.iload_n 1, 1) := by decide +kernel
theorem e134_17 : decode (px_cd 134) 17 = .ok (.imul, 1) := by decide +kernel
theorem e134_18 : decode (px_cd 134) 18 = .ok (.iaload, 1) := by decide +kernel
theorem e134_19 : decode (px_cd 134) 19 = .ok (.bipush 15, 2) := by decide +kernel
theorem e134_21 : decode (px_cd 134) 21 = .ok (.iadd, 1) := by decide +kernel
theorem e134_22 : decode (px_cd 134) 22 = .ok (.bipush 16, 2) := by decide +kernel
theorem e134_24 : decode (px_cd 134) 24 = .ok (.idiv, 1) := by decide +kernel
theorem e134_25 : decode (px_cd 134) 25 = .ok (.goto 4, 3) := by decide +kernel
theorem e134_28 : decode (px_cd 134) 28 = .ok (.iconst 0, 1) := by decide +kernel
theorem e134_29 : decode (px_cd 134) 29 = .ok (.ireturn, 1) := by decide +kernel
-- 135 ImageFileModel_write4
theorem e135_0 : decode (px_cd 135) 0 = .ok (.aload_n 0, 1) := by decide +kernel
theorem e135_1 : decode (px_cd 135) 1 = .ok (.iload_n 1, 1) := by decide +kernel
theorem e135_2 : decode (px_cd 135) 2 = .ok (.iload_n 2, 1) := by decide +kernel
theorem e135_3 : decode (px_cd 135) 3 = .ok (.invokevirtual 105, 3) := by decide +kernel
theorem e135_6 : decode (px_cd 135) 6 = .ok (.aload_n 0, 1) := by decide +kernel
theorem e135_7 : decode (px_cd 135) 7 = .ok (.iload_n 1, 1) := by decide +kernel
theorem e135_8 : decode (px_cd 135) 8 = .ok (.iconst 2, 1) := by decide +kernel
theorem e135_9 : decode (px_cd 135) 9 = .ok (.iadd, 1) := by decide +kernel
theorem e135_10 : decode (px_cd 135) 10 = .ok (.iload_n 2, 1) := by decide +kernel
theorem e135_11 : decode (px_cd 135) 11 = .ok (.bipush 16, 2) := by decide +kernel
theorem e135_13 : decode (px_cd 135) 13 = .ok (.ishr, 1) := by decide +kernel
theorem e135_14 : decode (px_cd 135) 14 = .ok (.invokevirtual 105, 3) := by decide +kernel
theorem e135_17 : decode (px_cd 135) 17 = .ok (.return_, 1) := by decide +kernel
-- 136 ImageFileModel_write2
theorem e136_0 : decode (px_cd 136) 0 = .ok (.aload_n 0, 1) := by decide +kernel
theorem e136_1 : decode (px_cd 136) 1 = .ok (.getfield 35, 3) := by decide +kernel
theorem e136_4 : decode (px_cd 136) 4 = .ok (.iload_n 1, 1) := by decide +kernel
theorem e136_5 : decode (px_cd 136) 5 = .ok (.iload_n 2, 1) := by decide +kernel
theorem e136_6 : decode (px_cd 136) 6 = .ok (.sipush 255, 3) := by decide +kernel
theorem e136_9 : decode (px_cd 136) 9 = .ok (.iand, 1) := by decide +kernel
theorem e136_10 : decode (px_cd 136) 10 = .ok (.iastore, 1) := by decide +kernel
theorem e136_11 : decode (px_cd 136) 11 = .ok (.aload_n 0, 1) := by decide +kernel
theorem e136_12 : decode (px_cd 136) 12 = .ok (.getfield 35, 3) := by decide +kernel
theorem e136_15 : decode (px_cd 136) 15 = .ok (.iload_n 1, 1) := by decide +kernel
theorem e136_16 : decode (px_cd 136) 16 = .ok (.iconst 1, 1) := by decide +kernel
theorem e136_17 : decode (px_cd 136) 17 = .ok (.iadd, 1) := by decide +kernel
theorem e136_18 : decode (px_cd 136) 18 = .ok (.iload_n 2, 1) := by decide +kernel
theorem e136_19 : decode (px_cd 136) 19 = .ok (.bipush 8, 2) := by decide +kernel
theorem e136_21 : decode (px_cd 136) 21 = .ok (.ishr, 1) := by decide +kernel
theorem e136_22 : decode (px_cd 136) 22 = .ok (.sipush 255, 3) := by decide +kernel
theorem e136_25 : decode (px_cd 136) 25 = .ok (.iand, 1) := by decide +kernel
theorem e136_26 : decode (px_cd 136) 26 = .ok (.iastore, 1) := by decide +kernel
theorem e136_27 : decode (px_cd 136) 27 = .ok (.return_, 1) := by decide +kernel
-- 137 ImageFileModel_shortsIn
theorem e137_0 : decode (px_cd 137) 0 = .ok (.iconst 0, 1) := by decide +kernel
theorem e137_1 : decode (px_cd 137) 1 = .ok (.istore_n 2, 1) := by decide +kernel
theorem e137_2 : decode (px_cd 137) 2 = .ok (.iconst 0, 1) := by decide +kernel
theorem e137_3 : decode (px_cd 137) 3 = .ok (.istore_n 3, 1) := by decide +kernel
theorem e137_4 : decode (px_cd 137) 4 = .ok (.iload_n 3, 1) := by decide +kernel
theorem e137_5 : decode (px_cd 137) 5 = .ok (.sipush 2048, 3) := by decide +kernel
theorem e137_8 : decode (px_cd 137) 8 = .ok (.if_icmp .ge 42, 3) := by decide +kernel
theorem e137_11 : decode (px_cd 137) 11 = .ok (.iload_n 2, 1) := by decide +kernel
theorem e137_12 : decode (px_cd 137) 12 = .ok (.aload_n 0, 1) := by decide +kernel
theorem e137_13 : decode (px_cd 137) 13 = .ok (.getfield 26, 3) := by decide +kernel
theorem e137_16 : decode (px_cd 137) 16 = .ok (.sipush 2048, 3) := by decide +kernel
theorem e137_19 : decode (px_cd 137) 19 = .ok (.iload_n 1, 1) := by decide +kernel
theorem e137_20 : decode (px_cd 137) 20 = .ok (.imul, 1) := by decide +kernel
theorem e137_21 : decode (px_cd 137) 21 = .ok (.iload_n 3, 1) := by decide +kernel
theorem e137_22 : decode (px_cd 137) 22 = .ok (.iadd, 1) := by decide +kernel
theorem e137_23 : decode (px_cd 137) 23 = .ok (.baload, 1) := by decide +kernel
theorem e137_24 : decode (px_cd 137) 24 = .ok (.ifCond .eq 17, 3) := by decide +kernel
theorem e137_27 : decode (px_cd 137) 27 = .ok (.aload_n 0, 1) := by decide +kernel
theorem e137_28 : decode (px_cd 137) 28 = .ok (.iload_n 1, 1) := by decide +kernel
theorem e137_29 : decode (px_cd 137) 29 = .ok (.iload_n 3, 1) := by decide +kernel
theorem e137_30 : decode (px_cd 137) 30 = .ok (.invokevirtual 71, 3) := by decide +kernel
theorem e137_33 : decode (px_cd 137) 33 = .ok (.iconst 2, 1) := by decide +kernel
theorem e137_34 : decode (px_cd 137) 34 = .ok (.if_icmp .ne 7, 3) := by decide +kernel
theorem e137_37 : decode (px_cd 137) 37 = .ok (.iconst 1, 1) := by decide +kernel
theorem e137_38 : decode (px_cd 137) 38 = .ok (.goto 4, 3) := by decide +kernel
theorem e137_41 : decode (px_cd 137) 41 = .ok (.iconst 0, 1) := by decide +kernel
theorem e137_42 : decode (px_cd 137) 42 = .ok (.iadd, 1) := by decide +kernel
theorem e137_43 : decode (px_cd 137) 43 = .ok (.istore_n 2, 1) := by decide +kernel
theorem e137_44 : decode (px_cd 137) 44 = .ok (.iinc 3 1, 3) := by decide +kernel
theorem e137_47 : decode (px_cd 137) 47 = .ok (.goto (-43), 3) := by decide +kernel
theorem e137_50 : decode (px_cd 137) 50 = .ok (.iload_n 2, 1) := by decide +kernel
theorem e137_51 : decode (px_cd 137) 51 = .ok (.ireturn, 1) := by decide +kernel
-- 138 ImageFileModel_rightsOf
theorem e138_0 : decode (px_cd 138) 0 = .ok (.iload_n 0, 1) := by decide +kernel
theorem e138_1 : decode (px_cd 138) 1 = .ok (.ifCond .ne 7, 3) := by decide +kernel
theorem e138_4 : decode (px_cd 138) 4 = .ok (.iconst 5, 1) := by decide +kernel
theorem e138_5 : decode (px_cd 138) 5 = .ok (.goto 14, 3) := by decide +kernel
theorem e138_8 : decode (px_cd 138) 8 = .ok (.iload_n 0, 1) := by decide +kernel
theorem e138_9 : decode (px_cd 138) 9 = .ok (.iconst 1, 1) := by decide +kernel
theorem e138_10 : decode (px_cd 138) 10 = .ok (.if_icmp .ne 7, 3) := by decide +kernel
theorem e138_13 : decode (px_cd 138) 13 = .ok (.iconst 4, 1) := by decide +kernel
theorem e138_14 : decode (px_cd 138) 14 = .ok (.goto 5, 3) := by decide +kernel
theorem e138_17 : decode (px_cd 138) 17 = .ok (.bipush 6, 2) := by decide +kernel
theorem e138_19 : decode (px_cd 138) 19 = .ok (.ireturn, 1) := by decide +kernel
-- 139 ImageFileModel_writeRow
theorem e139_0 : decode (px_cd 139) 0 = .ok (.aload_n 0, 1) := by decide +kernel
theorem e139_1 : decode (px_cd 139) 1 = .ok (.iload_n 1, 1) := by decide +kernel
theorem e139_2 : decode (px_cd 139) 2 = .ok (.iload_n 2, 1) := by decide +kernel
theorem e139_3 : decode (px_cd 139) 3 = .ok (.invokevirtual 109, 3) := by decide +kernel
theorem e139_6 : decode (px_cd 139) 6 = .ok (.aload_n 0, 1) := by decide +kernel
theorem e139_7 : decode (px_cd 139) 7 = .ok (.iload_n 1, 1) := by decide +kernel
theorem e139_8 : decode (px_cd 139) 8 = .ok (.iconst 4, 1) := by decide +kernel
theorem e139_9 : decode (px_cd 139) 9 = .ok (.iadd, 1) := by decide +kernel
theorem e139_10 : decode (px_cd 139) 10 = .ok (.iload_n 3, 1) := by decide +kernel
theorem e139_11 : decode (px_cd 139) 11 = .ok (.invokevirtual 109, 3) := by decide +kernel
theorem e139_14 : decode (px_cd 139) 14 = .ok (.aload_n 0, 1) := by decide +kernel
theorem e139_15 : decode (px_cd 139) 15 = .ok (.iload_n 1, 1) := by decide +kernel
theorem e139_16 : decode (px_cd 139) 16 = .ok (.bipush 8, 2) := by decide +kernel
theorem e139_18 : decode (px_cd 139) 18 = .ok (.iadd, 1) := by decide +kernel
theorem e139_19 : decode (px_cd 139) 19 = .ok (.iload 4, 2) := by decide +kernel
theorem e139_21 : decode (px_cd 139) 21 = .ok (.invokevirtual 109, 3) := by decide +kernel
theorem e139_24 : decode (px_cd 139) 24 = .ok (.aload_n 0, 1) := by decide +kernel
theorem e139_25 : decode (px_cd 139) 25 = .ok (.iload_n 1, 1) := by decide +kernel
theorem e139_26 : decode (px_cd 139) 26 = .ok (.bipush 12, 2) := by decide +kernel
theorem e139_28 : decode (px_cd 139) 28 = .ok (.iadd, 1) := by decide +kernel
theorem e139_29 : decode (px_cd 139) 29 = .ok (.iload 4, 2) := by decide +kernel
theorem e139_31 : decode (px_cd 139) 31 = .ok (.invokevirtual 109, 3) := by decide +kernel
theorem e139_34 : decode (px_cd 139) 34 = .ok (.aload_n 0, 1) := by decide +kernel
theorem e139_35 : decode (px_cd 139) 35 = .ok (.iload_n 1, 1) := by decide +kernel
theorem e139_36 : decode (px_cd 139) 36 = .ok (.bipush 16, 2) := by decide +kernel
theorem e139_38 : decode (px_cd 139) 38 = .ok (.iadd, 1) := by decide +kernel
theorem e139_39 : decode (px_cd 139) 39 = .ok (.iload 5, 2) := by decide +kernel
theorem e139_41 : decode (px_cd 139) 41 = .ok (.invokevirtual 109, 3) := by decide +kernel
theorem e139_44 : decode (px_cd 139) 44 = .ok (.aload_n 0, 1) := by decide +kernel
theorem e139_45 : decode (px_cd 139) 45 = .ok (.iload_n 1, 1) := by decide +kernel
theorem e139_46 : decode (px_cd 139) 46 = .ok (.bipush 20, 2) := by decide +kernel
theorem e139_48 : decode (px_cd 139) 48 = .ok (.iadd, 1) := by decide +kernel
theorem e139_49 : decode (px_cd 139) 49 = .ok (.iload 6, 2) := by decide +kernel
theorem e139_51 : decode (px_cd 139) 51 = .ok (.invokevirtual 109, 3) := by decide +kernel
theorem e139_54 : decode (px_cd 139) 54 = .ok (.aload_n 0, 1) := by decide +kernel
theorem e139_55 : decode (px_cd 139) 55 = .ok (.iload_n 1, 1) := by decide +kernel
theorem e139_56 : decode (px_cd 139) 56 = .ok (.bipush 24, 2) := by decide +kernel
theorem e139_58 : decode (px_cd 139) 58 = .ok (.iadd, 1) := by decide +kernel
theorem e139_59 : decode (px_cd 139) 59 = .ok (.iload 7, 2) := by decide +kernel
theorem e139_61 : decode (px_cd 139) 61 = .ok (.invokevirtual 109, 3) := by decide +kernel
theorem e139_64 : decode (px_cd 139) 64 = .ok (.aload_n 0, 1) := by decide +kernel
theorem e139_65 : decode (px_cd 139) 65 = .ok (.iload_n 1, 1) := by decide +kernel
theorem e139_66 : decode (px_cd 139) 66 = .ok (.bipush 28, 2) := by decide +kernel
theorem e139_68 : decode (px_cd 139) 68 = .ok (.iadd, 1) := by decide +kernel
theorem e139_69 : decode (px_cd 139) 69 = .ok (.iload 8, 2) := by decide +kernel
theorem e139_71 : decode (px_cd 139) 71 = .ok (.invokevirtual 109, 3) := by decide +kernel
theorem e139_74 : decode (px_cd 139) 74 = .ok (.return_, 1) := by decide +kernel
-- 140 ImageFileModel_sumOf
theorem e140_0 : decode (px_cd 140) 0 = .ok (.aload_n 0, 1) := by decide +kernel
theorem e140_1 : decode (px_cd 140) 1 = .ok (.iconst (-1), 1) := by decide +kernel
theorem e140_2 : decode (px_cd 140) 2 = .ok (.putfield 88, 3) := by decide +kernel
theorem e140_5 : decode (px_cd 140) 5 = .ok (.aload_n 0, 1) := by decide +kernel
theorem e140_6 : decode (px_cd 140) 6 = .ok (.aload_n 0, 1) := by decide +kernel
theorem e140_7 : decode (px_cd 140) 7 = .ok (.getfield 29, 3) := by decide +kernel
theorem e140_10 : decode (px_cd 140) 10 = .ok (.iload_n 1, 1) := by decide +kernel
theorem e140_11 : decode (px_cd 140) 11 = .ok (.iaload, 1) := by decide +kernel
theorem e140_12 : decode (px_cd 140) 12 = .ok (.invokevirtual 96, 3) := by decide +kernel
theorem e140_15 : decode (px_cd 140) 15 = .ok (.iconst 3, 1) := by decide +kernel
theorem e140_16 : decode (px_cd 140) 16 = .ok (.iload_n 1, 1) := by decide +kernel
theorem e140_17 : decode (px_cd 140) 17 = .ok (.imul, 1) := by decide +kernel
theorem e140_18 : decode (px_cd 140) 18 = .ok (.istore_n 2, 1) := by decide +kernel
theorem e140_19 : decode (px_cd 140) 19 = .ok (.iload_n 2, 1) := by decide +kernel
theorem e140_20 : decode (px_cd 140) 20 = .ok (.iconst 3, 1) := by decide +kernel
theorem e140_21 : decode (px_cd 140) 21 = .ok (.iload_n 1, 1) := by decide +kernel
theorem e140_22 : decode (px_cd 140) 22 = .ok (.imul, 1) := by decide +kernel
theorem e140_23 : decode (px_cd 140) 23 = .ok (.iconst 3, 1) := by decide +kernel
theorem e140_24 : decode (px_cd 140) 24 = .ok (.iadd, 1) := by decide +kernel
theorem e140_25 : decode (px_cd 140) 25 = .ok (.if_icmp .ge 75, 3) := by decide +kernel
theorem e140_28 : decode (px_cd 140) 28 = .ok (.aload_n 0, 1) := by decide +kernel
theorem e140_29 : decode (px_cd 140) 29 = .ok (.getfield 7, 3) := by decide +kernel
theorem e140_32 : decode (px_cd 140) 32 = .ok (.iload_n 2, 1) := by decide +kernel
theorem e140_33 : decode (px_cd 140) 33 = .ok (.baload, 1) := by decide +kernel
theorem e140_34 : decode (px_cd 140) 34 = .ok (.ifCond .ne 6, 3) := by decide +kernel
theorem e140_37 : decode (px_cd 140) 37 = .ok (.goto 57, 3) := by decide +kernel
theorem e140_40 : decode (px_cd 140) 40 = .ok (.aload_n 0, 1) := by decide +kernel
theorem e140_41 : decode (px_cd 140) 41 = .ok (.aload_n 0, 1) := by decide +kernel
theorem e140_42 : decode (px_cd 140) 42 = .ok (.getfield 13, 3) := by decide +kernel
theorem e140_45 : decode (px_cd 140) 45 = .ok (.iload_n 2, 1) := by decide +kernel
theorem e140_46 : decode (px_cd 140) 46 = .ok (.iaload, 1) := by decide +kernel
theorem e140_47 : decode (px_cd 140) 47 = .ok (.invokevirtual 96, 3) := by decide +kernel
theorem e140_50 : decode (px_cd 140) 50 = .ok (.aload_n 0, 1) := by decide +kernel
theorem e140_51 : decode (px_cd 140) 51 = .ok (.aload_n 0, 1) := by decide +kernel
theorem e140_52 : decode (px_cd 140) 52 = .ok (.getfield 17, 3) := by decide +kernel
theorem e140_55 : decode (px_cd 140) 55 = .ok (.iload_n 2, 1) := by decide +kernel
theorem e140_56 : decode (px_cd 140) 56 = .ok (.iaload, 1) := by decide +kernel
theorem e140_57 : decode (px_cd 140) 57 = .ok (.invokevirtual 96, 3) := by decide +kernel
theorem e140_60 : decode (px_cd 140) 60 = .ok (.iconst 0, 1) := by decide +kernel
theorem e140_61 : decode (px_cd 140) 61 = .ok (.istore_n 3, 1) := by decide +kernel
theorem e140_62 : decode (px_cd 140) 62 = .ok (.iload_n 3, 1) := by decide +kernel
theorem e140_63 : decode (px_cd 140) 63 = .ok (.aload_n 0, 1) := by decide +kernel
theorem e140_64 : decode (px_cd 140) 64 = .ok (.getfield 20, 3) := by decide +kernel
theorem e140_67 : decode (px_cd 140) 67 = .ok (.iload_n 2, 1) := by decide +kernel
theorem e140_68 : decode (px_cd 140) 68 = .ok (.iaload, 1) := by decide +kernel
theorem e140_69 : decode (px_cd 140) 69 = .ok (.if_icmp .ge 25, 3) := by decide +kernel
theorem e140_72 : decode (px_cd 140) 72 = .ok (.aload_n 0, 1) := by decide +kernel
theorem e140_73 : decode (px_cd 140) 73 = .ok (.aload_n 0, 1) := by decide +kernel
theorem e140_74 : decode (px_cd 140) 74 = .ok (.getfield 23, 3) := by decide +kernel
theorem e140_77 : decode (px_cd 140) 77 = .ok (.sipush 4096, 3) := by decide +kernel
theorem e140_80 : decode (px_cd 140) 80 = .ok (.iload_n 2, 1) := by decide +kernel
theorem e140_81 : decode (px_cd 140) 81 = .ok (.imul, 1) := by decide +kernel
theorem e140_82 : decode (px_cd 140) 82 = .ok (.iload_n 3, 1) := by decide +kernel
theorem e140_83 : decode (px_cd 140) 83 = .ok (.iadd, 1) := by decide +kernel
theorem e140_84 : decode (px_cd 140) 84 = .ok (.iaload, 1) := by decide +kernel
theorem e140_85 : decode (px_cd 140) 85 = .ok (.invokevirtual 92, 3) := by decide +kernel
theorem e140_88 : decode (px_cd 140) 88 = .ok (.iinc 3 1, 3) := by decide +kernel
theorem e140_91 : decode (px_cd 140) 91 = .ok (.goto (-29), 3) := by decide +kernel
theorem e140_94 : decode (px_cd 140) 94 = .ok (.iinc 2 1, 3) := by decide +kernel
theorem e140_97 : decode (px_cd 140) 97 = .ok (.goto (-78), 3) := by decide +kernel
theorem e140_100 : decode (px_cd 140) 100 = .ok (.aload_n 0, 1) := by decide +kernel
theorem e140_101 : decode (px_cd 140) 101 = .ok (.iload_n 1, 1) := by decide +kernel
theorem e140_102 : decode (px_cd 140) 102 = .ok (.invokevirtual 99, 3) := by decide +kernel
theorem e140_105 : decode (px_cd 140) 105 = .ok (.istore_n 2, 1) := by decide +kernel
theorem e140_106 : decode (px_cd 140) 106 = .ok (.iconst 0, 1) := by decide +kernel
theorem e140_107 : decode (px_cd 140) 107 = .ok (.istore_n 3, 1) := by decide +kernel
theorem e140_108 : decode (px_cd 140) 108 = .ok (.iload_n 3, 1) := by decide +kernel
theorem e140_109 : decode (px_cd 140) 109 = .ok (.iload_n 2, 1) := by decide +kernel
theorem e140_110 : decode (px_cd 140) 110 = .ok (.if_icmp .ge 19, 3) := by decide +kernel
theorem e140_113 : decode (px_cd 140) 113 = .ok (.aload_n 0, 1) := by decide +kernel
theorem e140_114 : decode (px_cd 140) 114 = .ok (.aload_n 0, 1) := by decide +kernel
theorem e140_115 : decode (px_cd 140) 115 = .ok (.iload_n 1, 1) := by decide +kernel
theorem e140_116 : decode (px_cd 140) 116 = .ok (.iload_n 3, 1) := by decide +kernel
theorem e140_117 : decode (px_cd 140) 117 = .ok (.invokevirtual 102, 3) := by decide +kernel
theorem e140_120 : decode (px_cd 140) 120 = .ok (.invokevirtual 92, 3) := by decide +kernel
theorem e140_123 : decode (px_cd 140) 123 = .ok (.iinc 3 1, 3) := by decide +kernel
theorem e140_126 : decode (px_cd 140) 126 = .ok (.goto (-18), 3) := by decide +kernel
theorem e140_129 : decode (px_cd 140) 129 = .ok (.aload_n 0, 1) := by decide +kernel
theorem e140_130 : decode (px_cd 140) 130 = .ok (.getfield 88, 3) := by decide +kernel
theorem e140_133 : decode (px_cd 140) 133 = .ok (.iconst (-1), 1) := by decide +kernel
theorem e140_134 : decode (px_cd 140) 134 = .ok (.ixor, 1) := by decide +kernel
theorem e140_135 : decode (px_cd 140) 135 = .ok (.ireturn, 1) := by decide +kernel
-- 141 ImageFileModel_addNumber
theorem e141_0 : decode (px_cd 141) 0 = .ok (.iconst 0, 1) := by decide +kernel
theorem e141_1 : decode (px_cd 141) 1 = .ok (.istore_n 2, 1) := by decide +kernel
theorem e141_2 : decode (px_cd 141) 2 = .ok (.iload_n 2, 1) := by decide +kernel
theorem e141_3 : decode (px_cd 141) 3 = .ok (.iconst 4, 1) := by decide +kernel
theorem e141_4 : decode (px_cd 141) 4 = .ok (.if_icmp .ge 23, 3) := by decide +kernel
theorem e141_7 : decode (px_cd 141) 7 = .ok (.aload_n 0, 1) := by decide +kernel
theorem e141_8 : decode (px_cd 141) 8 = .ok (.iload_n 1, 1) := by decide +kernel
theorem e141_9 : decode (px_cd 141) 9 = .ok (.bipush 8, 2) := by decide +kernel
theorem e141_11 : decode (px_cd 141) 11 = .ok (.iload_n 2, 1) := by decide +kernel
theorem e141_12 : decode (px_cd 141) 12 = .ok (.imul, 1) := by decide +kernel
theorem e141_13 : decode (px_cd 141) 13 = .ok (.ishr, 1) := by decide +kernel
theorem e141_14 : decode (px_cd 141) 14 = .ok (.sipush 255, 3) := by decide +kernel
theorem e141_17 : decode (px_cd 141) 17 = .ok (.iand, 1) := by decide +kernel
theorem e141_18 : decode (px_cd 141) 18 = .ok (.invokevirtual 92, 3) := by decide +kernel
theorem e141_21 : decode (px_cd 141) 21 = .ok (.iinc 2 1, 3) := by decide +kernel
theorem e141_24 : decode (px_cd 141) 24 = .ok (.goto (-22), 3) := by decide +kernel
theorem e141_27 : decode (px_cd 141) 27 = .ok (.return_, 1) := by decide +kernel
-- 142 ImageFileModel_addByte
theorem e142_0 : decode (px_cd 142) 0 = .ok (.iconst 0, 1) := by decide +kernel
theorem e142_1 : decode (px_cd 142) 1 = .ok (.istore_n 2, 1) := by decide +kernel
theorem e142_2 : decode (px_cd 142) 2 = .ok (.iload_n 2, 1) := by decide +kernel
theorem e142_3 : decode (px_cd 142) 3 = .ok (.bipush 8, 2) := by decide +kernel
theorem e142_5 : decode (px_cd 142) 5 = .ok (.if_icmp .ge 46, 3) := by decide +kernel
theorem e142_8 : decode (px_cd 142) 8 = .ok (.aload_n 0, 1) := by decide +kernel
theorem e142_9 : decode (px_cd 142) 9 = .ok (.getfield 88, 3) := by decide +kernel
theorem e142_12 : decode (px_cd 142) 12 = .ok (.iload_n 1, 1) := by decide +kernel
theorem e142_13 : decode (px_cd 142) 13 = .ok (.iload_n 2, 1) := by decide +kernel
theorem e142_14 : decode (px_cd 142) 14 = .ok (.ishr, 1) := by decide +kernel
theorem e142_15 : decode (px_cd 142) 15 = .ok (.ixor, 1) := by decide +kernel
theorem e142_16 : decode (px_cd 142) 16 = .ok (.iconst 1, 1) := by decide +kernel
theorem e142_17 : decode (px_cd 142) 17 = .ok (.iand, 1) := by decide +kernel
theorem e142_18 : decode (px_cd 142) 18 = .ok (.istore_n 3, 1) := by decide +kernel
theorem e142_19 : decode (px_cd 142) 19 = .ok (.aload_n 0, 1) := by decide +kernel
theorem e142_20 : decode (px_cd 142) 20 = .ok (.aload_n 0, 1) := by decide +kernel
theorem e142_21 : decode (px_cd 142) 21 = .ok (.getfield 88, 3) := by decide +kernel
theorem e142_24 : decode (px_cd 142) 24 = .ok (.iconst 1, 1) := by decide +kernel
theorem e142_25 : decode (px_cd 142) 25 = .ok (.iushr, 1) := by decide +kernel
theorem e142_26 : decode (px_cd 142) 26 = .ok (.putfield 88, 3) := by decide +kernel
theorem e142_29 : decode (px_cd 142) 29 = .ok (.iload_n 3, 1) := by decide +kernel
theorem e142_30 : decode (px_cd 142) 30 = .ok (.iconst 1, 1) := by decide +kernel
theorem e142_31 : decode (px_cd 142) 31 = .ok (.if_icmp .ne 14, 3) := by decide +kernel
theorem e142_34 : decode (px_cd 142) 34 = .ok (.aload_n 0, 1) := by decide +kernel
theorem e142_35 : decode (px_cd 142) 35 = .ok (.aload_n 0, 1) := by decide +kernel
theorem e142_36 : decode (px_cd 142) 36 = .ok (.getfield 88, 3) := by decide +kernel
theorem e142_39 : decode (px_cd 142) 39 = .ok (.ldc 91, 2) := by decide +kernel
theorem e142_41 : decode (px_cd 142) 41 = .ok (.ixor, 1) := by decide +kernel
theorem e142_42 : decode (px_cd 142) 42 = .ok (.putfield 88, 3) := by decide +kernel
theorem e142_45 : decode (px_cd 142) 45 = .ok (.iinc 2 1, 3) := by decide +kernel
theorem e142_48 : decode (px_cd 142) 48 = .ok (.goto (-46), 3) := by decide +kernel
theorem e142_51 : decode (px_cd 142) 51 = .ok (.return_, 1) := by decide +kernel
-- 143 ImageFileModel_markByte
theorem e143_0 : decode (px_cd 143) 0 = .ok (.iconst 0, 1) := by decide +kernel
theorem e143_1 : decode (px_cd 143) 1 = .ok (.istore_n 3, 1) := by decide +kernel
theorem e143_2 : decode (px_cd 143) 2 = .ok (.iconst 0, 1) := by decide +kernel
theorem e143_3 : decode (px_cd 143) 3 = .ok (.istore 4, 2) := by decide +kernel
theorem e143_5 : decode (px_cd 143) 5 = .ok (.iload 4, 2) := by decide +kernel
theorem e143_7 : decode (px_cd 143) 7 = .ok (.bipush 8, 2) := by decide +kernel
theorem e143_9 : decode (px_cd 143) 9 = .ok (.if_icmp .ge 41, 3) := by decide +kernel
theorem e143_12 : decode (px_cd 143) 12 = .ok (.iload_n 3, 1) := by decide +kernel
theorem e143_13 : decode (px_cd 143) 13 = .ok (.aload_n 0, 1) := by decide +kernel
theorem e143_14 : decode (px_cd 143) 14 = .ok (.getfield 26, 3) := by decide +kernel
theorem e143_17 : decode (px_cd 143) 17 = .ok (.sipush 2048, 3) := by decide +kernel
theorem e143_20 : decode (px_cd 143) 20 = .ok (.iload_n 1, 1) := by decide +kernel
theorem e143_21 : decode (px_cd 143) 21 = .ok (.imul, 1) := by decide +kernel
theorem e143_22 : decode (px_cd 143) 22 = .ok (.bipush 8, 2) := by decide +kernel
theorem e143_24 : decode (px_cd 143) 24 = .ok (.iload_n 2, 1) := by decide +kernel
theorem e143_25 : decode (px_cd 143) 25 = .ok (.imul, 1) := by decide +kernel
theorem e143_26 : decode (px_cd 143) 26 = .ok (.iadd, 1) := by decide +kernel
theorem e143_27 : decode (px_cd 143) 27 = .ok (.iload 4, 2) := by decide +kernel
theorem e143_29 : decode (px_cd 143) 29 = .ok (.iadd, 1) := by decide +kernel
theorem e143_30 : decode (px_cd 143) 30 = .ok (.baload, 1) := by decide +kernel
theorem e143_31 : decode (px_cd 143) 31 = .ok (.ifCond .eq 10, 3) := by decide +kernel
theorem e143_34 : decode (px_cd 143) 34 = .ok (.iconst 1, 1) := by decide +kernel
theorem e143_35 : decode (px_cd 143) 35 = .ok (.iload 4, 2) := by decide +kernel
theorem e143_37 : decode (px_cd 143) 37 = .ok (.ishl, 1) := by decide +kernel
theorem e143_38 : decode (px_cd 143) 38 = .ok (.goto 4, 3) := by decide +kernel
theorem e143_41 : decode (px_cd 143) 41 = .ok (.iconst 0, 1) := by decide +kernel
theorem e143_42 : decode (px_cd 143) 42 = .ok (.iadd, 1) := by decide +kernel
theorem e143_43 : decode (px_cd 143) 43 = .ok (.istore_n 3, 1) := by decide +kernel
theorem e143_44 : decode (px_cd 143) 44 = .ok (.iinc 4 1, 3) := by decide +kernel
theorem e143_47 : decode (px_cd 143) 47 = .ok (.goto (-42), 3) := by decide +kernel
theorem e143_50 : decode (px_cd 143) 50 = .ok (.iload_n 3, 1) := by decide +kernel
theorem e143_51 : decode (px_cd 143) 51 = .ok (.ireturn, 1) := by decide +kernel
-- 144 ImageFileModel_size
theorem e144_0 : decode (px_cd 144) 0 = .ok (.aload_n 0, 1) := by decide +kernel
theorem e144_1 : decode (px_cd 144) 1 = .ok (.getfield 118, 3) := by decide +kernel
theorem e144_4 : decode (px_cd 144) 4 = .ok (.ireturn, 1) := by decide +kernel
-- 145 ImageFileModel_byteAt
theorem e145_0 : decode (px_cd 145) 0 = .ok (.iload_n 1, 1) := by decide +kernel
theorem e145_1 : decode (px_cd 145) 1 = .ok (.ifCond .lt 20, 3) := by decide +kernel
theorem e145_4 : decode (px_cd 145) 4 = .ok (.iload_n 1, 1) := by decide +kernel
theorem e145_5 : decode (px_cd 145) 5 = .ok (.aload_n 0, 1) := by decide +kernel
theorem e145_6 : decode (px_cd 145) 6 = .ok (.getfield 118, 3) := by decide +kernel
theorem e145_9 : decode (px_cd 145) 9 = .ok (.if_icmp .ge 12, 3) := by decide +kernel
theorem e145_12 : decode (px_cd 145) 12 = .ok (.aload_n 0, 1) := by decide +kernel
theorem e145_13 : decode (px_cd 145) 13 = .ok (.getfield 35, 3) := by decide +kernel
theorem e145_16 : decode (px_cd 145) 16 = .ok (.iload_n 1, 1) := by decide +kernel
theorem e145_17 : decode (px_cd 145) 17 = .ok (.iaload, 1) := by decide +kernel
theorem e145_18 : decode (px_cd 145) 18 = .ok (.goto 4, 3) := by decide +kernel
theorem e145_21 : decode (px_cd 145) 21 = .ok (.iconst (-1), 1) := by decide +kernel
theorem e145_22 : decode (px_cd 145) 22 = .ok (.ireturn, 1) := by decide +kernel
-- 146 ImageFileModel_feed
theorem e146_0 : decode (px_cd 146) 0 = .ok (.iload_n 1, 1) := by decide +kernel
theorem e146_1 : decode (px_cd 146) 1 = .ok (.iconst 1, 1) := by decide +kernel
theorem e146_2 : decode (px_cd 146) 2 = .ok (.if_icmp .lt 21, 3) := by decide +kernel
theorem e146_5 : decode (px_cd 146) 5 = .ok (.iload_n 1, 1) := by decide +kernel
theorem e146_6 : decode (px_cd 146) 6 = .ok (.bipush 8, 2) := by decide +kernel
theorem e146_8 : decode (px_cd 146) 8 = .ok (.if_icmp .gt 15, 3) := by decide +kernel
theorem e146_11 : decode (px_cd 146) 11 = .ok (.aload_n 0, 1) := by decide +kernel
theorem e146_12 : decode (px_cd 146) 12 = .ok (.getfield 118, 3) := by decide +kernel
theorem e146_15 : decode (px_cd 146) 15 = .ok (.iload_n 1, 1) := by decide +kernel
theorem e146_16 : decode (px_cd 146) 16 = .ok (.iadd, 1) := by decide +kernel
theorem e146_17 : decode (px_cd 146) 17 = .ok (.sipush 16384, 3) := by decide +kernel
theorem e146_20 : decode (px_cd 146) 20 = .ok (.if_icmp .le 5, 3) := by decide +kernel
theorem e146_23 : decode (px_cd 146) 23 = .ok (.iconst 0, 1) := by decide +kernel
theorem e146_24 : decode (px_cd 146) 24 = .ok (.ireturn, 1) := by decide +kernel
theorem e146_25 : decode (px_cd 146) 25 = .ok (.iconst 0, 1) := by decide +kernel
theorem e146_26 : decode (px_cd 146) 26 = .ok (.istore 4, 2) := by decide +kernel
theorem e146_28 : decode (px_cd 146) 28 = .ok (.iload 4, 2) := by decide +kernel
theorem e146_30 : decode (px_cd 146) 30 = .ok (.iload_n 1, 1) := by decide +kernel
theorem e146_31 : decode (px_cd 146) 31 = .ok (.if_icmp .ge 27, 3) := by decide +kernel
theorem e146_34 : decode (px_cd 146) 34 = .ok (.aload_n 0, 1) := by decide +kernel
theorem e146_35 : decode (px_cd 146) 35 = .ok (.getfield 35, 3) := by decide +kernel
theorem e146_38 : decode (px_cd 146) 38 = .ok (.aload_n 0, 1) := by decide +kernel
theorem e146_39 : decode (px_cd 146) 39 = .ok (.getfield 118, 3) := by decide +kernel
theorem e146_42 : decode (px_cd 146) 42 = .ok (.iload 4, 2) := by decide +kernel
theorem e146_44 : decode (px_cd 146) 44 = .ok (.iadd, 1) := by decide +kernel
theorem e146_45 : decode (px_cd 146) 45 = .ok (.lload_n 2, 1) := by decide +kernel
theorem e146_46 : decode (px_cd 146) 46 = .ok (.iload 4, 2) := by decide +kernel
theorem e146_48 : decode (px_cd 146) 48 = .ok (.invokestatic 60, 3) := by decide +kernel
theorem e146_51 : decode (px_cd 146) 51 = .ok (.iastore, 1) := by decide +kernel
theorem e146_52 : decode (px_cd 146) 52 = .ok (.iinc 4 1, 3) := by decide +kernel
theorem e146_55 : decode (px_cd 146) 55 = .ok (.goto (-27), 3) := by decide +kernel
theorem e146_58 : decode (px_cd 146) 58 = .ok (.aload_n 0, 1) := by decide +kernel
theorem e146_59 : decode (px_cd 146) 59 = .ok (.dup, 1) := by decide +kernel
theorem e146_60 : decode (px_cd 146) 60 = .ok (.getfield 118, 3) := by decide +kernel
theorem e146_63 : decode (px_cd 146) 63 = .ok (.iload_n 1, 1) := by decide +kernel
theorem e146_64 : decode (px_cd 146) 64 = .ok (.iadd, 1) := by decide +kernel
theorem e146_65 : decode (px_cd 146) 65 = .ok (.putfield 118, 3) := by decide +kernel
theorem e146_68 : decode (px_cd 146) 68 = .ok (.iconst 1, 1) := by decide +kernel
theorem e146_69 : decode (px_cd 146) 69 = .ok (.ireturn, 1) := by decide +kernel
-- 147 ImageFileModel_cut
theorem e147_0 : decode (px_cd 147) 0 = .ok (.iload_n 1, 1) := by decide +kernel
theorem e147_1 : decode (px_cd 147) 1 = .ok (.ifCond .lt 11, 3) := by decide +kernel
theorem e147_4 : decode (px_cd 147) 4 = .ok (.iload_n 1, 1) := by decide +kernel
theorem e147_5 : decode (px_cd 147) 5 = .ok (.aload_n 0, 1) := by decide +kernel
theorem e147_6 : decode (px_cd 147) 6 = .ok (.getfield 118, 3) := by decide +kernel
theorem e147_9 : decode (px_cd 147) 9 = .ok (.if_icmp .le 5, 3) := by decide +kernel
theorem e147_12 : decode (px_cd 147) 12 = .ok (.iconst 0, 1) := by decide +kernel
theorem e147_13 : decode (px_cd 147) 13 = .ok (.ireturn, 1) := by decide +kernel
theorem e147_14 : decode (px_cd 147) 14 = .ok (.aload_n 0, 1) := by decide +kernel
theorem e147_15 : decode (px_cd 147) 15 = .ok (.iload_n 1, 1) := by decide +kernel
theorem e147_16 : decode (px_cd 147) 16 = .ok (.putfield 118, 3) := by decide +kernel
theorem e147_19 : decode (px_cd 147) 19 = .ok (.iconst 1, 1) := by decide +kernel
theorem e147_20 : decode (px_cd 147) 20 = .ok (.ireturn, 1) := by decide +kernel
-- 148 ImageFileModel_spoil
theorem e148_0 : decode (px_cd 148) 0 = .ok (.iload_n 1, 1) := by decide +kernel
theorem e148_1 : decode (px_cd 148) 1 = .ok (.ifCond .lt 11, 3) := by decide +kernel
theorem e148_4 : decode (px_cd 148) 4 = .ok (.iload_n 1, 1) := by decide +kernel
theorem e148_5 : decode (px_cd 148) 5 = .ok (.aload_n 0, 1) := by decide +kernel
theorem e148_6 : decode (px_cd 148) 6 = .ok (.getfield 118, 3) := by decide +kernel
theorem e148_9 : decode (px_cd 148) 9 = .ok (.if_icmp .lt 5, 3) := by decide +kernel
theorem e148_12 : decode (px_cd 148) 12 = .ok (.iconst (-1), 1) := by decide +kernel
theorem e148_13 : decode (px_cd 148) 13 = .ok (.ireturn, 1) := by decide +kernel
theorem e148_14 : decode (px_cd 148) 14 = .ok (.aload_n 0, 1) := by decide +kernel
theorem e148_15 : decode (px_cd 148) 15 = .ok (.getfield 35, 3) := by decide +kernel
theorem e148_18 : decode (px_cd 148) 18 = .ok (.iload_n 1, 1) := by decide +kernel
theorem e148_19 : decode (px_cd 148) 19 = .ok (.iaload, 1) := by decide +kernel
theorem e148_20 : decode (px_cd 148) 20 = .ok (.istore_n 3, 1) := by decide +kernel
theorem e148_21 : decode (px_cd 148) 21 = .ok (.aload_n 0, 1) := by decide +kernel
theorem e148_22 : decode (px_cd 148) 22 = .ok (.getfield 35, 3) := by decide +kernel
theorem e148_25 : decode (px_cd 148) 25 = .ok (.iload_n 1, 1) := by decide +kernel
theorem e148_26 : decode (px_cd 148) 26 = .ok (.iload_n 2, 1) := by decide +kernel
theorem e148_27 : decode (px_cd 148) 27 = .ok (.sipush 255, 3) := by decide +kernel
theorem e148_30 : decode (px_cd 148) 30 = .ok (.iand, 1) := by decide +kernel
theorem e148_31 : decode (px_cd 148) 31 = .ok (.iastore, 1) := by decide +kernel
theorem e148_32 : decode (px_cd 148) 32 = .ok (.iload_n 3, 1) := by decide +kernel
theorem e148_33 : decode (px_cd 148) 33 = .ok (.ireturn, 1) := by decide +kernel
-- 149 ImageFileModel_read
theorem e149_0 : decode (px_cd 149) 0 = .ok (.aload_n 0, 1) := by decide +kernel
theorem e149_1 : decode (px_cd 149) 1 = .ok (.invokevirtual 209, 3) := by decide +kernel
theorem e149_4 : decode (px_cd 149) 4 = .ok (.istore_n 1, 1) := by decide +kernel
theorem e149_5 : decode (px_cd 149) 5 = .ok (.iconst 0, 1) := by decide +kernel
theorem e149_6 : decode (px_cd 149) 6 = .ok (.istore_n 2, 1) := by decide +kernel
theorem e149_7 : decode (px_cd 149) 7 = .ok (.iload_n 2, 1) := by decide +kernel
theorem e149_8 : decode (px_cd 149) 8 = .ok (.iconst 4, 1) := by decide +kernel
theorem e149_9 : decode (px_cd 149) 9 = .ok (.if_icmp .ge 16, 3) := by decide +kernel
theorem e149_12 : decode (px_cd 149) 12 = .ok (.aload_n 0, 1) := by decide +kernel
theorem e149_13 : decode (px_cd 149) 13 = .ok (.getfield 42, 3) := by decide +kernel
theorem e149_16 : decode (px_cd 149) 16 = .ok (.iload_n 2, 1) := by decide +kernel
theorem e149_17 : decode (px_cd 149) 17 = .ok (.iconst (-1), 1) := by decide +kernel
theorem e149_18 : decode (px_cd 149) 18 = .ok (.iastore, 1) := by decide +kernel
theorem e149_19 : decode (px_cd 149) 19 = .ok (.iinc 2 1, 3) := by decide +kernel
theorem e149_22 : decode (px_cd 149) 22 = .ok (.goto (-15), 3) := by decide +kernel
theorem e149_25 : decode (px_cd 149) 25 = .ok (.iconst 0, 1) := by decide +kernel
theorem e149_26 : decode (px_cd 149) 26 = .ok (.istore_n 2, 1) := by decide +kernel
theorem e149_27 : decode (px_cd 149) 27 = .ok (.iload_n 1, 1) := by decide +kernel
theorem e149_28 : decode (px_cd 149) 28 = .ok (.ifCond .ne 23, 3) := by decide +kernel
theorem e149_31 : decode (px_cd 149) 31 = .ok (.iload_n 2, 1) := by decide +kernel
theorem e149_32 : decode (px_cd 149) 32 = .ok (.aload_n 0, 1) := by decide +kernel
theorem e149_33 : decode (px_cd 149) 33 = .ok (.getfield 153, 3) := by decide +kernel
theorem e149_36 : decode (px_cd 149) 36 = .ok (.if_icmp .ge 15, 3) := by decide +kernel
theorem e149_39 : decode (px_cd 149) 39 = .ok (.aload_n 0, 1) := by decide +kernel
theorem e149_40 : decode (px_cd 149) 40 = .ok (.iload_n 2, 1) := by decide +kernel
theorem e149_41 : decode (px_cd 149) 41 = .ok (.invokevirtual 212, 3) := by decide +kernel
theorem e149_44 : decode (px_cd 149) 44 = .ok (.istore_n 1, 1) := by decide +kernel
theorem e149_45 : decode (px_cd 149) 45 = .ok (.iinc 2 1, 3) := by decide +kernel
theorem e149_48 : decode (px_cd 149) 48 = .ok (.goto (-21), 3) := by decide +kernel
theorem e149_51 : decode (px_cd 149) 51 = .ok (.iload_n 1, 1) := by decide +kernel
theorem e149_52 : decode (px_cd 149) 52 = .ok (.ifCond .eq 7, 3) := by decide +kernel
theorem e149_55 : decode (px_cd 149) 55 = .ok (.iload_n 1, 1) := by decide +kernel
theorem e149_56 : decode (px_cd 149) 56 = .ok (.goto 7, 3) := by decide +kernel
theorem e149_59 : decode (px_cd 149) 59 = .ok (.aload_n 0, 1) := by decide +kernel
theorem e149_60 : decode (px_cd 149) 60 = .ok (.invokevirtual 215, 3) := by decide +kernel
theorem e149_63 : decode (px_cd 149) 63 = .ok (.istore_n 1, 1) := by decide +kernel
theorem e149_64 : decode (px_cd 149) 64 = .ok (.iload_n 1, 1) := by decide +kernel
theorem e149_65 : decode (px_cd 149) 65 = .ok (.ifCond .eq 7, 3) := by decide +kernel
theorem e149_68 : decode (px_cd 149) 68 = .ok (.iload_n 1, 1) := by decide +kernel
theorem e149_69 : decode (px_cd 149) 69 = .ok (.goto 7, 3) := by decide +kernel
theorem e149_72 : decode (px_cd 149) 72 = .ok (.aload_n 0, 1) := by decide +kernel
theorem e149_73 : decode (px_cd 149) 73 = .ok (.invokevirtual 218, 3) := by decide +kernel
theorem e149_76 : decode (px_cd 149) 76 = .ok (.istore_n 1, 1) := by decide +kernel
theorem e149_77 : decode (px_cd 149) 77 = .ok (.iload_n 1, 1) := by decide +kernel
theorem e149_78 : decode (px_cd 149) 78 = .ok (.ifCond .eq 7, 3) := by decide +kernel
theorem e149_81 : decode (px_cd 149) 81 = .ok (.iload_n 1, 1) := by decide +kernel
theorem e149_82 : decode (px_cd 149) 82 = .ok (.goto 7, 3) := by decide +kernel
theorem e149_85 : decode (px_cd 149) 85 = .ok (.aload_n 0, 1) := by decide +kernel
theorem e149_86 : decode (px_cd 149) 86 = .ok (.invokevirtual 221, 3) := by decide +kernel
theorem e149_89 : decode (px_cd 149) 89 = .ok (.istore_n 1, 1) := by decide +kernel
theorem e149_90 : decode (px_cd 149) 90 = .ok (.iload_n 1, 1) := by decide +kernel
theorem e149_91 : decode (px_cd 149) 91 = .ok (.ifCond .eq 5, 3) := by decide +kernel
theorem e149_94 : decode (px_cd 149) 94 = .ok (.iload_n 1, 1) := by decide +kernel
theorem e149_95 : decode (px_cd 149) 95 = .ok (.ireturn, 1) := by decide +kernel
theorem e149_96 : decode (px_cd 149) 96 = .ok (.aload_n 0, 1) := by decide +kernel
theorem e149_97 : decode (px_cd 149) 97 = .ok (.iconst (-1), 1) := by decide +kernel
theorem e149_98 : decode (px_cd 149) 98 = .ok (.putfield 38, 3) := by decide +kernel
theorem e149_101 : decode (px_cd 149) 101 = .ok (.aload_n 0, 1) := by decide +kernel
theorem e149_102 : decode (px_cd 149) 102 = .ok (.getfield 29, 3) := by decide +kernel
theorem e149_105 : decode (px_cd 149) 105 = .ok (.iconst 1, 1) := by decide +kernel
theorem e149_106 : decode (px_cd 149) 106 = .ok (.aload_n 0, 1) := by decide +kernel
theorem e149_107 : decode (px_cd 149) 107 = .ok (.bipush 24, 2) := by decide +kernel
theorem e149_109 : decode (px_cd 149) 109 = .ok (.invokevirtual 145, 3) := by decide +kernel
theorem e149_112 : decode (px_cd 149) 112 = .ok (.l2i, 1) := by decide +kernel
theorem e149_113 : decode (px_cd 149) 113 = .ok (.iastore, 1) := by decide +kernel
theorem e149_114 : decode (px_cd 149) 114 = .ok (.aload_n 0, 1) := by decide +kernel
theorem e149_115 : decode (px_cd 149) 115 = .ok (.getfield 32, 3) := by decide +kernel
theorem e149_118 : decode (px_cd 149) 118 = .ok (.iconst 1, 1) := by decide +kernel
theorem e149_119 : decode (px_cd 149) 119 = .ok (.iconst 1, 1) := by decide +kernel
theorem e149_120 : decode (px_cd 149) 120 = .ok (.iastore, 1) := by decide +kernel
theorem e149_121 : decode (px_cd 149) 121 = .ok (.iconst 0, 1) := by decide +kernel
theorem e149_122 : decode (px_cd 149) 122 = .ok (.istore_n 2, 1) := by decide +kernel
theorem e149_123 : decode (px_cd 149) 123 = .ok (.iload_n 2, 1) := by decide +kernel
theorem e149_124 : decode (px_cd 149) 124 = .ok (.iconst 3, 1) := by decide +kernel
theorem e149_125 : decode (px_cd 149) 125 = .ok (.if_icmp .ge 187, 3) := by decide +kernel
theorem e149_128 : decode (px_cd 149) 128 = .ok (.aload_n 0, 1) := by decide +kernel
theorem e149_129 : decode (px_cd 149) 129 = .ok (.getfield 42, 3) := by decide +kernel
theorem e149_132 : decode (px_cd 149) 132 = .ok (.iload_n 2, 1) := by decide +kernel
theorem e149_133 : decode (px_cd 149) 133 = .ok (.iaload, 1) := by decide +kernel
theorem e149_134 : decode (px_cd 149) 134 = .ok (.istore_n 3, 1) := by decide +kernel
theorem e149_135 : decode (px_cd 149) 135 = .ok (.aload_n 0, 1) := by decide +kernel
theorem e149_136 : decode (px_cd 149) 136 = .ok (.getfield 7, 3) := by decide +kernel
theorem e149_139 : decode (px_cd 149) 139 = .ok (.iconst 3, 1) := by decide +kernel
theorem e149_140 : decode (px_cd 149) 140 = .ok (.iload_n 2, 1) := by decide +kernel
theorem e149_141 : decode (px_cd 149) 141 = .ok (.iadd, 1) := by decide +kernel
theorem e149_142 : decode (px_cd 149) 142 = .ok (.iload_n 3, 1) := by decide +kernel
theorem e149_143 : decode (px_cd 149) 143 = .ok (.iconst (-1), 1) := by decide +kernel
theorem e149_144 : decode (px_cd 149) 144 = .ok (.if_icmp .eq 7, 3) := by decide +kernel
theorem e149_147 : decode (px_cd 149) 147 = .ok (.iconst 1, 1) := by decide +kernel
theorem e149_148 : decode (px_cd 149) 148 = .ok (.goto 4, 3) := by decide +kernel
theorem e149_151 : decode (px_cd 149) 151 = .ok (.iconst 0, 1) := by decide +kernel
theorem e149_152 : decode (px_cd 149) 152 = .ok (.bastore, 1) := by decide +kernel
theorem e149_153 : decode (px_cd 149) 153 = .ok (.iload_n 3, 1) := by decide +kernel
theorem e149_154 : decode (px_cd 149) 154 = .ok (.iconst (-1), 1) := by decide +kernel
theorem e149_155 : decode (px_cd 149) 155 = .ok (.if_icmp .ne 6, 3) := by decide +kernel
theorem e149_158 : decode (px_cd 149) 158 = .ok (.goto 148, 3) := by decide +kernel
theorem e149_161 : decode (px_cd 149) 161 = .ok (.aload_n 0, 1) := by decide +kernel
theorem e149_162 : decode (px_cd 149) 162 = .ok (.getfield 13, 3) := by decide +kernel
theorem e149_165 : decode (px_cd 149) 165 = .ok (.iconst 3, 1) := by decide +kernel
theorem e149_166 : decode (px_cd 149) 166 = .ok (.iload_n 2, 1) := by decide +kernel
theorem e149_167 : decode (px_cd 149) 167 = .ok (.iadd, 1) := by decide +kernel
theorem e149_168 : decode (px_cd 149) 168 = .ok (.aload_n 0, 1) := by decide +kernel
theorem e149_169 : decode (px_cd 149) 169 = .ok (.iload_n 3, 1) := by decide +kernel
theorem e149_170 : decode (px_cd 149) 170 = .ok (.iconst 2, 1) := by decide +kernel
theorem e149_171 : decode (px_cd 149) 171 = .ok (.invokevirtual 164, 3) := by decide +kernel
theorem e149_174 : decode (px_cd 149) 174 = .ok (.l2i, 1) := by decide +kernel
theorem e149_175 : decode (px_cd 149) 175 = .ok (.iastore, 1) := by decide +kernel
theorem e149_176 : decode (px_cd 149) 176 = .ok (.aload_n 0, 1) := by decide +kernel
theorem e149_177 : decode (px_cd 149) 177 = .ok (.getfield 20, 3) := by decide +kernel
theorem e149_180 : decode (px_cd 149) 180 = .ok (.iconst 3, 1) := by decide +kernel
theorem e149_181 : decode (px_cd 149) 181 = .ok (.iload_n 2, 1) := by decide +kernel
theorem e149_182 : decode (px_cd 149) 182 = .ok (.iadd, 1) := by decide +kernel
theorem e149_183 : decode (px_cd 149) 183 = .ok (.aload_n 0, 1) := by decide +kernel
theorem e149_184 : decode (px_cd 149) 184 = .ok (.iload_n 3, 1) := by decide +kernel
theorem e149_185 : decode (px_cd 149) 185 = .ok (.iconst 4, 1) := by decide +kernel
theorem e149_186 : decode (px_cd 149) 186 = .ok (.invokevirtual 164, 3) := by decide +kernel
theorem e149_189 : decode (px_cd 149) 189 = .ok (.l2i, 1) := by decide +kernel
theorem e149_190 : decode (px_cd 149) 190 = .ok (.iastore, 1) := by decide +kernel
theorem e149_191 : decode (px_cd 149) 191 = .ok (.aload_n 0, 1) := by decide +kernel
theorem e149_192 : decode (px_cd 149) 192 = .ok (.getfield 17, 3) := by decide +kernel
theorem e149_195 : decode (px_cd 149) 195 = .ok (.iconst 3, 1) := by decide +kernel
theorem e149_196 : decode (px_cd 149) 196 = .ok (.iload_n 2, 1) := by decide +kernel
theorem e149_197 : decode (px_cd 149) 197 = .ok (.iadd, 1) := by decide +kernel
theorem e149_198 : decode (px_cd 149) 198 = .ok (.aload_n 0, 1) := by decide +kernel
theorem e149_199 : decode (px_cd 149) 199 = .ok (.iload_n 3, 1) := by decide +kernel
theorem e149_200 : decode (px_cd 149) 200 = .ok (.iconst 5, 1) := by decide +kernel
theorem e149_201 : decode (px_cd 149) 201 = .ok (.invokevirtual 164, 3) := by decide +kernel
theorem e149_204 : decode (px_cd 149) 204 = .ok (.aload_n 0, 1) := by decide +kernel
theorem e149_205 : decode (px_cd 149) 205 = .ok (.iload_n 3, 1) := by decide +kernel
theorem e149_206 : decode (px_cd 149) 206 = .ok (.iconst 4, 1) := by decide +kernel
theorem e149_207 : decode (px_cd 149) 207 = .ok (.invokevirtual 164, 3) := by decide +kernel
theorem e149_210 : decode (px_cd 149) 210 = .ok (.lsub, 1) := by decide +kernel
theorem e149_211 : decode (px_cd 149) 211 = .ok (.l2i, 1) := by decide +kernel
theorem e149_212 : decode (px_cd 149) 212 = .ok (.iastore, 1) := by decide +kernel
theorem e149_213 : decode (px_cd 149) 213 = .ok (.iconst 0, 1) := by decide +kernel
theorem e149_214 : decode (px_cd 149) 214 = .ok (.istore 4, 2) := by decide +kernel
theorem e149_216 : decode (px_cd 149) 216 = .ok (.iload 4, 2) := by decide +kernel
theorem e149_218 : decode (px_cd 149) 218 = .ok (.aload_n 0, 1) := by decide +kernel
theorem e149_219 : decode (px_cd 149) 219 = .ok (.getfield 20, 3) := by decide +kernel
theorem e149_222 : decode (px_cd 149) 222 = .ok (.iconst 3, 1) := by decide +kernel
theorem e149_223 : decode (px_cd 149) 223 = .ok (.iload_n 2, 1) := by decide +kernel
theorem e149_224 : decode (px_cd 149) 224 = .ok (.iadd, 1) := by decide +kernel
theorem e149_225 : decode (px_cd 149) 225 = .ok (.iaload, 1) := by decide +kernel
theorem e149_226 : decode (px_cd 149) 226 = .ok (.if_icmp .ge 39, 3) := by decide +kernel
theorem e149_229 : decode (px_cd 149) 229 = .ok (.aload_n 0, 1) := by decide +kernel
theorem e149_230 : decode (px_cd 149) 230 = .ok (.getfield 23, 3) := by decide +kernel
theorem e149_233 : decode (px_cd 149) 233 = .ok (.sipush 4096, 3) := by decide +kernel
theorem e149_236 : decode (px_cd 149) 236 = .ok (.iconst 3, 1) := by decide +kernel
theorem e149_237 : decode (px_cd 149) 237 = .ok (.iload_n 2, 1) := by decide +kernel
theorem e149_238 : decode (px_cd 149) 238 = .ok (.iadd, 1) := by decide +kernel
theorem e149_239 : decode (px_cd 149) 239 = .ok (.imul, 1) := by decide +kernel
theorem e149_240 : decode (px_cd 149) 240 = .ok (.iload 4, 2) := by decide +kernel
theorem e149_242 : decode (px_cd 149) 242 = .ok (.iadd, 1) := by decide +kernel
theorem e149_243 : decode (px_cd 149) 243 = .ok (.aload_n 0, 1) := by decide +kernel
theorem e149_244 : decode (px_cd 149) 244 = .ok (.getfield 35, 3) := by decide +kernel
theorem e149_247 : decode (px_cd 149) 247 = .ok (.aload_n 0, 1) := by decide +kernel
theorem e149_248 : decode (px_cd 149) 248 = .ok (.iload_n 3, 1) := by decide +kernel
theorem e149_249 : decode (px_cd 149) 249 = .ok (.iconst 1, 1) := by decide +kernel
theorem e149_250 : decode (px_cd 149) 250 = .ok (.invokevirtual 164, 3) := by decide +kernel
theorem e149_253 : decode (px_cd 149) 253 = .ok (.l2i, 1) := by decide +kernel
theorem e149_254 : decode (px_cd 149) 254 = .ok (.iload 4, 2) := by decide +kernel
theorem e149_256 : decode (px_cd 149) 256 = .ok (.iadd, 1) := by decide +kernel
theorem e149_257 : decode (px_cd 149) 257 = .ok (.iaload, 1) := by decide +kernel
theorem e149_258 : decode (px_cd 149) 258 = .ok (.iastore, 1) := by decide +kernel
theorem e149_259 : decode (px_cd 149) 259 = .ok (.iinc 4 1, 3) := by decide +kernel
theorem e149_262 : decode (px_cd 149) 262 = .ok (.goto (-46), 3) := by decide +kernel
theorem e149_265 : decode (px_cd 149) 265 = .ok (.aload_n 0, 1) := by decide +kernel
theorem e149_266 : decode (px_cd 149) 266 = .ok (.getfield 32, 3) := by decide +kernel
theorem e149_269 : decode (px_cd 149) 269 = .ok (.iconst 1, 1) := by decide +kernel
theorem e149_270 : decode (px_cd 149) 270 = .ok (.aload_n 0, 1) := by decide +kernel
theorem e149_271 : decode (px_cd 149) 271 = .ok (.iload_n 3, 1) := by decide +kernel
theorem e149_272 : decode (px_cd 149) 272 = .ok (.bipush 7, 2) := by decide +kernel
theorem e149_274 : decode (px_cd 149) 274 = .ok (.invokevirtual 164, 3) := by decide +kernel
theorem e149_277 : decode (px_cd 149) 277 = .ok (.aload_n 0, 1) := by decide +kernel
theorem e149_278 : decode (px_cd 149) 278 = .ok (.getfield 32, 3) := by decide +kernel
theorem e149_281 : decode (px_cd 149) 281 = .ok (.iconst 1, 1) := by decide +kernel
theorem e149_282 : decode (px_cd 149) 282 = .ok (.iaload, 1) := by decide +kernel
theorem e149_283 : decode (px_cd 149) 283 = .ok (.i2l, 1) := by decide +kernel
theorem e149_284 : decode (px_cd 149) 284 = .ok (.lcmp, 1) := by decide +kernel
theorem e149_285 : decode (px_cd 149) 285 = .ok (.ifCond .le 14, 3) := by decide +kernel
theorem e149_288 : decode (px_cd 149) 288 = .ok (.aload_n 0, 1) := by decide +kernel
theorem e149_289 : decode (px_cd 149) 289 = .ok (.iload_n 3, 1) := by decide +kernel
theorem e149_290 : decode (px_cd 149) 290 = .ok (.bipush 7, 2) := by decide +kernel
theorem e149_292 : decode (px_cd 149) 292 = .ok (.invokevirtual 164, 3) := by decide +kernel
theorem e149_295 : decode (px_cd 149) 295 = .ok (.l2i, 1) := by decide +kernel
theorem e149_296 : decode (px_cd 149) 296 = .ok (.goto 9, 3) := by decide +kernel
theorem e149_299 : decode (px_cd 149) 299 = .ok (.aload_n 0, 1) := by decide +kernel
theorem e149_300 : decode (px_cd 149) 300 = .ok (.getfield 32, 3) := by decide +kernel
theorem e149_303 : decode (px_cd 149) 303 = .ok (.iconst 1, 1) := by decide +kernel
theorem e149_304 : decode (px_cd 149) 304 = .ok (.iaload, 1) := by decide +kernel
theorem e149_305 : decode (px_cd 149) 305 = .ok (.iastore, 1) := by decide +kernel
theorem e149_306 : decode (px_cd 149) 306 = .ok (.iinc 2 1, 3) := by decide +kernel
theorem e149_309 : decode (px_cd 149) 309 = .ok (.goto (-186), 3) := by decide +kernel
theorem e149_312 : decode (px_cd 149) 312 = .ok (.iconst 0, 1) := by decide +kernel
theorem e149_313 : decode (px_cd 149) 313 = .ok (.istore_n 2, 1) := by decide +kernel
theorem e149_314 : decode (px_cd 149) 314 = .ok (.iload_n 2, 1) := by decide +kernel
theorem e149_315 : decode (px_cd 149) 315 = .ok (.sipush 4096, 3) := by decide +kernel
theorem e149_318 : decode (px_cd 149) 318 = .ok (.if_icmp .ge 44, 3) := by decide +kernel
theorem e149_321 : decode (px_cd 149) 321 = .ok (.aload_n 0, 1) := by decide +kernel
theorem e149_322 : decode (px_cd 149) 322 = .ok (.getfield 26, 3) := by decide +kernel
theorem e149_325 : decode (px_cd 149) 325 = .ok (.sipush 2048, 3) := by decide +kernel
theorem e149_328 : decode (px_cd 149) 328 = .ok (.iload_n 2, 1) := by decide +kernel
theorem e149_329 : decode (px_cd 149) 329 = .ok (.iconst 2, 1) := by decide +kernel
theorem e149_330 : decode (px_cd 149) 330 = .ok (.idiv, 1) := by decide +kernel
theorem e149_331 : decode (px_cd 149) 331 = .ok (.iadd, 1) := by decide +kernel
theorem e149_332 : decode (px_cd 149) 332 = .ok (.iload_n 2, 1) := by decide +kernel
theorem e149_333 : decode (px_cd 149) 333 = .ok (.aload_n 0, 1) := by decide +kernel
theorem e149_334 : decode (px_cd 149) 334 = .ok (.getfield 20, 3) := by decide +kernel
theorem e149_337 : decode (px_cd 149) 337 = .ok (.iconst 3, 1) := by decide +kernel
theorem e149_338 : decode (px_cd 149) 338 = .ok (.iaload, 1) := by decide +kernel
theorem e149_339 : decode (px_cd 149) 339 = .ok (.if_icmp .ge 15, 3) := by decide +kernel
theorem e149_342 : decode (px_cd 149) 342 = .ok (.aload_n 0, 1) := by decide +kernel
theorem e149_343 : decode (px_cd 149) 343 = .ok (.iload_n 2, 1) := by decide +kernel
theorem e149_344 : decode (px_cd 149) 344 = .ok (.invokevirtual 199, 3) := by decide +kernel
theorem e149_347 : decode (px_cd 149) 347 = .ok (.ifCond .eq 7, 3) := by decide +kernel
theorem e149_350 : decode (px_cd 149) 350 = .ok (.iconst 1, 1) := by decide +kernel
theorem e149_351 : decode (px_cd 149) 351 = .ok (.goto 4, 3) := by decide +kernel
theorem e149_354 : decode (px_cd 149) 354 = .ok (.iconst 0, 1) := by decide +kernel
theorem e149_355 : decode (px_cd 149) 355 = .ok (.bastore, 1) := by decide +kernel
theorem e149_356 : decode (px_cd 149) 356 = .ok (.iinc 2 2, 3) := by decide +kernel
theorem e149_359 : decode (px_cd 149) 359 = .ok (.goto (-45), 3) := by decide +kernel
theorem e149_362 : decode (px_cd 149) 362 = .ok (.iconst 0, 1) := by decide +kernel
theorem e149_363 : decode (px_cd 149) 363 = .ok (.ireturn, 1) := by decide +kernel
-- 150 ImageFileModel_headFault
theorem e150_0 : decode (px_cd 150) 0 = .ok (.aload_n 0, 1) := by decide +kernel
theorem e150_1 : decode (px_cd 150) 1 = .ok (.getfield 118, 3) := by decide +kernel
theorem e150_4 : decode (px_cd 150) 4 = .ok (.bipush 52, 2) := by decide +kernel
theorem e150_6 : decode (px_cd 150) 6 = .ok (.if_icmp .ge 13, 3) := by decide +kernel
theorem e150_9 : decode (px_cd 150) 9 = .ok (.aload_n 0, 1) := by decide +kernel
theorem e150_10 : decode (px_cd 150) 10 = .ok (.iconst 1, 1) := by decide +kernel
theorem e150_11 : decode (px_cd 150) 11 = .ok (.aload_n 0, 1) := by decide +kernel
theorem e150_12 : decode (px_cd 150) 12 = .ok (.getfield 118, 3) := by decide +kernel
theorem e150_15 : decode (px_cd 150) 15 = .ok (.invokevirtual 142, 3) := by decide +kernel
theorem e150_18 : decode (px_cd 150) 18 = .ok (.ireturn, 1) := by decide +kernel
theorem e150_19 : decode (px_cd 150) 19 = .ok (.aload_n 0, 1) := by decide +kernel
theorem e150_20 : decode (px_cd 150) 20 = .ok (.getfield 35, 3) := by decide +kernel
theorem e150_23 : decode (px_cd 150) 23 = .ok (.iconst 0, 1) := by decide +kernel
theorem e150_24 : decode (px_cd 150) 24 = .ok (.iaload, 1) := by decide +kernel
theorem e150_25 : decode (px_cd 150) 25 = .ok (.bipush 127, 2) := by decide +kernel
theorem e150_27 : decode (px_cd 150) 27 = .ok (.if_icmp .eq 10, 3) := by decide +kernel
theorem e150_30 : decode (px_cd 150) 30 = .ok (.aload_n 0, 1) := by decide +kernel
theorem e150_31 : decode (px_cd 150) 31 = .ok (.iconst 2, 1) := by decide +kernel
theorem e150_32 : decode (px_cd 150) 32 = .ok (.iconst 0, 1) := by decide +kernel
theorem e150_33 : decode (px_cd 150) 33 = .ok (.invokevirtual 142, 3) := by decide +kernel
theorem e150_36 : decode (px_cd 150) 36 = .ok (.ireturn, 1) := by decide +kernel
theorem e150_37 : decode (px_cd 150) 37 = .ok (.aload_n 0, 1) := by decide +kernel
theorem e150_38 : decode (px_cd 150) 38 = .ok (.getfield 35, 3) := by decide +kernel
theorem e150_41 : decode (px_cd 150) 41 = .ok (.iconst 1, 1) := by decide +kernel
theorem e150_42 : decode (px_cd 150) 42 = .ok (.iaload, 1) := by decide +kernel
theorem e150_43 : decode (px_cd 150) 43 = .ok (.bipush 69, 2) := by decide +kernel
theorem e150_45 : decode (px_cd 150) 45 = .ok (.if_icmp .eq 10, 3) := by decide +kernel
theorem e150_48 : decode (px_cd 150) 48 = .ok (.aload_n 0, 1) := by decide +kernel
theorem e150_49 : decode (px_cd 150) 49 = .ok (.iconst 2, 1) := by decide +kernel
theorem e150_50 : decode (px_cd 150) 50 = .ok (.iconst 1, 1) := by decide +kernel
theorem e150_51 : decode (px_cd 150) 51 = .ok (.invokevirtual 142, 3) := by decide +kernel
theorem e150_54 : decode (px_cd 150) 54 = .ok (.ireturn, 1) := by decide +kernel
theorem e150_55 : decode (px_cd 150) 55 = .ok (.aload_n 0, 1) := by decide +kernel
theorem e150_56 : decode (px_cd 150) 56 = .ok (.getfield 35, 3) := by decide +kernel
theorem e150_59 : decode (px_cd 150) 59 = .ok (.iconst 2, 1) := by decide +kernel
theorem e150_60 : decode (px_cd 150) 60 = .ok (.iaload, 1) := by decide +kernel
theorem e150_61 : decode (px_cd 150) 61 = .ok (.bipush 76, 2) := by decide +kernel
theorem e150_63 : decode (px_cd 150) 63 = .ok (.if_icmp .eq 10, 3) := by decide +kernel
theorem e150_66 : decode (px_cd 150) 66 = .ok (.aload_n 0, 1) := by decide +kernel
theorem e150_67 : decode (px_cd 150) 67 = .ok (.iconst 2, 1) := by decide +kernel
theorem e150_68 : decode (px_cd 150) 68 = .ok (.iconst 2, 1) := by decide +kernel
theorem e150_69 : decode (px_cd 150) 69 = .ok (.invokevirtual 142, 3) := by decide +kernel
theorem e150_72 : decode (px_cd 150) 72 = .ok (.ireturn, 1) := by decide +kernel
theorem e150_73 : decode (px_cd 150) 73 = .ok (.aload_n 0, 1) := by decide +kernel
theorem e150_74 : decode (px_cd 150) 74 = .ok (.getfield 35, 3) := by decide +kernel
theorem e150_77 : decode (px_cd 150) 77 = .ok (.iconst 3, 1) := by decide +kernel
theorem e150_78 : decode (px_cd 150) 78 = .ok (.iaload, 1) := by decide +kernel
theorem e150_79 : decode (px_cd 150) 79 = .ok (.bipush 70, 2) := by decide +kernel
theorem e150_81 : decode (px_cd 150) 81 = .ok (.if_icmp .eq 10, 3) := by decide +kernel
theorem e150_84 : decode (px_cd 150) 84 = .ok (.aload_n 0, 1) := by decide +kernel
theorem e150_85 : decode (px_cd 150) 85 = .ok (.iconst 2, 1) := by decide +kernel
theorem e150_86 : decode (px_cd 150) 86 = .ok (.iconst 3, 1) := by decide +kernel
theorem e150_87 : decode (px_cd 150) 87 = .ok (.invokevirtual 142, 3) := by decide +kernel
theorem e150_90 : decode (px_cd 150) 90 = .ok (.ireturn, 1) := by decide +kernel
theorem e150_91 : decode (px_cd 150) 91 = .ok (.iconst 4, 1) := by decide +kernel
theorem e150_92 : decode (px_cd 150) 92 = .ok (.istore_n 1, 1) := by decide +kernel
theorem e150_93 : decode (px_cd 150) 93 = .ok (.iload_n 1, 1) := by decide +kernel
theorem e150_94 : decode (px_cd 150) 94 = .ok (.bipush 7, 2) := by decide +kernel
theorem e150_96 : decode (px_cd 150) 96 = .ok (.if_icmp .ge 28, 3) := by decide +kernel
theorem e150_99 : decode (px_cd 150) 99 = .ok (.aload_n 0, 1) := by decide +kernel
theorem e150_100 : decode (px_cd 150) 100 = .ok (.getfield 35, 3) := by decide +kernel
theorem e150_103 : decode (px_cd 150) 103 = .ok (.iload_n 1, 1) := by decide +kernel
theorem e150_104 : decode (px_cd 150) 104 = .ok (.iaload, 1) := by decide +kernel
theorem e150_105 : decode (px_cd 150) 105 = .ok (.iconst 1, 1) := by decide +kernel
theorem e150_106 : decode (px_cd 150) 106 = .ok (.if_icmp .eq 12, 3) := by decide +kernel
theorem e150_109 : decode (px_cd 150) 109 = .ok (.aload_n 0, 1) := by decide +kernel
theorem e150_110 : decode (px_cd 150) 110 = .ok (.iload_n 1, 1) := by decide +kernel
theorem e150_111 : decode (px_cd 150) 111 = .ok (.iconst 1, 1) := by decide +kernel
theorem e150_112 : decode (px_cd 150) 112 = .ok (.isub, 1) := by decide +kernel
theorem e150_113 : decode (px_cd 150) 113 = .ok (.iload_n 1, 1) := by decide +kernel
theorem e150_114 : decode (px_cd 150) 114 = .ok (.invokevirtual 142, 3) := by decide +kernel
theorem e150_117 : decode (px_cd 150) 117 = .ok (.ireturn, 1) := by decide +kernel
theorem e150_118 : decode (px_cd 150) 118 = .ok (.iinc 1 1, 3) := by decide +kernel
theorem e150_121 : decode (px_cd 150) 121 = .ok (.goto (-28), 3) := by decide +kernel
theorem e150_124 : decode (px_cd 150) 124 = .ok (.bipush 7, 2) := by decide +kernel
theorem e150_126 : decode (px_cd 150) 126 = .ok (.istore_n 1, 1) := by decide +kernel
theorem e150_127 : decode (px_cd 150) 127 = .ok (.iload_n 1, 1) := by decide +kernel
theorem e150_128 : decode (px_cd 150) 128 = .ok (.bipush 16, 2) := by decide +kernel
theorem e150_130 : decode (px_cd 150) 130 = .ok (.if_icmp .ge 26, 3) := by decide +kernel
theorem e150_133 : decode (px_cd 150) 133 = .ok (.aload_n 0, 1) := by decide +kernel
theorem e150_134 : decode (px_cd 150) 134 = .ok (.getfield 35, 3) := by decide +kernel
theorem e150_137 : decode (px_cd 150) 137 = .ok (.iload_n 1, 1) := by decide +kernel
theorem e150_138 : decode (px_cd 150) 138 = .ok (.iaload, 1) := by decide +kernel
theorem e150_139 : decode (px_cd 150) 139 = .ok (.ifCond .eq 11, 3) := by decide +kernel
theorem e150_142 : decode (px_cd 150) 142 = .ok (.aload_n 0, 1) := by decide +kernel
theorem e150_143 : decode (px_cd 150) 143 = .ok (.bipush 6, 2) := by decide +kernel
theorem e150_145 : decode (px_cd 150) 145 = .ok (.iload_n 1, 1) := by decide +kernel
theorem e150_146 : decode (px_cd 150) 146 = .ok (.invokevirtual 142, 3) := by decide +kernel
theorem e150_149 : decode (px_cd 150) 149 = .ok (.ireturn, 1) := by decide +kernel
theorem e150_150 : decode (px_cd 150) 150 = .ok (.iinc 1 1, 3) := by decide +kernel
theorem e150_153 : decode (px_cd 150) 153 = .ok (.goto (-26), 3) := by decide +kernel
theorem e150_156 : decode (px_cd 150) 156 = .ok (.aload_n 0, 1) := by decide +kernel
theorem e150_157 : decode (px_cd 150) 157 = .ok (.bipush 16, 2) := by decide +kernel
theorem e150_159 : decode (px_cd 150) 159 = .ok (.invokevirtual 137, 3) := by decide +kernel
theorem e150_162 : decode (px_cd 150) 162 = .ok (.iconst 2, 1) := by decide +kernel
theorem e150_163 : decode (px_cd 150) 163 = .ok (.if_icmp .eq 12, 3) := by decide +kernel
theorem e150_166 : decode (px_cd 150) 166 = .ok (.aload_n 0, 1) := by decide +kernel
theorem e150_167 : decode (px_cd 150) 167 = .ok (.bipush 7, 2) := by decide +kernel
theorem e150_169 : decode (px_cd 150) 169 = .ok (.bipush 16, 2) := by decide +kernel
theorem e150_171 : decode (px_cd 150) 171 = .ok (.invokevirtual 142, 3) := by decide +kernel
theorem e150_174 : decode (px_cd 150) 174 = .ok (.ireturn, 1) := by decide +kernel
theorem e150_175 : decode (px_cd 150) 175 = .ok (.aload_n 0, 1) := by decide +kernel
theorem e150_176 : decode (px_cd 150) 176 = .ok (.bipush 18, 2) := by decide +kernel
theorem e150_178 : decode (px_cd 150) 178 = .ok (.invokevirtual 137, 3) := by decide +kernel
theorem e150_181 : decode (px_cd 150) 181 = .ok (.sipush 243, 3) := by decide +kernel
theorem e150_184 : decode (px_cd 150) 184 = .ok (.if_icmp .eq 12, 3) := by decide +kernel
theorem e150_187 : decode (px_cd 150) 187 = .ok (.aload_n 0, 1) := by decide +kernel
theorem e150_188 : decode (px_cd 150) 188 = .ok (.bipush 8, 2) := by decide +kernel
theorem e150_190 : decode (px_cd 150) 190 = .ok (.bipush 18, 2) := by decide +kernel
theorem e150_192 : decode (px_cd 150) 192 = .ok (.invokevirtual 142, 3) := by decide +kernel
theorem e150_195 : decode (px_cd 150) 195 = .ok (.ireturn, 1) := by decide +kernel
theorem e150_196 : decode (px_cd 150) 196 = .ok (.aload_n 0, 1) := by decide +kernel
theorem e150_197 : decode (px_cd 150) 197 = .ok (.bipush 20, 2) := by decide +kernel
theorem e150_199 : decode (px_cd 150) 199 = .ok (.invokevirtual 145, 3) := by decide +kernel
theorem e150_202 : decode (px_cd 150) 202 = .ok (.lconst 1, 1) := by decide +kernel
theorem e150_203 : decode (px_cd 150) 203 = .ok (.lcmp, 1) := by decide +kernel
theorem e150_204 : decode (px_cd 150) 204 = .ok (.ifCond .eq 12, 3) := by decide +kernel
theorem e150_207 : decode (px_cd 150) 207 = .ok (.aload_n 0, 1) := by decide +kernel
theorem e150_208 : decode (px_cd 150) 208 = .ok (.bipush 9, 2) := by decide +kernel
theorem e150_210 : decode (px_cd 150) 210 = .ok (.bipush 20, 2) := by decide +kernel
theorem e150_212 : decode (px_cd 150) 212 = .ok (.invokevirtual 142, 3) := by decide +kernel
theorem e150_215 : decode (px_cd 150) 215 = .ok (.ireturn, 1) := by decide +kernel
theorem e150_216 : decode (px_cd 150) 216 = .ok (.aload_n 0, 1) := by decide +kernel
theorem e150_217 : decode (px_cd 150) 217 = .ok (.bipush 28, 2) := by decide +kernel
theorem e150_219 : decode (px_cd 150) 219 = .ok (.invokevirtual 145, 3) := by decide +kernel
theorem e150_222 : decode (px_cd 150) 222 = .ok (.lstore_n 1, 1) := by decide +kernel
theorem e150_223 : decode (px_cd 150) 223 = .ok (.lload_n 1, 1) := by decide +kernel
theorem e150_224 : decode (px_cd 150) 224 = .ok (.ldc2_w 149, 3) := by decide +kernel
theorem e150_227 : decode (px_cd 150) 227 = .ok (.lrem, 1) := by decide +kernel
theorem e150_228 : decode (px_cd 150) 228 = .ok (.lconst 0, 1) := by decide +kernel
theorem e150_229 : decode (px_cd 150) 229 = .ok (.lcmp, 1) := by decide +kernel
theorem e150_230 : decode (px_cd 150) 230 = .ok (.ifCond .ne 11, 3) := by decide +kernel
theorem e150_233 : decode (px_cd 150) 233 = .ok (.lload_n 1, 1) := by decide +kernel
theorem e150_234 : decode (px_cd 150) 234 = .ok (.ldc2_w 151, 3) := by decide +kernel
theorem e150_237 : decode (px_cd 150) 237 = .ok (.lcmp, 1) := by decide +kernel
theorem e150_238 : decode (px_cd 150) 238 = .ok (.ifCond .ge 12, 3) := by decide +kernel
theorem e150_241 : decode (px_cd 150) 241 = .ok (.aload_n 0, 1) := by decide +kernel
theorem e150_242 : decode (px_cd 150) 242 = .ok (.bipush 9, 2) := by decide +kernel
theorem e150_244 : decode (px_cd 150) 244 = .ok (.bipush 28, 2) := by decide +kernel
theorem e150_246 : decode (px_cd 150) 246 = .ok (.invokevirtual 142, 3) := by decide +kernel
theorem e150_249 : decode (px_cd 150) 249 = .ok (.ireturn, 1) := by decide +kernel
theorem e150_250 : decode (px_cd 150) 250 = .ok (.aload_n 0, 1) := by decide +kernel
theorem e150_251 : decode (px_cd 150) 251 = .ok (.bipush 32, 2) := by decide +kernel
theorem e150_253 : decode (px_cd 150) 253 = .ok (.invokevirtual 145, 3) := by decide +kernel
theorem e150_256 : decode (px_cd 150) 256 = .ok (.lconst 0, 1) := by decide +kernel
theorem e150_257 : decode (px_cd 150) 257 = .ok (.lcmp, 1) := by decide +kernel
theorem e150_258 : decode (px_cd 150) 258 = .ok (.ifCond .eq 12, 3) := by decide +kernel
theorem e150_261 : decode (px_cd 150) 261 = .ok (.aload_n 0, 1) := by decide +kernel
theorem e150_262 : decode (px_cd 150) 262 = .ok (.bipush 9, 2) := by decide +kernel
theorem e150_264 : decode (px_cd 150) 264 = .ok (.bipush 32, 2) := by decide +kernel
theorem e150_266 : decode (px_cd 150) 266 = .ok (.invokevirtual 142, 3) := by decide +kernel
theorem e150_269 : decode (px_cd 150) 269 = .ok (.ireturn, 1) := by decide +kernel
theorem e150_270 : decode (px_cd 150) 270 = .ok (.aload_n 0, 1) := by decide +kernel
theorem e150_271 : decode (px_cd 150) 271 = .ok (.bipush 36, 2) := by decide +kernel
theorem e150_273 : decode (px_cd 150) 273 = .ok (.invokevirtual 145, 3) := by decide +kernel
theorem e150_276 : decode (px_cd 150) 276 = .ok (.lconst 1, 1) := by decide +kernel
theorem e150_277 : decode (px_cd 150) 277 = .ok (.lcmp, 1) := by decide +kernel
theorem e150_278 : decode (px_cd 150) 278 = .ok (.ifCond .le 12, 3) := by decide +kernel
theorem e150_281 : decode (px_cd 150) 281 = .ok (.aload_n 0, 1) := by decide +kernel
theorem e150_282 : decode (px_cd 150) 282 = .ok (.bipush 9, 2) := by decide +kernel
theorem e150_284 : decode (px_cd 150) 284 = .ok (.bipush 36, 2) := by decide +kernel
theorem e150_286 : decode (px_cd 150) 286 = .ok (.invokevirtual 142, 3) := by decide +kernel
theorem e150_289 : decode (px_cd 150) 289 = .ok (.ireturn, 1) := by decide +kernel
theorem e150_290 : decode (px_cd 150) 290 = .ok (.aload_n 0, 1) := by decide +kernel
theorem e150_291 : decode (px_cd 150) 291 = .ok (.bipush 40, 2) := by decide +kernel
theorem e150_293 : decode (px_cd 150) 293 = .ok (.invokevirtual 137, 3) := by decide +kernel
theorem e150_296 : decode (px_cd 150) 296 = .ok (.bipush 52, 2) := by decide +kernel
theorem e150_298 : decode (px_cd 150) 298 = .ok (.if_icmp .eq 12, 3) := by decide +kernel
theorem e150_301 : decode (px_cd 150) 301 = .ok (.aload_n 0, 1) := by decide +kernel
theorem e150_302 : decode (px_cd 150) 302 = .ok (.bipush 9, 2) := by decide +kernel
theorem e150_304 : decode (px_cd 150) 304 = .ok (.bipush 40, 2) := by decide +kernel
theorem e150_306 : decode (px_cd 150) 306 = .ok (.invokevirtual 142, 3) := by decide +kernel
theorem e150_309 : decode (px_cd 150) 309 = .ok (.ireturn, 1) := by decide +kernel
theorem e150_310 : decode (px_cd 150) 310 = .ok (.aload_n 0, 1) := by decide +kernel
theorem e150_311 : decode (px_cd 150) 311 = .ok (.bipush 42, 2) := by decide +kernel
theorem e150_313 : decode (px_cd 150) 313 = .ok (.invokevirtual 137, 3) := by decide +kernel
theorem e150_316 : decode (px_cd 150) 316 = .ok (.bipush 32, 2) := by decide +kernel
theorem e150_318 : decode (px_cd 150) 318 = .ok (.if_icmp .eq 12, 3) := by decide +kernel
theorem e150_321 : decode (px_cd 150) 321 = .ok (.aload_n 0, 1) := by decide +kernel
theorem e150_322 : decode (px_cd 150) 322 = .ok (.bipush 9, 2) := by decide +kernel
theorem e150_324 : decode (px_cd 150) 324 = .ok (.bipush 42, 2) := by decide +kernel
theorem e150_326 : decode (px_cd 150) 326 = .ok (.invokevirtual 142, 3) := by decide +kernel
theorem e150_329 : decode (px_cd 150) 329 = .ok (.ireturn, 1) := by decide +kernel
theorem e150_330 : decode (px_cd 150) 330 = .ok (.aload_n 0, 1) := by decide +kernel
theorem e150_331 : decode (px_cd 150) 331 = .ok (.aload_n 0, 1) := by decide +kernel
theorem e150_332 : decode (px_cd 150) 332 = .ok (.bipush 44, 2) := by decide +kernel
theorem e150_334 : decode (px_cd 150) 334 = .ok (.invokevirtual 137, 3) := by decide +kernel
theorem e150_337 : decode (px_cd 150) 337 = .ok (.putfield 153, 3) := by decide +kernel
theorem e150_340 : decode (px_cd 150) 340 = .ok (.aload_n 0, 1) := by decide +kernel
theorem e150_341 : decode (px_cd 150) 341 = .ok (.getfield 153, 3) := by decide +kernel
theorem e150_344 : decode (px_cd 150) 344 = .ok (.iconst 1, 1) := by decide +kernel
theorem e150_345 : decode (px_cd 150) 345 = .ok (.if_icmp .lt 12, 3) := by decide +kernel
theorem e150_348 : decode (px_cd 150) 348 = .ok (.aload_n 0, 1) := by decide +kernel
theorem e150_349 : decode (px_cd 150) 349 = .ok (.getfield 153, 3) := by decide +kernel
theorem e150_352 : decode (px_cd 150) 352 = .ok (.bipush 8, 2) := by decide +kernel
theorem e150_354 : decode (px_cd 150) 354 = .ok (.if_icmp .le 12, 3) := by decide +kernel
theorem e150_357 : decode (px_cd 150) 357 = .ok (.aload_n 0, 1) := by decide +kernel
theorem e150_358 : decode (px_cd 150) 358 = .ok (.bipush 9, 2) := by decide +kernel
theorem e150_360 : decode (px_cd 150) 360 = .ok (.bipush 44, 2) := by decide +kernel
theorem e150_362 : decode (px_cd 150) 362 = .ok (.invokevirtual 142, 3) := by decide +kernel
theorem e150_365 : decode (px_cd 150) 365 = .ok (.ireturn, 1) := by decide +kernel
theorem e150_366 : decode (px_cd 150) 366 = .ok (.bipush 46, 2) := by decide +kernel
theorem e150_368 : decode (px_cd 150) 368 = .ok (.istore_n 3, 1) := by decide +kernel
theorem e150_369 : decode (px_cd 150) 369 = .ok (.iload_n 3, 1) := by decide +kernel
theorem e150_370 : decode (px_cd 150) 370 = .ok (.bipush 52, 2) := by decide +kernel
theorem e150_372 : decode (px_cd 150) 372 = .ok (.if_icmp .ge 25, 3) := by decide +kernel
theorem e150_375 : decode (px_cd 150) 375 = .ok (.aload_n 0, 1) := by decide +kernel
theorem e150_376 : decode (px_cd 150) 376 = .ok (.iload_n 3, 1) := by decide +kernel
theorem e150_377 : decode (px_cd 150) 377 = .ok (.invokevirtual 137, 3) := by decide +kernel
theorem e150_380 : decode (px_cd 150) 380 = .ok (.ifCond .eq 11, 3) := by decide +kernel
theorem e150_383 : decode (px_cd 150) 383 = .ok (.aload_n 0, 1) := by decide +kernel
theorem e150_384 : decode (px_cd 150) 384 = .ok (.bipush 9, 2) := by decide +kernel
theorem e150_386 : decode (px_cd 150) 386 = .ok (.iload_n 3, 1) := by decide +kernel
theorem e150_387 : decode (px_cd 150) 387 = .ok (.invokevirtual 142, 3) := by decide +kernel
theorem e150_390 : decode (px_cd 150) 390 = .ok (.ireturn, 1) := by decide +kernel
theorem e150_391 : decode (px_cd 150) 391 = .ok (.iinc 3 2, 3) := by decide +kernel
theorem e150_394 : decode (px_cd 150) 394 = .ok (.goto (-25), 3) := by decide +kernel
theorem e150_397 : decode (px_cd 150) 397 = .ok (.lload_n 1, 1) := by decide +kernel
theorem e150_398 : decode (px_cd 150) 398 = .ok (.ldc2_w 156, 3) := by decide +kernel
theorem e150_401 : decode (px_cd 150) 401 = .ok (.aload_n 0, 1) := by decide +kernel
theorem e150_402 : decode (px_cd 150) 402 = .ok (.getfield 153, 3) := by decide +kernel
theorem e150_405 : decode (px_cd 150) 405 = .ok (.i2l, 1) := by decide +kernel
theorem e150_406 : decode (px_cd 150) 406 = .ok (.lmul, 1) := by decide +kernel
theorem e150_407 : decode (px_cd 150) 407 = .ok (.ladd, 1) := by decide +kernel
theorem e150_408 : decode (px_cd 150) 408 = .ok (.aload_n 0, 1) := by decide +kernel
theorem e150_409 : decode (px_cd 150) 409 = .ok (.getfield 118, 3) := by decide +kernel
theorem e150_412 : decode (px_cd 150) 412 = .ok (.i2l, 1) := by decide +kernel
theorem e150_413 : decode (px_cd 150) 413 = .ok (.lcmp, 1) := by decide +kernel
theorem e150_414 : decode (px_cd 150) 414 = .ok (.ifCond .le 12, 3) := by decide +kernel
theorem e150_417 : decode (px_cd 150) 417 = .ok (.aload_n 0, 1) := by decide +kernel
theorem e150_418 : decode (px_cd 150) 418 = .ok (.bipush 10, 2) := by decide +kernel
theorem e150_420 : decode (px_cd 150) 420 = .ok (.bipush 28, 2) := by decide +kernel
theorem e150_422 : decode (px_cd 150) 422 = .ok (.invokevirtual 142, 3) := by decide +kernel
theorem e150_425 : decode (px_cd 150) 425 = .ok (.ireturn, 1) := by decide +kernel
theorem e150_426 : decode (px_cd 150) 426 = .ok (.aload_n 0, 1) := by decide +kernel
theorem e150_427 : decode (px_cd 150) 427 = .ok (.lload_n 1, 1) := by decide +kernel
theorem e150_428 : decode (px_cd 150) 428 = .ok (.l2i, 1) := by decide +kernel
theorem e150_429 : decode (px_cd 150) 429 = .ok (.putfield 158, 3) := by decide +kernel
theorem e150_432 : decode (px_cd 150) 432 = .ok (.iconst 0, 1) := by decide +kernel
theorem e150_433 : decode (px_cd 150) 433 = .ok (.ireturn, 1) := by decide +kernel
-- 151 ImageFileModel_fault
theorem e151_0 : decode (px_cd 151) 0 = .ok (.aload_n 0, 1) := by decide +kernel
theorem e151_1 : decode (px_cd 151) 1 = .ok (.iload_n 2, 1) := by decide +kernel
theorem e151_2 : decode (px_cd 151) 2 = .ok (.putfield 38, 3) := by decide +kernel
theorem e151_5 : decode (px_cd 151) 5 = .ok (.iload_n 1, 1) := by decide +kernel
theorem e151_6 : decode (px_cd 151) 6 = .ok (.ireturn, 1) := by decide +kernel
-- 152 ImageFileModel_read2
theorem e152_0 : decode (px_cd 152) 0 = .ok (.aload_n 0, 1) := by decide +kernel
theorem e152_1 : decode (px_cd 152) 1 = .ok (.getfield 35, 3) := by decide +kernel
theorem e152_4 : decode (px_cd 152) 4 = .ok (.iload_n 1, 1) := by decide +kernel
theorem e152_5 : decode (px_cd 152) 5 = .ok (.iaload, 1) := by decide +kernel
theorem e152_6 : decode (px_cd 152) 6 = .ok (.sipush 256, 3) := by decide +kernel
theorem e152_9 : decode (px_cd 152) 9 = .ok (.aload_n 0, 1) := by decide +kernel
theorem e152_10 : decode (px_cd 152) 10 = .ok (.getfield 35, 3) := by decide +kernel
theorem e152_13 : decode (px_cd 152) 13 = .ok (.iload_n 1, 1) := by decide +kernel
theorem e152_14 : decode (px_cd 152) 14 = .ok (.iconst 1, 1) := by decide +kernel
theorem e152_15 : decode (px_cd 152) 15 = .ok (.iadd, 1) := by decide +kernel
theorem e152_16 : decode (px_cd 152) 16 = .ok (.iaload, 1) := by decide +kernel
theorem e152_17 : decode (px_cd 152) 17 = .ok (.imul, 1) := by decide +kernel
theorem e152_18 : decode (px_cd 152) 18 = .ok (.iadd, 1) := by decide +kernel
theorem e152_19 : decode (px_cd 152) 19 = .ok (.ireturn, 1) := by decide +kernel
-- 153 ImageFileModel_read4
theorem e153_0 : decode (px_cd 153) 0 = .ok (.aload_n 0, 1) := by decide +kernel
theorem e153_1 : decode (px_cd 153) 1 = .ok (.iload_n 1, 1) := by decide +kernel
theorem e153_2 : decode (px_cd 153) 2 = .ok (.invokevirtual 137, 3) := by decide +kernel
theorem e153_5 : decode (px_cd 153) 5 = .ok (.i2l, 1) := by decide +kernel
theorem e153_6 : decode (px_cd 153) 6 = .ok (.ldc2_w 140, 3) := by decide +kernel
theorem e153_9 : decode (px_cd 153) 9 = .ok (.aload_n 0, 1) := by decide +kernel
theorem e153_10 : decode (px_cd 153) 10 = .ok (.iload_n 1, 1) := by decide +kernel
theorem e153_11 : decode (px_cd 153) 11 = .ok (.iconst 2, 1) := by decide +kernel
theorem e153_12 : decode (px_cd 153) 12 = .ok (.iadd, 1) := by decide +kernel
theorem e153_13 : decode (px_cd 153) 13 = .ok (.invokevirtual 137, 3) := by decide +kernel
theorem e153_16 : decode (px_cd 153) 16 = .ok (.i2l, 1) := by decide +kernel
theorem e153_17 : decode (px_cd 153) 17 = .ok (.lmul, 1) := by decide +kernel
theorem e153_18 : decode (px_cd 153) 18 = .ok (.ladd, 1) := by decide +kernel
theorem e153_19 : decode (px_cd 153) 19 = .ok (.lreturn, 1) := by decide +kernel
-- 154 ImageFileModel_rowFault
theorem e154_0 : decode (px_cd 154) 0 = .ok (.aload_n 0, 1) := by decide +kernel
theorem e154_1 : decode (px_cd 154) 1 = .ok (.iload_n 1, 1) := by decide +kernel
theorem e154_2 : decode (px_cd 154) 2 = .ok (.iconst 0, 1) := by decide +kernel
theorem e154_3 : decode (px_cd 154) 3 = .ok (.invokevirtual 164, 3) := by decide +kernel
theorem e154_6 : decode (px_cd 154) 6 = .ok (.lstore_n 2, 1) := by decide +kernel
theorem e154_7 : decode (px_cd 154) 7 = .ok (.lload_n 2, 1) := by decide +kernel
theorem e154_8 : decode (px_cd 154) 8 = .ok (.lconst 0, 1) := by decide +kernel
theorem e154_9 : decode (px_cd 154) 9 = .ok (.lcmp, 1) := by decide +kernel
theorem e154_10 : decode (px_cd 154) 10 = .ok (.ifCond .eq 30, 3) := by decide +kernel
theorem e154_13 : decode (px_cd 154) 13 = .ok (.lload_n 2, 1) := by decide +kernel
theorem e154_14 : decode (px_cd 154) 14 = .ok (.lconst 1, 1) := by decide +kernel
theorem e154_15 : decode (px_cd 154) 15 = .ok (.lcmp, 1) := by decide +kernel
theorem e154_16 : decode (px_cd 154) 16 = .ok (.ifCond .eq 24, 3) := by decide +kernel
theorem e154_19 : decode (px_cd 154) 19 = .ok (.lload_n 2, 1) := by decide +kernel
theorem e154_20 : decode (px_cd 154) 20 = .ok (.ldc2_w 149, 3) := by decide +kernel
theorem e154_23 : decode (px_cd 154) 23 = .ok (.lcmp, 1) := by decide +kernel
theorem e154_24 : decode (px_cd 154) 24 = .ok (.ifCond .eq 16, 3) := by decide +kernel
theorem e154_27 : decode (px_cd 154) 27 = .ok (.aload_n 0, 1) := by decide +kernel
theorem e154_28 : decode (px_cd 154) 28 = .ok (.bipush 11, 2) := by decide +kernel
theorem e154_30 : decode (px_cd 154) 30 = .ok (.aload_n 0, 1) := by decide +kernel
theorem e154_31 : decode (px_cd 154) 31 = .ok (.iload_n 1, 1) := by decide +kernel
theorem e154_32 : decode (px_cd 154) 32 = .ok (.iconst 0, 1) := by decide +kernel
theorem e154_33 : decode (px_cd 154) 33 = .ok (.invokevirtual 161, 3) := by decide +kernel
theorem e154_36 : decode (px_cd 154) 36 = .ok (.invokevirtual 142, 3) := by decide +kernel
theorem e154_39 : decode (px_cd 154) 39 = .ok (.ireturn, 1) := by decide +kernel
theorem e154_40 : decode (px_cd 154) 40 = .ok (.lload_n 2, 1) := by decide +kernel
theorem e154_41 : decode (px_cd 154) 41 = .ok (.lconst 0, 1) := by decide +kernel
theorem e154_42 : decode (px_cd 154) 42 = .ok (.lcmp, 1) := by decide +kernel
theorem e154_43 : decode (px_cd 154) 43 = .ok (.ifCond .ne 5, 3) := by decide +kernel
theorem e154_46 : decode (px_cd 154) 46 = .ok (.iconst 0, 1) := by decide +kernel
theorem e154_47 : decode (px_cd 154) 47 = .ok (.ireturn, 1) := by decide +kernel
theorem e154_48 : decode (px_cd 154) 48 = .ok (.lload_n 2, 1) := by decide +kernel
theorem e154_49 : decode (px_cd 154) 49 = .ok (.ldc2_w 149, 3) := by decide +kernel
theorem e154_52 : decode (px_cd 154) 52 = .ok (.lcmp, 1) := by decide +kernel
theorem e154_53 : decode (px_cd 154) 53 = .ok (.ifCond .ne 7, 3) := by decide +kernel
theorem e154_56 : decode (px_cd 154) 56 = .ok (.iconst 1, 1) := by decide +kernel
theorem e154_57 : decode (px_cd 154) 57 = .ok (.goto 4, 3) := by decide +kernel
theorem e154_60 : decode (px_cd 154) 60 = .ok (.iconst 0, 1) := by decide +kernel
theorem e154_61 : decode (px_cd 154) 61 = .ok (.istore 4, 2) := by decide +kernel
theorem e154_63 : decode (px_cd 154) 63 = .ok (.aload_n 0, 1) := by decide +kernel
theorem e154_64 : decode (px_cd 154) 64 = .ok (.iload_n 1, 1) := by decide +kernel
theorem e154_65 : decode (px_cd 154) 65 = .ok (.iconst 1, 1) := by decide +kernel
theorem e154_66 : decode (px_cd 154) 66 = .ok (.invokevirtual 164, 3) := by decide +kernel
theorem e154_69 : decode (px_cd 154) 69 = .ok (.lstore 5, 2) := by decide +kernel
theorem e154_71 : decode (px_cd 154) 71 = .ok (.aload_n 0, 1) := by decide +kernel
theorem e154_72 : decode (px_cd 154) 72 = .ok (.iload_n 1, 1) := by decide +kernel
theorem e154_73 : decode (px_cd 154) 73 = .ok (.iconst 2, 1) := by decide +kernel
theorem e154_74 : decode (px_cd 154) 74 = .ok (.invokevirtual 164, 3) := by decide +kernel
theorem e154_77 : decode (px_cd 154) 77 = .ok (.lstore 7, 2) := by decide +kernel
theorem e154_79 : decode (px_cd 154) 79 = .ok (.aload_n 0, 1) := by decide +kernel
theorem e154_80 : decode (px_cd 154) 80 = .ok (.iload_n 1, 1) := by decide +kernel
theorem e154_81 : decode (px_cd 154) 81 = .ok (.iconst 4, 1) := by decide +kernel
theorem e154_82 : decode (px_cd 154) 82 = .ok (.invokevirtual 164, 3) := by decide +kernel
theorem e154_85 : decode (px_cd 154) 85 = .ok (.lstore 9, 2) := by decide +kernel
theorem e154_87 : decode (px_cd 154) 87 = .ok (.aload_n 0, 1) := by decide +kernel
theorem e154_88 : decode (px_cd 154) 88 = .ok (.iload_n 1, 1) := by decide +kernel
theorem e154_89 : decode (px_cd 154) 89 = .ok (.iconst 5, 1) := by decide +kernel
theorem e154_90 : decode (px_cd 154) 90 = .ok (.invokevirtual 164, 3) := by decide +kernel
theorem e154_93 : decode (px_cd 154) 93 = .ok (.lstore 11, 2) := by decide +kernel
theorem e154_95 : decode (px_cd 154) 95 = .ok (.aload_n 0, 1) := by decide +kernel
theorem e154_96 : decode (px_cd 154) 96 = .ok (.iload_n 1, 1) := by decide +kernel
theorem e154_97 : decode (px_cd 154) 97 = .ok (.bipush 7, 2) := by decide +kernel
theorem e154_99 : decode (px_cd 154) 99 = .ok (.invokevirtual 164, 3) := by decide +kernel
theorem e154_102 : decode (px_cd 154) 102 = .ok (.lstore 13, 2) := by decide +kernel
theorem e154_104 : decode (px_cd 154) 104 = .ok (.lload 5, 2) := by decide +kernel
theorem e154_106 : decode (px_cd 154) 106 = .ok (.lload 9, 2) := by decide +kernel
theorem e154_108 : decode (px_cd 154) 108 = .ok (.ladd, 1) := by decide +kernel
theorem e154_109 : decode (px_cd 154) 109 = .ok (.aload_n 0, 1) := by decide +kernel
theorem e154_110 : decode (px_cd 154) 110 = .ok (.getfield 118, 3) := by decide +kernel
theorem e154_113 : decode (px_cd 154) 113 = .ok (.i2l, 1) := by decide +kernel
theorem e154_114 : decode (px_cd 154) 114 = .ok (.lcmp, 1) := by decide +kernel
theorem e154_115 : decode (px_cd 154) 115 = .ok (.ifCond .gt 19, 3) := by decide +kernel
theorem e154_118 : decode (px_cd 154) 118 = .ok (.lload 9, 2) := by decide +kernel
theorem e154_120 : decode (px_cd 154) 120 = .ok (.lconst 0, 1) := by decide +kernel
theorem e154_121 : decode (px_cd 154) 121 = .ok (.lcmp, 1) := by decide +kernel
theorem e154_122 : decode (px_cd 154) 122 = .ok (.ifCond .le 25, 3) := by decide +kernel
theorem e154_125 : decode (px_cd 154) 125 = .ok (.lload 5, 2) := by decide +kernel
theorem e154_127 : decode (px_cd 154) 127 = .ok (.ldc2_w 151, 3) := by decide +kernel
theorem e154_130 : decode (px_cd 154) 130 = .ok (.lcmp, 1) := by decide +kernel
theorem e154_131 : decode (px_cd 154) 131 = .ok (.ifCond .ge 16, 3) := by decide +kernel
theorem e154_134 : decode (px_cd 154) 134 = .ok (.aload_n 0, 1) := by decide +kernel
theorem e154_135 : decode (px_cd 154) 135 = .ok (.bipush 12, 2) := by decide +kernel
theorem e154_137 : decode (px_cd 154) 137 = .ok (.aload_n 0, 1) := by decide +kernel
theorem e154_138 : decode (px_cd 154) 138 = .ok (.iload_n 1, 1) := by decide +kernel
theorem e154_139 : decode (px_cd 154) 139 = .ok (.iconst 1, 1) := by decide +kernel
theorem e154_140 : decode (px_cd 154) 140 = .ok (.invokevirtual 161, 3) := by decide +kernel
theorem e154_143 : decode (px_cd 154) 143 = .ok (.invokevirtual 142, 3) := by decide +kernel
theorem e154_146 : decode (px_cd 154) 146 = .ok (.ireturn, 1) := by decide +kernel
theorem e154_147 : decode (px_cd 154) 147 = .ok (.lload 13, 2) := by decide +kernel
theorem e154_149 : decode (px_cd 154) 149 = .ok (.invokestatic 172, 3) := by decide +kernel
theorem e154_152 : decode (px_cd 154) 152 = .ok (.ifCond .eq 38, 3) := by decide +kernel
theorem e154_155 : decode (px_cd 154) 155 = .ok (.iload 4, 2) := by decide +kernel
theorem e154_157 : decode (px_cd 154) 157 = .ok (.ifCond .eq 14, 3) := by decide +kernel
theorem e154_160 : decode (px_cd 154) 160 = .ok (.lload 5, 2) := by decide +kernel
theorem e154_162 : decode (px_cd 154) 162 = .ok (.ldc2_w 149, 3) := by decide +kernel
theorem e154_165 : decode (px_cd 154) 165 = .ok (.lrem, 1) := by decide +kernel
theorem e154_166 : decode (px_cd 154) 166 = .ok (.lconst 0, 1) := by decide +kernel
theorem e154_167 : decode (px_cd 154) 167 = .ok (.lcmp, 1) := by decide +kernel
theorem e154_168 : decode (px_cd 154) 168 = .ok (.ifCond .ne 22, 3) := by decide +kernel
theorem e154_171 : decode (px_cd 154) 171 = .ok (.iload 4, 2) := by decide +kernel
theorem e154_173 : decode (px_cd 154) 173 = .ok (.ifCond .ne 31, 3) := by decide +kernel
theorem e154_176 : decode (px_cd 154) 176 = .ok (.lload 5, 2) := by decide +kernel
theorem e154_178 : decode (px_cd 154) 178 = .ok (.lload 13, 2) := by decide +kernel
theorem e154_180 : decode (px_cd 154) 180 = .ok (.lrem, 1) := by decide +kernel
theorem e154_181 : decode (px_cd 154) 181 = .ok (.lload 7, 2) := by decide +kernel
theorem e154_183 : decode (px_cd 154) 183 = .ok (.lload 13, 2) := by decide +kernel
theorem e154_185 : decode (px_cd 154) 185 = .ok (.lrem, 1) := by decide +kernel
theorem e154_186 : decode (px_cd 154) 186 = .ok (.lcmp, 1) := by decide +kernel
theorem e154_187 : decode (px_cd 154) 187 = .ok (.ifCond .eq 17, 3) := by decide +kernel
theorem e154_190 : decode (px_cd 154) 190 = .ok (.aload_n 0, 1) := by decide +kernel
theorem e154_191 : decode (px_cd 154) 191 = .ok (.bipush 13, 2) := by decide +kernel
theorem e154_193 : decode (px_cd 154) 193 = .ok (.aload_n 0, 1) := by decide +kernel
theorem e154_194 : decode (px_cd 154) 194 = .ok (.iload_n 1, 1) := by decide +kernel
theorem e154_195 : decode (px_cd 154) 195 = .ok (.bipush 7, 2) := by decide +kernel
theorem e154_197 : decode (px_cd 154) 197 = .ok (.invokevirtual 161, 3) := by decide +kernel
theorem e154_200 : decode (px_cd 154) 200 = .ok (.invokevirtual 142, 3) := by decide +kernel
theorem e154_203 : decode (px_cd 154) 203 = .ok (.ireturn, 1) := by decide +kernel
theorem e154_204 : decode (px_cd 154) 204 = .ok (.aload_n 0, 1) := by decide +kernel
theorem e154_205 : decode (px_cd 154) 205 = .ok (.iload_n 1, 1) := by decide +kernel
theorem e154_206 : decode (px_cd 154) 206 = .ok (.invokevirtual 176, 3) := by decide +kernel
theorem e154_209 : decode (px_cd 154) 209 = .ok (.istore 15, 2) := by decide +kernel
theorem e154_211 : decode (px_cd 154) 211 = .ok (.iload 15, 2) := by decide +kernel
theorem e154_213 : decode (px_cd 154) 213 = .ok (.iconst (-1), 1) := by decide +kernel
theorem e154_214 : decode (px_cd 154) 214 = .ok (.if_icmp .eq 14, 3) := by decide +kernel
theorem e154_217 : decode (px_cd 154) 217 = .ok (.aload_n 0, 1) := by decide +kernel
theorem e154_218 : decode (px_cd 154) 218 = .ok (.getfield 42, 3) := by decide +kernel
theorem e154_221 : decode (px_cd 154) 221 = .ok (.iload 15, 2) := by decide +kernel
theorem e154_223 : decode (px_cd 154) 223 = .ok (.iaload, 1) := by decide +kernel
theorem e154_224 : decode (px_cd 154) 224 = .ok (.iconst (-1), 1) := by decide +kernel
theorem e154_225 : decode (px_cd 154) 225 = .ok (.if_icmp .eq 17, 3) := by decide +kernel
theorem e154_228 : decode (px_cd 154) 228 = .ok (.aload_n 0, 1) := by decide +kernel
theorem e154_229 : decode (px_cd 154) 229 = .ok (.bipush 14, 2) := by decide +kernel
theorem e154_231 : decode (px_cd 154) 231 = .ok (.aload_n 0, 1) := by decide +kernel
theorem e154_232 : decode (px_cd 154) 232 = .ok (.iload_n 1, 1) := by decide +kernel
theorem e154_233 : decode (px_cd 154) 233 = .ok (.bipush 6, 2) := by decide +kernel
theorem e154_235 : decode (px_cd 154) 235 = .ok (.invokevirtual 161, 3) := by decide +kernel
theorem e154_238 : decode (px_cd 154) 238 = .ok (.invokevirtual 142, 3) := by decide +kernel
theorem e154_241 : decode (px_cd 154) 241 = .ok (.ireturn, 1) := by decide +kernel
theorem e154_242 : decode (px_cd 154) 242 = .ok (.iload 4, 2) := by decide +kernel
theorem e154_244 : decode (px_cd 154) 244 = .ok (.ifCond .eq 13, 3) := by decide +kernel
theorem e154_247 : decode (px_cd 154) 247 = .ok (.lload 7, 2) := by decide +kernel
theorem e154_249 : decode (px_cd 154) 249 = .ok (.lconst 0, 1) := by decide +kernel
theorem e154_250 : decode (px_cd 154) 250 = .ok (.lcmp, 1) := by decide +kernel
theorem e154_251 : decode (px_cd 154) 251 = .ok (.ifCond .eq 28, 3) := by decide +kernel
theorem e154_254 : decode (px_cd 154) 254 = .ok (.goto 12, 3) := by decide +kernel
theorem e154_257 : decode (px_cd 154) 257 = .ok (.lload 7, 2) := by decide +kernel
theorem e154_259 : decode (px_cd 154) 259 = .ok (.ldc2_w 179, 3) := by decide +kernel
theorem e154_262 : decode (px_cd 154) 262 = .ok (.lcmp, 1) := by decide +kernel
theorem e154_263 : decode (px_cd 154) 263 = .ok (.ifCond .lt 16, 3) := by decide +kernel
theorem e154_266 : decode (px_cd 154) 266 = .ok (.aload_n 0, 1) := by decide +kernel
theorem e154_267 : decode (px_cd 154) 267 = .ok (.bipush 15, 2) := by decide +kernel
theorem e154_269 : decode (px_cd 154) 269 = .ok (.aload_n 0, 1) := by decide +kernel
theorem e154_270 : decode (px_cd 154) 270 = .ok (.iload_n 1, 1) := by decide +kernel
theorem e154_271 : decode (px_cd 154) 271 = .ok (.iconst 2, 1) := by decide +kernel
theorem e154_272 : decode (px_cd 154) 272 = .ok (.invokevirtual 161, 3) := by decide +kernel
theorem e154_275 : decode (px_cd 154) 275 = .ok (.invokevirtual 142, 3) := by decide +kernel
theorem e154_278 : decode (px_cd 154) 278 = .ok (.ireturn, 1) := by decide +kernel
theorem e154_279 : decode (px_cd 154) 279 = .ok (.aload_n 0, 1) := by decide +kernel
theorem e154_280 : decode (px_cd 154) 280 = .ok (.iload_n 1, 1) := by decide +kernel
theorem e154_281 : decode (px_cd 154) 281 = .ok (.iconst 3, 1) := by decide +kernel
theorem e154_282 : decode (px_cd 154) 282 = .ok (.invokevirtual 164, 3) := by decide +kernel
theorem e154_285 : decode (px_cd 154) 285 = .ok (.lload 7, 2) := by decide +kernel
theorem e154_287 : decode (px_cd 154) 287 = .ok (.lcmp, 1) := by decide +kernel
theorem e154_288 : decode (px_cd 154) 288 = .ok (.ifCond .eq 16, 3) := by decide +kernel
theorem e154_291 : decode (px_cd 154) 291 = .ok (.aload_n 0, 1) := by decide +kernel
theorem e154_292 : decode (px_cd 154) 292 = .ok (.bipush 16, 2) := by decide +kernel
theorem e154_294 : decode (px_cd 154) 294 = .ok (.aload_n 0, 1) := by decide +kernel
theorem e154_295 : decode (px_cd 154) 295 = .ok (.iload_n 1, 1) := by decide +kernel
theorem e154_296 : decode (px_cd 154) 296 = .ok (.iconst 3, 1) := by decide +kernel
theorem e154_297 : decode (px_cd 154) 297 = .ok (.invokevirtual 161, 3) := by decide +kernel
theorem e154_300 : decode (px_cd 154) 300 = .ok (.invokevirtual 142, 3) := by decide +kernel
theorem e154_303 : decode (px_cd 154) 303 = .ok (.ireturn, 1) := by decide +kernel
theorem e154_304 : decode (px_cd 154) 304 = .ok (.iload 4, 2) := by decide +kernel
theorem e154_306 : decode (px_cd 154) 306 = .ok (.ifCond .ne 25, 3) := by decide +kernel
theorem e154_309 : decode (px_cd 154) 309 = .ok (.lload 9, 2) := by decide +kernel
theorem e154_311 : decode (px_cd 154) 311 = .ok (.ldc2_w 48, 3) := by decide +kernel
theorem e154_314 : decode (px_cd 154) 314 = .ok (.lcmp, 1) := by decide +kernel
theorem e154_315 : decode (px_cd 154) 315 = .ok (.ifCond .le 16, 3) := by decide +kernel
theorem e154_318 : decode (px_cd 154) 318 = .ok (.aload_n 0, 1) := by decide +kernel
theorem e154_319 : decode (px_cd 154) 319 = .ok (.bipush 17, 2) := by decide +kernel
theorem e154_321 : decode (px_cd 154) 321 = .ok (.aload_n 0, 1) := by decide +kernel
theorem e154_322 : decode (px_cd 154) 322 = .ok (.iload_n 1, 1) := by decide +kernel
theorem e154_323 : decode (px_cd 154) 323 = .ok (.iconst 4, 1) := by decide +kernel
theorem e154_324 : decode (px_cd 154) 324 = .ok (.invokevirtual 161, 3) := by decide +kernel
theorem e154_327 : decode (px_cd 154) 327 = .ok (.invokevirtual 142, 3) := by decide +kernel
theorem e154_330 : decode (px_cd 154) 330 = .ok (.ireturn, 1) := by decide +kernel
theorem e154_331 : decode (px_cd 154) 331 = .ok (.iload 4, 2) := by decide +kernel
theorem e154_333 : decode (px_cd 154) 333 = .ok (.ifCond .eq 13, 3) := by decide +kernel
theorem e154_336 : decode (px_cd 154) 336 = .ok (.lload 11, 2) := by decide +kernel
theorem e154_338 : decode (px_cd 154) 338 = .ok (.lconst 0, 1) := by decide +kernel
theorem e154_339 : decode (px_cd 154) 339 = .ok (.lcmp, 1) := by decide +kernel
theorem e154_340 : decode (px_cd 154) 340 = .ok (.ifCond .eq 53, 3) := by decide +kernel
theorem e154_343 : decode (px_cd 154) 343 = .ok (.goto 37, 3) := by decide +kernel
theorem e154_346 : decode (px_cd 154) 346 = .ok (.lload 11, 2) := by decide +kernel
theorem e154_348 : decode (px_cd 154) 348 = .ok (.lload 9, 2) := by decide +kernel
theorem e154_350 : decode (px_cd 154) 350 = .ok (.lcmp, 1) := by decide +kernel
theorem e154_351 : decode (px_cd 154) 351 = .ok (.ifCond .lt 29, 3) := by decide +kernel
theorem e154_354 : decode (px_cd 154) 354 = .ok (.lload 11, 2) := by decide +kernel
theorem e154_356 : decode (px_cd 154) 356 = .ok (.lload 9, 2) := by decide +kernel
theorem e154_358 : decode (px_cd 154) 358 = .ok (.lsub, 1) := by decide +kernel
theorem e154_359 : decode (px_cd 154) 359 = .ok (.ldc2_w 181, 3) := by decide +kernel
theorem e154_362 : decode (px_cd 154) 362 = .ok (.lcmp, 1) := by decide +kernel
theorem e154_363 : decode (px_cd 154) 363 = .ok (.ifCond .gt 17, 3) := by decide +kernel
theorem e154_366 : decode (px_cd 154) 366 = .ok (.iload 15, 2) := by decide +kernel
theorem e154_368 : decode (px_cd 154) 368 = .ok (.iconst 2, 1) := by decide +kernel
theorem e154_369 : decode (px_cd 154) 369 = .ok (.if_icmp .ge 24, 3) := by decide +kernel
theorem e154_372 : decode (px_cd 154) 372 = .ok (.lload 11, 2) := by decide +kernel
theorem e154_374 : decode (px_cd 154) 374 = .ok (.lload 9, 2) := by decide +kernel
theorem e154_376 : decode (px_cd 154) 376 = .ok (.lcmp, 1) := by decide +kernel
theorem e154_377 : decode (px_cd 154) 377 = .ok (.ifCond .eq 16, 3) := by decide +kernel
theorem e154_380 : decode (px_cd 154) 380 = .ok (.aload_n 0, 1) := by decide +kernel
theorem e154_381 : decode (px_cd 154) 381 = .ok (.bipush 18, 2) := by decide +kernel
theorem e154_383 : decode (px_cd 154) 383 = .ok (.aload_n 0, 1) := by decide +kernel
theorem e154_384 : decode (px_cd 154) 384 = .ok (.iload_n 1, 1) := by decide +kernel
theorem e154_385 : decode (px_cd 154) 385 = .ok (.iconst 5, 1) := by decide +kernel
theorem e154_386 : decode (px_cd 154) 386 = .ok (.invokevirtual 161, 3) := by decide +kernel
theorem e154_389 : decode (px_cd 154) 389 = .ok (.invokevirtual 142, 3) := by decide +kernel
theorem e154_392 : decode (px_cd 154) 392 = .ok (.ireturn, 1) := by decide +kernel
theorem e154_393 : decode (px_cd 154) 393 = .ok (.lload 9, 2) := by decide +kernel
theorem e154_395 : decode (px_cd 154) 395 = .ok (.lconst 0, 1) := by decide +kernel
theorem e154_396 : decode (px_cd 154) 396 = .ok (.lcmp, 1) := by decide +kernel
theorem e154_397 : decode (px_cd 154) 397 = .ok (.ifCond .le 51, 3) := by decide +kernel
theorem e154_400 : decode (px_cd 154) 400 = .ok (.lload 5, 2) := by decide +kernel
theorem e154_402 : decode (px_cd 154) 402 = .ok (.aload_n 0, 1) := by decide +kernel
theorem e154_403 : decode (px_cd 154) 403 = .ok (.getfield 158, 3) := by decide +kernel
theorem e154_406 : decode (px_cd 154) 406 = .ok (.i2l, 1) := by decide +kernel
theorem e154_407 : decode (px_cd 154) 407 = .ok (.ldc2_w 156, 3) := by decide +kernel
theorem e154_410 : decode (px_cd 154) 410 = .ok (.aload_n 0, 1) := by decide +kernel
theorem e154_411 : decode (px_cd 154) 411 = .ok (.getfield 153, 3) := by decide +kernel
theorem e154_414 : decode (px_cd 154) 414 = .ok (.i2l, 1) := by decide +kernel
theorem e154_415 : decode (px_cd 154) 415 = .ok (.lmul, 1) := by decide +kernel
theorem e154_416 : decode (px_cd 154) 416 = .ok (.ladd, 1) := by decide +kernel
theorem e154_417 : decode (px_cd 154) 417 = .ok (.lcmp, 1) := by decide +kernel
theorem e154_418 : decode (px_cd 154) 418 = .ok (.ifCond .ge 30, 3) := by decide +kernel
theorem e154_421 : decode (px_cd 154) 421 = .ok (.aload_n 0, 1) := by decide +kernel
theorem e154_422 : decode (px_cd 154) 422 = .ok (.getfield 158, 3) := by decide +kernel
theorem e154_425 : decode (px_cd 154) 425 = .ok (.i2l, 1) := by decide +kernel
theorem e154_426 : decode (px_cd 154) 426 = .ok (.lload 5, 2) := by decide +kernel
theorem e154_428 : decode (px_cd 154) 428 = .ok (.lload 9, 2) := by decide +kernel
theorem e154_430 : decode (px_cd 154) 430 = .ok (.ladd, 1) := by decide +kernel
theorem e154_431 : decode (px_cd 154) 431 = .ok (.lcmp, 1) := by decide +kernel
theorem e154_432 : decode (px_cd 154) 432 = .ok (.ifCond .ge 16, 3) := by decide +kernel
theorem e154_435 : decode (px_cd 154) 435 = .ok (.aload_n 0, 1) := by decide +kernel
theorem e154_436 : decode (px_cd 154) 436 = .ok (.bipush 19, 2) := by decide +kernel
theorem e154_438 : decode (px_cd 154) 438 = .ok (.aload_n 0, 1) := by decide +kernel
theorem e154_439 : decode (px_cd 154) 439 = .ok (.iload_n 1, 1) := by decide +kernel
theorem e154_440 : decode (px_cd 154) 440 = .ok (.iconst 1, 1) := by decide +kernel
theorem e154_441 : decode (px_cd 154) 441 = .ok (.invokevirtual 161, 3) := by decide +kernel
theorem e154_444 : decode (px_cd 154) 444 = .ok (.invokevirtual 142, 3) := by decide +kernel
theorem e154_447 : decode (px_cd 154) 447 = .ok (.ireturn, 1) := by decide +kernel
theorem e154_448 : decode (px_cd 154) 448 = .ok (.iconst 0, 1) := by decide +kernel
theorem e154_449 : decode (px_cd 154) 449 = .ok (.istore 16, 2) := by decide +kernel
theorem e154_451 : decode (px_cd 154) 451 = .ok (.iload 16, 2) := by decide +kernel
theorem e154_453 : decode (px_cd 154) 453 = .ok (.iload_n 1, 1) := by decide +kernel
theorem e154_454 : decode (px_cd 154) 454 = .ok (.if_icmp .ge 92, 3) := by decide +kernel
theorem e154_457 : decode (px_cd 154) 457 = .ok (.aload_n 0, 1) := by decide +kernel
theorem e154_458 : decode (px_cd 154) 458 = .ok (.iload 16, 2) := by decide +kernel
theorem e154_460 : decode (px_cd 154) 460 = .ok (.iconst 0, 1) := by decide +kernel
theorem e154_461 : decode (px_cd 154) 461 = .ok (.invokevirtual 164, 3) := by decide +kernel
theorem e154_464 : decode (px_cd 154) 464 = .ok (.lconst 0, 1) := by decide +kernel
theorem e154_465 : decode (px_cd 154) 465 = .ok (.lcmp, 1) := by decide +kernel
theorem e154_466 : decode (px_cd 154) 466 = .ok (.ifCond .ne 6, 3) := by decide +kernel
theorem e154_469 : decode (px_cd 154) 469 = .ok (.goto 71, 3) := by decide +kernel
theorem e154_472 : decode (px_cd 154) 472 = .ok (.aload_n 0, 1) := by decide +kernel
theorem e154_473 : decode (px_cd 154) 473 = .ok (.iload 16, 2) := by decide +kernel
theorem e154_475 : decode (px_cd 154) 475 = .ok (.iconst 4, 1) := by decide +kernel
theorem e154_476 : decode (px_cd 154) 476 = .ok (.invokevirtual 164, 3) := by decide +kernel
theorem e154_479 : decode (px_cd 154) 479 = .ok (.lstore 17, 2) := by decide +kernel
theorem e154_481 : decode (px_cd 154) 481 = .ok (.lload 9, 2) := by decide +kernel
theorem e154_483 : decode (px_cd 154) 483 = .ok (.lconst 0, 1) := by decide +kernel
theorem e154_484 : decode (px_cd 154) 484 = .ok (.lcmp, 1) := by decide +kernel
theorem e154_485 : decode (px_cd 154) 485 = .ok (.ifCond .le 55, 3) := by decide +kernel
theorem e154_488 : decode (px_cd 154) 488 = .ok (.lload 17, 2) := by decide +kernel
theorem e154_490 : decode (px_cd 154) 490 = .ok (.lconst 0, 1) := by decide +kernel
theorem e154_491 : decode (px_cd 154) 491 = .ok (.lcmp, 1) := by decide +kernel
theorem e154_492 : decode (px_cd 154) 492 = .ok (.ifCond .le 48, 3) := by decide +kernel
theorem e154_495 : decode (px_cd 154) 495 = .ok (.lload 5, 2) := by decide +kernel
theorem e154_497 : decode (px_cd 154) 497 = .ok (.aload_n 0, 1) := by decide +kernel
theorem e154_498 : decode (px_cd 154) 498 = .ok (.iload 16, 2) := by decide +kernel
theorem e154_500 : decode (px_cd 154) 500 = .ok (.iconst 1, 1) := by decide +kernel
theorem e154_501 : decode (px_cd 154) 501 = .ok (.invokevirtual 164, 3) := by decide +kernel
theorem e154_504 : decode (px_cd 154) 504 = .ok (.lload 17, 2) := by decide +kernel
theorem e154_506 : decode (px_cd 154) 506 = .ok (.ladd, 1) := by decide +kernel
theorem e154_507 : decode (px_cd 154) 507 = .ok (.lcmp, 1) := by decide +kernel
theorem e154_508 : decode (px_cd 154) 508 = .ok (.ifCond .ge 32, 3) := by decide +kernel
theorem e154_511 : decode (px_cd 154) 511 = .ok (.aload_n 0, 1) := by decide +kernel
theorem e154_512 : decode (px_cd 154) 512 = .ok (.iload 16, 2) := by decide +kernel
theorem e154_514 : decode (px_cd 154) 514 = .ok (.iconst 1, 1) := by decide +kernel
theorem e154_515 : decode (px_cd 154) 515 = .ok (.invokevirtual 164, 3) := by decide +kernel
theorem e154_518 : decode (px_cd 154) 518 = .ok (.lload 5, 2) := by decide +kernel
theorem e154_520 : decode (px_cd 154) 520 = .ok (.lload 9, 2) := by decide +kernel
theorem e154_522 : decode (px_cd 154) 522 = .ok (.ladd, 1) := by decide +kernel
theorem e154_523 : decode (px_cd 154) 523 = .ok (.lcmp, 1) := by decide +kernel
theorem e154_524 : decode (px_cd 154) 524 = .ok (.ifCond .ge 16, 3) := by decide +kernel
theorem e154_527 : decode (px_cd 154) 527 = .ok (.aload_n 0, 1) := by decide +kernel
theorem e154_528 : decode (px_cd 154) 528 = .ok (.bipush 19, 2) := by decide +kernel
theorem e154_530 : decode (px_cd 154) 530 = .ok (.aload_n 0, 1) := by decide +kernel
theorem e154_531 : decode (px_cd 154) 531 = .ok (.iload_n 1, 1) := by decide +kernel
theorem e154_532 : decode (px_cd 154) 532 = .ok (.iconst 1, 1) := by decide +kernel
theorem e154_533 : decode (px_cd 154) 533 = .ok (.invokevirtual 161, 3) := by decide +kernel
theorem e154_536 : decode (px_cd 154) 536 = .ok (.invokevirtual 142, 3) := by decide +kernel
theorem e154_539 : decode (px_cd 154) 539 = .ok (.ireturn, 1) := by decide +kernel
theorem e154_540 : decode (px_cd 154) 540 = .ok (.iinc 16 1, 3) := by decide +kernel
theorem e154_543 : decode (px_cd 154) 543 = .ok (.goto (-92), 3) := by decide +kernel
theorem e154_546 : decode (px_cd 154) 546 = .ok (.aload_n 0, 1) := by decide +kernel
theorem e154_547 : decode (px_cd 154) 547 = .ok (.getfield 42, 3) := by decide +kernel
theorem e154_550 : decode (px_cd 154) 550 = .ok (.iload 15, 2) := by decide +kernel
theorem e154_552 : decode (px_cd 154) 552 = .ok (.iload_n 1, 1) := by decide +kernel
theorem e154_553 : decode (px_cd 154) 553 = .ok (.iastore, 1) := by decide +kernel
theorem e154_554 : decode (px_cd 154) 554 = .ok (.iconst 0, 1) := by decide +kernel
theorem e154_555 : decode (px_cd 154) 555 = .ok (.ireturn, 1) := by decide +kernel
-- 155 ImageFileModel_number
theorem e155_0 : decode (px_cd 155) 0 = .ok (.aload_n 0, 1) := by decide +kernel
theorem e155_1 : decode (px_cd 155) 1 = .ok (.aload_n 0, 1) := by decide +kernel
theorem e155_2 : decode (px_cd 155) 2 = .ok (.iload_n 1, 1) := by decide +kernel
theorem e155_3 : decode (px_cd 155) 3 = .ok (.iload_n 2, 1) := by decide +kernel
theorem e155_4 : decode (px_cd 155) 4 = .ok (.invokevirtual 161, 3) := by decide +kernel
theorem e155_7 : decode (px_cd 155) 7 = .ok (.invokevirtual 145, 3) := by decide +kernel
theorem e155_10 : decode (px_cd 155) 10 = .ok (.lreturn, 1) := by decide +kernel
-- 156 ImageFileModel_spot
theorem e156_0 : decode (px_cd 156) 0 = .ok (.aload_n 0, 1) := by decide +kernel
theorem e156_1 : decode (px_cd 156) 1 = .ok (.getfield 158, 3) := by decide +kernel
theorem e156_4 : decode (px_cd 156) 4 = .ok (.bipush 32, 2) := by decide +kernel
theorem e156_6 : decode (px_cd 156) 6 = .ok (.iload_n 1, 1) := by decide +kernel
theorem e156_7 : decode (px_cd 156) 7 = .ok (.imul, 1) := by decide +kernel
theorem e156_8 : decode (px_cd 156) 8 = .ok (.iadd, 1) := by decide +kernel
theorem e156_9 : decode (px_cd 156) 9 = .ok (.iconst 4, 1) := by decide +kernel
theorem e156_10 : decode (px_cd 156) 10 = .ok (.iload_n 2, 1) := by decide +kernel
theorem e156_11 : decode (px_cd 156) 11 = .ok (.imul, 1) := by decide +kernel
theorem e156_12 : decode (px_cd 156) 12 = .ok (.iadd, 1) := by decide +kernel
theorem e156_13 : decode (px_cd 156) 13 = .ok (.ireturn, 1) := by decide +kernel
-- 157 ImageFileModel_isPower
theorem e157_0 : decode (px_cd 157) 0 = .ok (.iconst 0, 1) := by decide +kernel
theorem e157_1 : decode (px_cd 157) 1 = .ok (.istore_n 2, 1) := by decide +kernel
theorem e157_2 : decode (px_cd 157) 2 = .ok (.lconst 1, 1) := by decide +kernel
theorem e157_3 : decode (px_cd 157) 3 = .ok (.lstore_n 3, 1) := by decide +kernel
theorem e157_4 : decode (px_cd 157) 4 = .ok (.lload_n 3, 1) := by decide +kernel
theorem e157_5 : decode (px_cd 157) 5 = .ok (.ldc2_w 48, 3) := by decide +kernel
theorem e157_8 : decode (px_cd 157) 8 = .ok (.lcmp, 1) := by decide +kernel
theorem e157_9 : decode (px_cd 157) 9 = .ok (.ifCond .gt 28, 3) := by decide +kernel
theorem e157_12 : decode (px_cd 157) 12 = .ok (.iload_n 2, 1) := by decide +kernel
theorem e157_13 : decode (px_cd 157) 13 = .ok (.ifCond .ne 9, 3) := by decide +kernel
theorem e157_16 : decode (px_cd 157) 16 = .ok (.lload_n 0, 1) := by decide +kernel
theorem e157_17 : decode (px_cd 157) 17 = .ok (.lload_n 3, 1) := by decide +kernel
theorem e157_18 : decode (px_cd 157) 18 = .ok (.lcmp, 1) := by decide +kernel
theorem e157_19 : decode (px_cd 157) 19 = .ok (.ifCond .ne 7, 3) := by decide +kernel
theorem e157_22 : decode (px_cd 157) 22 = .ok (.iconst 1, 1) := by decide +kernel
theorem e157_23 : decode (px_cd 157) 23 = .ok (.goto 4, 3) := by decide +kernel
theorem e157_26 : decode (px_cd 157) 26 = .ok (.iconst 0, 1) := by decide +kernel
theorem e157_27 : decode (px_cd 157) 27 = .ok (.istore_n 2, 1) := by decide +kernel
theorem e157_28 : decode (px_cd 157) 28 = .ok (.ldc2_w 50, 3) := by decide +kernel
theorem e157_31 : decode (px_cd 157) 31 = .ok (.lload_n 3, 1) := by decide +kernel
theorem e157_32 : decode (px_cd 157) 32 = .ok (.lmul, 1) := by decide +kernel
theorem e157_33 : decode (px_cd 157) 33 = .ok (.lstore_n 3, 1) := by decide +kernel
theorem e157_34 : decode (px_cd 157) 34 = .ok (.goto (-30), 3) := by decide +kernel
theorem e157_37 : decode (px_cd 157) 37 = .ok (.iload_n 2, 1) := by decide +kernel
theorem e157_38 : decode (px_cd 157) 38 = .ok (.ireturn, 1) := by decide +kernel
-- 158 ImageFileModel_sortOf
theorem e158_0 : decode (px_cd 158) 0 = .ok (.aload_n 0, 1) := by decide +kernel
theorem e158_1 : decode (px_cd 158) 1 = .ok (.iload_n 1, 1) := by decide +kernel
theorem e158_2 : decode (px_cd 158) 2 = .ok (.bipush 6, 2) := by decide +kernel
theorem e158_4 : decode (px_cd 158) 4 = .ok (.invokevirtual 164, 3) := by decide +kernel
theorem e158_7 : decode (px_cd 158) 7 = .ok (.lstore_n 2, 1) := by decide +kernel
theorem e158_8 : decode (px_cd 158) 8 = .ok (.aload_n 0, 1) := by decide +kernel
theorem e158_9 : decode (px_cd 158) 9 = .ok (.iload_n 1, 1) := by decide +kernel
theorem e158_10 : decode (px_cd 158) 10 = .ok (.iconst 0, 1) := by decide +kernel
theorem e158_11 : decode (px_cd 158) 11 = .ok (.invokevirtual 164, 3) := by decide +kernel
theorem e158_14 : decode (px_cd 158) 14 = .ok (.ldc2_w 149, 3) := by decide +kernel
theorem e158_17 : decode (px_cd 158) 17 = .ok (.lcmp, 1) := by decide +kernel
theorem e158_18 : decode (px_cd 158) 18 = .ok (.ifCond .ne 17, 3) := by decide +kernel
theorem e158_21 : decode (px_cd 158) 21 = .ok (.lload_n 2, 1) := by decide +kernel
theorem e158_22 : decode (px_cd 158) 22 = .ok (.ldc2_w 149, 3) := by decide +kernel
theorem e158_25 : decode (px_cd 158) 25 = .ok (.lcmp, 1) := by decide +kernel
theorem e158_26 : decode (px_cd 158) 26 = .ok (.ifCond .ne 7, 3) := by decide +kernel
theorem e158_29 : decode (px_cd 158) 29 = .ok (.iconst 3, 1) := by decide +kernel
theorem e158_30 : decode (px_cd 158) 30 = .ok (.goto 4, 3) := by decide +kernel
theorem e158_33 : decode (px_cd 158) 33 = .ok (.iconst (-1), 1) := by decide +kernel
theorem e158_34 : decode (px_cd 158) 34 = .ok (.ireturn, 1) := by decide +kernel
theorem e158_35 : decode (px_cd 158) 35 = .ok (.lload_n 2, 1) := by decide +kernel
theorem e158_36 : decode (px_cd 158) 36 = .ok (.ldc2_w 168, 3) := by decide +kernel
theorem e158_39 : decode (px_cd 158) 39 = .ok (.lcmp, 1) := by decide +kernel
theorem e158_40 : decode (px_cd 158) 40 = .ok (.ifCond .ne 7, 3) := by decide +kernel
theorem e158_43 : decode (px_cd 158) 43 = .ok (.iconst 0, 1) := by decide +kernel
theorem e158_44 : decode (px_cd 158) 44 = .ok (.goto 28, 3) := by decide +kernel
theorem e158_47 : decode (px_cd 158) 47 = .ok (.lload_n 2, 1) := by decide +kernel
theorem e158_48 : decode (px_cd 158) 48 = .ok (.ldc2_w 149, 3) := by decide +kernel
theorem e158_51 : decode (px_cd 158) 51 = .ok (.lcmp, 1) := by decide +kernel
theorem e158_52 : decode (px_cd 158) 52 = .ok (.ifCond .ne 7, 3) := by decide +kernel
theorem e158_55 : decode (px_cd 158) 55 = .ok (.iconst 1, 1) := by decide +kernel
theorem e158_56 : decode (px_cd 158) 56 = .ok (.goto 16, 3) := by decide +kernel
theorem e158_59 : decode (px_cd 158) 59 = .ok (.lload_n 2, 1) := by decide +kernel
theorem e158_60 : decode (px_cd 158) 60 = .ok (.ldc2_w 170, 3) := by decide +kernel
theorem e158_63 : decode (px_cd 158) 63 = .ok (.lcmp, 1) := by decide +kernel
theorem e158_64 : decode (px_cd 158) 64 = .ok (.ifCond .ne 7, 3) := by decide +kernel
theorem e158_67 : decode (px_cd 158) 67 = .ok (.iconst 2, 1) := by decide +kernel
theorem e158_68 : decode (px_cd 158) 68 = .ok (.goto 4, 3) := by decide +kernel
theorem e158_71 : decode (px_cd 158) 71 = .ok (.iconst (-1), 1) := by decide +kernel
theorem e158_72 : decode (px_cd 158) 72 = .ok (.ireturn, 1) := by decide +kernel
-- 159 ImageFileModel_imageFault
theorem e159_0 : decode (px_cd 159) 0 = .ok (.aload_n 0, 1) := by decide +kernel
theorem e159_1 : decode (px_cd 159) 1 = .ok (.getfield 42, 3) := by decide +kernel
theorem e159_4 : decode (px_cd 159) 4 = .ok (.iconst 0, 1) := by decide +kernel
theorem e159_5 : decode (px_cd 159) 5 = .ok (.iaload, 1) := by decide +kernel
theorem e159_6 : decode (px_cd 159) 6 = .ok (.istore_n 1, 1) := by decide +kernel
theorem e159_7 : decode (px_cd 159) 7 = .ok (.iload_n 1, 1) := by decide +kernel
theorem e159_8 : decode (px_cd 159) 8 = .ok (.iconst (-1), 1) := by decide +kernel
theorem e159_9 : decode (px_cd 159) 9 = .ok (.if_icmp .eq 29, 3) := by decide +kernel
theorem e159_12 : decode (px_cd 159) 12 = .ok (.aload_n 0, 1) := by decide +kernel
theorem e159_13 : decode (px_cd 159) 13 = .ok (.iload_n 1, 1) := by decide +kernel
theorem e159_14 : decode (px_cd 159) 14 = .ok (.iconst 4, 1) := by decide +kernel
theorem e159_15 : decode (px_cd 159) 15 = .ok (.invokevirtual 164, 3) := by decide +kernel
theorem e159_18 : decode (px_cd 159) 18 = .ok (.lconst 0, 1) := by decide +kernel
theorem e159_19 : decode (px_cd 159) 19 = .ok (.lcmp, 1) := by decide +kernel
theorem e159_20 : decode (px_cd 159) 20 = .ok (.ifCond .eq 18, 3) := by decide +kernel
theorem e159_23 : decode (px_cd 159) 23 = .ok (.aload_n 0, 1) := by decide +kernel
theorem e159_24 : decode (px_cd 159) 24 = .ok (.iload_n 1, 1) := by decide +kernel
theorem e159_25 : decode (px_cd 159) 25 = .ok (.iconst 4, 1) := by decide +kernel
theorem e159_26 : decode (px_cd 159) 26 = .ok (.invokevirtual 164, 3) := by decide +kernel
theorem e159_29 : decode (px_cd 159) 29 = .ok (.ldc2_w 50, 3) := by decide +kernel
theorem e159_32 : decode (px_cd 159) 32 = .ok (.lrem, 1) := by decide +kernel
theorem e159_33 : decode (px_cd 159) 33 = .ok (.lconst 0, 1) := by decide +kernel
theorem e159_34 : decode (px_cd 159) 34 = .ok (.lcmp, 1) := by decide +kernel
theorem e159_35 : decode (px_cd 159) 35 = .ok (.ifCond .eq 12, 3) := by decide +kernel
theorem e159_38 : decode (px_cd 159) 38 = .ok (.aload_n 0, 1) := by decide +kernel
theorem e159_39 : decode (px_cd 159) 39 = .ok (.bipush 21, 2) := by decide +kernel
theorem e159_41 : decode (px_cd 159) 41 = .ok (.bipush 44, 2) := by decide +kernel
theorem e159_43 : decode (px_cd 159) 43 = .ok (.invokevirtual 142, 3) := by decide +kernel
theorem e159_46 : decode (px_cd 159) 46 = .ok (.ireturn, 1) := by decide +kernel
theorem e159_47 : decode (px_cd 159) 47 = .ok (.iconst 0, 1) := by decide +kernel
theorem e159_48 : decode (px_cd 159) 48 = .ok (.istore_n 2, 1) := by decide +kernel
theorem e159_49 : decode (px_cd 159) 49 = .ok (.iload_n 2, 1) := by decide +kernel
theorem e159_50 : decode (px_cd 159) 50 = .ok (.iconst 3, 1) := by decide +kernel
theorem e159_51 : decode (px_cd 159) 51 = .ok (.if_icmp .ge 49, 3) := by decide +kernel
theorem e159_54 : decode (px_cd 159) 54 = .ok (.aload_n 0, 1) := by decide +kernel
theorem e159_55 : decode (px_cd 159) 55 = .ok (.getfield 42, 3) := by decide +kernel
theorem e159_58 : decode (px_cd 159) 58 = .ok (.iload_n 2, 1) := by decide +kernel
theorem e159_59 : decode (px_cd 159) 59 = .ok (.iaload, 1) := by decide +kernel
theorem e159_60 : decode (px_cd 159) 60 = .ok (.iconst (-1), 1) := by decide +kernel
theorem e159_61 : decode (px_cd 159) 61 = .ok (.if_icmp .eq 33, 3) := by decide +kernel
theorem e159_64 : decode (px_cd 159) 64 = .ok (.aload_n 0, 1) := by decide +kernel
theorem e159_65 : decode (px_cd 159) 65 = .ok (.iload_n 2, 1) := by decide +kernel
theorem e159_66 : decode (px_cd 159) 66 = .ok (.invokevirtual 183, 3) := by decide +kernel
theorem e159_69 : decode (px_cd 159) 69 = .ok (.ldc2_w 179, 3) := by decide +kernel
theorem e159_72 : decode (px_cd 159) 72 = .ok (.lcmp, 1) := by decide +kernel
theorem e159_73 : decode (px_cd 159) 73 = .ok (.ifCond .le 21, 3) := by decide +kernel
theorem e159_76 : decode (px_cd 159) 76 = .ok (.aload_n 0, 1) := by decide +kernel
theorem e159_77 : decode (px_cd 159) 77 = .ok (.bipush 22, 2) := by decide +kernel
theorem e159_79 : decode (px_cd 159) 79 = .ok (.aload_n 0, 1) := by decide +kernel
theorem e159_80 : decode (px_cd 159) 80 = .ok (.aload_n 0, 1) := by decide +kernel
theorem e159_81 : decode (px_cd 159) 81 = .ok (.getfield 42, 3) := by decide +kernel
theorem e159_84 : decode (px_cd 159) 84 = .ok (.iload_n 2, 1) := by decide +kernel
theorem e159_85 : decode (px_cd 159) 85 = .ok (.iaload, 1) := by decide +kernel
theorem e159_86 : decode (px_cd 159) 86 = .ok (.iconst 5, 1) := by decide +kernel
theorem e159_87 : decode (px_cd 159) 87 = .ok (.invokevirtual 161, 3) := by decide +kernel
theorem e159_90 : decode (px_cd 159) 90 = .ok (.invokevirtual 142, 3) := by decide +kernel
theorem e159_93 : decode (px_cd 159) 93 = .ok (.ireturn, 1) := by decide +kernel
theorem e159_94 : decode (px_cd 159) 94 = .ok (.iinc 2 1, 3) := by decide +kernel
theorem e159_97 : decode (px_cd 159) 97 = .ok (.goto (-48), 3) := by decide +kernel
theorem e159_100 : decode (px_cd 159) 100 = .ok (.aload_n 0, 1) := by decide +kernel
theorem e159_101 : decode (px_cd 159) 101 = .ok (.iconst 0, 1) := by decide +kernel
theorem e159_102 : decode (px_cd 159) 102 = .ok (.iconst 1, 1) := by decide +kernel
theorem e159_103 : decode (px_cd 159) 103 = .ok (.invokevirtual 189, 3) := by decide +kernel
theorem e159_106 : decode (px_cd 159) 106 = .ok (.istore_n 2, 1) := by decide +kernel
theorem e159_107 : decode (px_cd 159) 107 = .ok (.iload_n 2, 1) := by decide +kernel
theorem e159_108 : decode (px_cd 159) 108 = .ok (.ifCond .eq 7, 3) := by decide +kernel
theorem e159_111 : decode (px_cd 159) 111 = .ok (.iload_n 2, 1) := by decide +kernel
theorem e159_112 : decode (px_cd 159) 112 = .ok (.goto 9, 3) := by decide +kernel
theorem e159_115 : decode (px_cd 159) 115 = .ok (.aload_n 0, 1) := by decide +kernel
theorem e159_116 : decode (px_cd 159) 116 = .ok (.iconst 0, 1) := by decide +kernel
theorem e159_117 : decode (px_cd 159) 117 = .ok (.iconst 2, 1) := by decide +kernel
theorem e159_118 : decode (px_cd 159) 118 = .ok (.invokevirtual 189, 3) := by decide +kernel
theorem e159_121 : decode (px_cd 159) 121 = .ok (.istore_n 2, 1) := by decide +kernel
theorem e159_122 : decode (px_cd 159) 122 = .ok (.iload_n 2, 1) := by decide +kernel
theorem e159_123 : decode (px_cd 159) 123 = .ok (.ifCond .eq 7, 3) := by decide +kernel
theorem e159_126 : decode (px_cd 159) 126 = .ok (.iload_n 2, 1) := by decide +kernel
theorem e159_127 : decode (px_cd 159) 127 = .ok (.goto 9, 3) := by decide +kernel
theorem e159_130 : decode (px_cd 159) 130 = .ok (.aload_n 0, 1) := by decide +kernel
theorem e159_131 : decode (px_cd 159) 131 = .ok (.iconst 1, 1) := by decide +kernel
theorem e159_132 : decode (px_cd 159) 132 = .ok (.iconst 2, 1) := by decide +kernel
theorem e159_133 : decode (px_cd 159) 133 = .ok (.invokevirtual 189, 3) := by decide +kernel
theorem e159_136 : decode (px_cd 159) 136 = .ok (.istore_n 2, 1) := by decide +kernel
theorem e159_137 : decode (px_cd 159) 137 = .ok (.iload_n 2, 1) := by decide +kernel
theorem e159_138 : decode (px_cd 159) 138 = .ok (.ifCond .eq 5, 3) := by decide +kernel
theorem e159_141 : decode (px_cd 159) 141 = .ok (.iload_n 2, 1) := by decide +kernel
theorem e159_142 : decode (px_cd 159) 142 = .ok (.ireturn, 1) := by decide +kernel
theorem e159_143 : decode (px_cd 159) 143 = .ok (.aload_n 0, 1) := by decide +kernel
theorem e159_144 : decode (px_cd 159) 144 = .ok (.getfield 42, 3) := by decide +kernel
theorem e159_147 : decode (px_cd 159) 147 = .ok (.iconst 3, 1) := by decide +kernel
theorem e159_148 : decode (px_cd 159) 148 = .ok (.iaload, 1) := by decide +kernel
theorem e159_149 : decode (px_cd 159) 149 = .ok (.iconst (-1), 1) := by decide +kernel
theorem e159_150 : decode (px_cd 159) 150 = .ok (.if_icmp .ne 14, 3) := by decide +kernel
theorem e159_153 : decode (px_cd 159) 153 = .ok (.aload_n 0, 1) := by decide +kernel
theorem e159_154 : decode (px_cd 159) 154 = .ok (.bipush 24, 2) := by decide +kernel
theorem e159_156 : decode (px_cd 159) 156 = .ok (.bipush 44, 2) := by decide +kernel
theorem e159_158 : decode (px_cd 159) 158 = .ok (.invokevirtual 142, 3) := by decide +kernel
theorem e159_161 : decode (px_cd 159) 161 = .ok (.goto 38, 3) := by decide +kernel
theorem e159_164 : decode (px_cd 159) 164 = .ok (.aload_n 0, 1) := by decide +kernel
theorem e159_165 : decode (px_cd 159) 165 = .ok (.aload_n 0, 1) := by decide +kernel
theorem e159_166 : decode (px_cd 159) 166 = .ok (.aload_n 0, 1) := by decide +kernel
theorem e159_167 : decode (px_cd 159) 167 = .ok (.getfield 42, 3) := by decide +kernel
theorem e159_170 : decode (px_cd 159) 170 = .ok (.iconst 3, 1) := by decide +kernel
theorem e159_171 : decode (px_cd 159) 171 = .ok (.iaload, 1) := by decide +kernel
theorem e159_172 : decode (px_cd 159) 172 = .ok (.iconst 1, 1) := by decide +kernel
theorem e159_173 : decode (px_cd 159) 173 = .ok (.invokevirtual 164, 3) := by decide +kernel
theorem e159_176 : decode (px_cd 159) 176 = .ok (.l2i, 1) := by decide +kernel
theorem e159_177 : decode (px_cd 159) 177 = .ok (.aload_n 0, 1) := by decide +kernel
theorem e159_178 : decode (px_cd 159) 178 = .ok (.aload_n 0, 1) := by decide +kernel
theorem e159_179 : decode (px_cd 159) 179 = .ok (.getfield 42, 3) := by decide +kernel
theorem e159_182 : decode (px_cd 159) 182 = .ok (.iconst 3, 1) := by decide +kernel
theorem e159_183 : decode (px_cd 159) 183 = .ok (.iaload, 1) := by decide +kernel
theorem e159_184 : decode (px_cd 159) 184 = .ok (.iconst 4, 1) := by decide +kernel
theorem e159_185 : decode (px_cd 159) 185 = .ok (.invokevirtual 164, 3) := by decide +kernel
theorem e159_188 : decode (px_cd 159) 188 = .ok (.l2i, 1) := by decide +kernel
theorem e159_189 : decode (px_cd 159) 189 = .ok (.aload_n 0, 1) := by decide +kernel
theorem e159_190 : decode (px_cd 159) 190 = .ok (.iload_n 1, 1) := by decide +kernel
theorem e159_191 : decode (px_cd 159) 191 = .ok (.iconst 4, 1) := by decide +kernel
theorem e159_192 : decode (px_cd 159) 192 = .ok (.invokevirtual 164, 3) := by decide +kernel
theorem e159_195 : decode (px_cd 159) 195 = .ok (.l2i, 1) := by decide +kernel
theorem e159_196 : decode (px_cd 159) 196 = .ok (.invokevirtual 192, 3) := by decide +kernel
theorem e159_199 : decode (px_cd 159) 199 = .ok (.ireturn, 1) := by decide +kernel
-- 160 ImageFileModel_endIn
theorem e160_0 : decode (px_cd 160) 0 = .ok (.aload_n 0, 1) := by decide +kernel
theorem e160_1 : decode (px_cd 160) 1 = .ok (.aload_n 0, 1) := by decide +kernel
theorem e160_2 : decode (px_cd 160) 2 = .ok (.getfield 42, 3) := by decide +kernel
theorem e160_5 : decode (px_cd 160) 5 = .ok (.iload_n 1, 1) := by decide +kernel
theorem e160_6 : decode (px_cd 160) 6 = .ok (.iaload, 1) := by decide +kernel
theorem e160_7 : decode (px_cd 160) 7 = .ok (.iconst 2, 1) := by decide +kernel
theorem e160_8 : decode (px_cd 160) 8 = .ok (.invokevirtual 164, 3) := by decide +kernel
theorem e160_11 : decode (px_cd 160) 11 = .ok (.aload_n 0, 1) := by decide +kernel
theorem e160_12 : decode (px_cd 160) 12 = .ok (.aload_n 0, 1) := by decide +kernel
theorem e160_13 : decode (px_cd 160) 13 = .ok (.getfield 42, 3) := by decide +kernel
theorem e160_16 : decode (px_cd 160) 16 = .ok (.iload_n 1, 1) := by decide +kernel
theorem e160_17 : decode (px_cd 160) 17 = .ok (.iaload, 1) := by decide +kernel
theorem e160_18 : decode (px_cd 160) 18 = .ok (.iconst 5, 1) := by decide +kernel
theorem e160_19 : decode (px_cd 160) 19 = .ok (.invokevirtual 164, 3) := by decide +kernel
theorem e160_22 : decode (px_cd 160) 22 = .ok (.ladd, 1) := by decide +kernel
theorem e160_23 : decode (px_cd 160) 23 = .ok (.lreturn, 1) := by decide +kernel
-- 161 ImageFileModel_meetFault
theorem e161_0 : decode (px_cd 161) 0 = .ok (.aload_n 0, 1) := by decide +kernel
theorem e161_1 : decode (px_cd 161) 1 = .ok (.iload_n 1, 1) := by decide +kernel
theorem e161_2 : decode (px_cd 161) 2 = .ok (.iload_n 2, 1) := by decide +kernel
theorem e161_3 : decode (px_cd 161) 3 = .ok (.invokevirtual 186, 3) := by decide +kernel
theorem e161_6 : decode (px_cd 161) 6 = .ok (.ifCond .ne 5, 3) := by decide +kernel
theorem e161_9 : decode (px_cd 161) 9 = .ok (.iconst 0, 1) := by decide +kernel
theorem e161_10 : decode (px_cd 161) 10 = .ok (.ireturn, 1) := by decide +kernel
theorem e161_11 : decode (px_cd 161) 11 = .ok (.aload_n 0, 1) := by decide +kernel
theorem e161_12 : decode (px_cd 161) 12 = .ok (.getfield 42, 3) := by decide +kernel
theorem e161_15 : decode (px_cd 161) 15 = .ok (.iload_n 1, 1) := by decide +kernel
theorem e161_16 : decode (px_cd 161) 16 = .ok (.iaload, 1) := by decide +kernel
theorem e161_17 : decode (px_cd 161) 17 = .ok (.aload_n 0, 1) := by decide +kernel
theorem e161_18 : decode (px_cd 161) 18 = .ok (.getfield 42, 3) := by decide +kernel
theorem e161_21 : decode (px_cd 161) 21 = .ok (.iload_n 2, 1) := by decide +kernel
theorem e161_22 : decode (px_cd 161) 22 = .ok (.iaload, 1) := by decide +kernel
theorem e161_23 : decode (px_cd 161) 23 = .ok (.if_icmp .le 12, 3) := by decide +kernel
theorem e161_26 : decode (px_cd 161) 26 = .ok (.aload_n 0, 1) := by decide +kernel
theorem e161_27 : decode (px_cd 161) 27 = .ok (.getfield 42, 3) := by decide +kernel
theorem e161_30 : decode (px_cd 161) 30 = .ok (.iload_n 1, 1) := by decide +kernel
theorem e161_31 : decode (px_cd 161) 31 = .ok (.iaload, 1) := by decide +kernel
theorem e161_32 : decode (px_cd 161) 32 = .ok (.goto 9, 3) := by decide +kernel
theorem e161_35 : decode (px_cd 161) 35 = .ok (.aload_n 0, 1) := by decide +kernel
theorem e161_36 : decode (px_cd 161) 36 = .ok (.getfield 42, 3) := by decide +kernel
theorem e161_39 : decode (px_cd 161) 39 = .ok (.iload_n 2, 1) := by decide +kernel
theorem e161_40 : decode (px_cd 161) 40 = .ok (.iaload, 1) := by decide +kernel
theorem e161_41 : decode (px_cd 161) 41 = .ok (.istore_n 3, 1) := by decide +kernel
theorem e161_42 : decode (px_cd 161) 42 = .ok (.aload_n 0, 1) := by decide +kernel
theorem e161_43 : decode (px_cd 161) 43 = .ok (.bipush 23, 2) := by decide +kernel
theorem e161_45 : decode (px_cd 161) 45 = .ok (.aload_n 0, 1) := by decide +kernel
theorem e161_46 : decode (px_cd 161) 46 = .ok (.iload_n 3, 1) := by decide +kernel
theorem e161_47 : decode (px_cd 161) 47 = .ok (.iconst 2, 1) := by decide +kernel
theorem e161_48 : decode (px_cd 161) 48 = .ok (.invokevirtual 161, 3) := by decide +kernel
theorem e161_51 : decode (px_cd 161) 51 = .ok (.invokevirtual 142, 3) := by decide +kernel
theorem e161_54 : decode (px_cd 161) 54 = .ok (.ireturn, 1) := by decide +kernel
-- 162 ImageFileModel_meetsIn
theorem e162_0 : decode (px_cd 162) 0 = .ok (.aload_n 0, 1) := by decide +kernel
theorem e162_1 : decode (px_cd 162) 1 = .ok (.getfield 42, 3) := by decide +kernel
theorem e162_4 : decode (px_cd 162) 4 = .ok (.iload_n 1, 1) := by decide +kernel
theorem e162_5 : decode (px_cd 162) 5 = .ok (.iaload, 1) := by decide +kernel
theorem e162_6 : decode (px_cd 162) 6 = .ok (.iconst (-1), 1) := by decide +kernel
theorem e162_7 : decode (px_cd 162) 7 = .ok (.if_icmp .eq 45, 3) := by decide +kernel
theorem e162_10 : decode (px_cd 162) 10 = .ok (.aload_n 0, 1) := by decide +kernel
theorem e162_11 : decode (px_cd 162) 11 = .ok (.getfield 42, 3) := by decide +kernel
theorem e162_14 : decode (px_cd 162) 14 = .ok (.iload_n 2, 1) := by decide +kernel
theorem e162_15 : decode (px_cd 162) 15 = .ok (.iaload, 1) := by decide +kernel
theorem e162_16 : decode (px_cd 162) 16 = .ok (.iconst (-1), 1) := by decide +kernel
theorem e162_17 : decode (px_cd 162) 17 = .ok (.if_icmp .eq 35, 3) := by decide +kernel
theorem e162_20 : decode (px_cd 162) 20 = .ok (.aload_n 0, 1) := by decide +kernel
theorem e162_21 : decode (px_cd 162) 21 = .ok (.aload_n 0, 1) := by decide +kernel
theorem e162_22 : decode (px_cd 162) 22 = .ok (.getfield 42, 3) := by decide +kernel
theorem e162_25 : decode (px_cd 162) 25 = .ok (.iload_n 1, 1) := by decide +kernel
theorem e162_26 : decode (px_cd 162) 26 = .ok (.iaload, 1) := by decide +kernel
theorem e162_27 : decode (px_cd 162) 27 = .ok (.iconst 5, 1) := by decide +kernel
theorem e162_28 : decode (px_cd 162) 28 = .ok (.invokevirtual 164, 3) := by decide +kernel
theorem e162_31 : decode (px_cd 162) 31 = .ok (.lconst 0, 1) := by decide +kernel
theorem e162_32 : decode (px_cd 162) 32 = .ok (.lcmp, 1) := by decide +kernel
theorem e162_33 : decode (px_cd 162) 33 = .ok (.ifCond .eq 19, 3) := by decide +kernel
theorem e162_36 : decode (px_cd 162) 36 = .ok (.aload_n 0, 1) := by decide +kernel
theorem e162_37 : decode (px_cd 162) 37 = .ok (.aload_n 0, 1) := by decide +kernel
theorem e162_38 : decode (px_cd 162) 38 = .ok (.getfield 42, 3) := by decide +kernel
theorem e162_41 : decode (px_cd 162) 41 = .ok (.iload_n 2, 1) := by decide +kernel
theorem e162_42 : decode (px_cd 162) 42 = .ok (.iaload, 1) := by decide +kernel
theorem e162_43 : decode (px_cd 162) 43 = .ok (.iconst 5, 1) := by decide +kernel
theorem e162_44 : decode (px_cd 162) 44 = .ok (.invokevirtual 164, 3) := by decide +kernel
theorem e162_47 : decode (px_cd 162) 47 = .ok (.lconst 0, 1) := by decide +kernel
theorem e162_48 : decode (px_cd 162) 48 = .ok (.lcmp, 1) := by decide +kernel
theorem e162_49 : decode (px_cd 162) 49 = .ok (.ifCond .ne 5, 3) := by decide +kernel
theorem e162_52 : decode (px_cd 162) 52 = .ok (.iconst 0, 1) := by decide +kernel
theorem e162_53 : decode (px_cd 162) 53 = .ok (.ireturn, 1) := by decide +kernel
theorem e162_54 : decode (px_cd 162) 54 = .ok (.aload_n 0, 1) := by decide +kernel
theorem e162_55 : decode (px_cd 162) 55 = .ok (.aload_n 0, 1) := by decide +kernel
theorem e162_56 : decode (px_cd 162) 56 = .ok (.getfield 42, 3) := by decide +kernel
theorem e162_59 : decode (px_cd 162) 59 = .ok (.iload_n 1, 1) := by decide +kernel
theorem e162_60 : decode (px_cd 162) 60 = .ok (.iaload, 1) := by decide +kernel
theorem e162_61 : decode (px_cd 162) 61 = .ok (.iconst 2, 1) := by decide +kernel
theorem e162_62 : decode (px_cd 162) 62 = .ok (.invokevirtual 164, 3) := by decide +kernel
theorem e162_65 : decode (px_cd 162) 65 = .ok (.aload_n 0, 1) := by decide +kernel
theorem e162_66 : decode (px_cd 162) 66 = .ok (.iload_n 2, 1) := by decide +kernel
theorem e162_67 : decode (px_cd 162) 67 = .ok (.invokevirtual 183, 3) := by decide +kernel
theorem e162_70 : decode (px_cd 162) 70 = .ok (.lcmp, 1) := by decide +kernel
theorem e162_71 : decode (px_cd 162) 71 = .ok (.ifCond .ge 27, 3) := by decide +kernel
theorem e162_74 : decode (px_cd 162) 74 = .ok (.aload_n 0, 1) := by decide +kernel
theorem e162_75 : decode (px_cd 162) 75 = .ok (.aload_n 0, 1) := by decide +kernel
theorem e162_76 : decode (px_cd 162) 76 = .ok (.getfield 42, 3) := by decide +kernel
theorem e162_79 : decode (px_cd 162) 79 = .ok (.iload_n 2, 1) := by decide +kernel
theorem e162_80 : decode (px_cd 162) 80 = .ok (.iaload, 1) := by decide +kernel
theorem e162_81 : decode (px_cd 162) 81 = .ok (.iconst 2, 1) := by decide +kernel
theorem e162_82 : decode (px_cd 162) 82 = .ok (.invokevirtual 164, 3) := by decide +kernel
theorem e162_85 : decode (px_cd 162) 85 = .ok (.aload_n 0, 1) := by decide +kernel
theorem e162_86 : decode (px_cd 162) 86 = .ok (.iload_n 1, 1) := by decide +kernel
theorem e162_87 : decode (px_cd 162) 87 = .ok (.invokevirtual 183, 3) := by decide +kernel
theorem e162_90 : decode (px_cd 162) 90 = .ok (.lcmp, 1) := by decide +kernel
theorem e162_91 : decode (px_cd 162) 91 = .ok (.ifCond .ge 7, 3) := by decide +kernel
theorem e162_94 : decode (px_cd 162) 94 = .ok (.iconst 1, 1) := by decide +kernel
theorem e162_95 : decode (px_cd 162) 95 = .ok (.goto 4, 3) := by decide +kernel
theorem e162_98 : decode (px_cd 162) 98 = .ok (.iconst 0, 1) := by decide +kernel
theorem e162_99 : decode (px_cd 162) 99 = .ok (.ireturn, 1) := by decide +kernel
-- 163 ImageFileModel_noteFault
theorem e163_0 : decode (px_cd 163) 0 = .ok (.aload_n 0, 1) := by decide +kernel
theorem e163_1 : decode (px_cd 163) 1 = .ok (.aload_n 0, 1) := by decide +kernel
theorem e163_2 : decode (px_cd 163) 2 = .ok (.getfield 42, 3) := by decide +kernel
theorem e163_5 : decode (px_cd 163) 5 = .ok (.iconst 3, 1) := by decide +kernel
theorem e163_6 : decode (px_cd 163) 6 = .ok (.iaload, 1) := by decide +kernel
theorem e163_7 : decode (px_cd 163) 7 = .ok (.iconst 4, 1) := by decide +kernel
theorem e163_8 : decode (px_cd 163) 8 = .ok (.invokevirtual 161, 3) := by decide +kernel
theorem e163_11 : decode (px_cd 163) 11 = .ok (.istore 4, 2) := by decide +kernel
theorem e163_13 : decode (px_cd 163) 13 = .ok (.iload_n 2, 1) := by decide +kernel
theorem e163_14 : decode (px_cd 163) 14 = .ok (.bipush 28, 2) := by decide +kernel
theorem e163_16 : decode (px_cd 163) 16 = .ok (.if_icmp .ge 12, 3) := by decide +kernel
theorem e163_19 : decode (px_cd 163) 19 = .ok (.aload_n 0, 1) := by decide +kernel
theorem e163_20 : decode (px_cd 163) 20 = .ok (.bipush 25, 2) := by decide +kernel
theorem e163_22 : decode (px_cd 163) 22 = .ok (.iload 4, 2) := by decide +kernel
theorem e163_24 : decode (px_cd 163) 24 = .ok (.invokevirtual 142, 3) := by decide +kernel
theorem e163_27 : decode (px_cd 163) 27 = .ok (.ireturn, 1) := by decide +kernel
theorem e163_28 : decode (px_cd 163) 28 = .ok (.aload_n 0, 1) := by decide +kernel
theorem e163_29 : decode (px_cd 163) 29 = .ok (.iload_n 1, 1) := by decide +kernel
theorem e163_30 : decode (px_cd 163) 30 = .ok (.invokevirtual 145, 3) := by decide +kernel
theorem e163_33 : decode (px_cd 163) 33 = .ok (.ldc2_w 170, 3) := by decide +kernel
theorem e163_36 : decode (px_cd 163) 36 = .ok (.lcmp, 1) := by decide +kernel
theorem e163_37 : decode (px_cd 163) 37 = .ok (.ifCond .eq 11, 3) := by decide +kernel
theorem e163_40 : decode (px_cd 163) 40 = .ok (.aload_n 0, 1) := by decide +kernel
theorem e163_41 : decode (px_cd 163) 41 = .ok (.bipush 25, 2) := by decide +kernel
theorem e163_43 : decode (px_cd 163) 43 = .ok (.iload_n 1, 1) := by decide +kernel
theorem e163_44 : decode (px_cd 163) 44 = .ok (.invokevirtual 142, 3) := by decide +kernel
theorem e163_47 : decode (px_cd 163) 47 = .ok (.ireturn, 1) := by decide +kernel
theorem e163_48 : decode (px_cd 163) 48 = .ok (.aload_n 0, 1) := by decide +kernel
theorem e163_49 : decode (px_cd 163) 49 = .ok (.iload_n 1, 1) := by decide +kernel
theorem e163_50 : decode (px_cd 163) 50 = .ok (.iconst 4, 1) := by decide +kernel
theorem e163_51 : decode (px_cd 163) 51 = .ok (.iadd, 1) := by decide +kernel
theorem e163_52 : decode (px_cd 163) 52 = .ok (.invokevirtual 145, 3) := by decide +kernel
theorem e163_55 : decode (px_cd 163) 55 = .ok (.iload_n 2, 1) := by decide +kernel
theorem e163_56 : decode (px_cd 163) 56 = .ok (.bipush 20, 2) := by decide +kernel
theorem e163_58 : decode (px_cd 163) 58 = .ok (.isub, 1) := by decide +kernel
theorem e163_59 : decode (px_cd 163) 59 = .ok (.i2l, 1) := by decide +kernel
theorem e163_60 : decode (px_cd 163) 60 = .ok (.lcmp, 1) := by decide +kernel
theorem e163_61 : decode (px_cd 163) 61 = .ok (.ifCond .eq 13, 3) := by decide +kernel
theorem e163_64 : decode (px_cd 163) 64 = .ok (.aload_n 0, 1) := by decide +kernel
theorem e163_65 : decode (px_cd 163) 65 = .ok (.bipush 25, 2) := by decide +kernel
theorem e163_67 : decode (px_cd 163) 67 = .ok (.iload_n 1, 1) := by decide +kernel
theorem e163_68 : decode (px_cd 163) 68 = .ok (.iconst 4, 1) := by decide +kernel
theorem e163_69 : decode (px_cd 163) 69 = .ok (.iadd, 1) := by decide +kernel
theorem e163_70 : decode (px_cd 163) 70 = .ok (.invokevirtual 142, 3) := by decide +kernel
theorem e163_73 : decode (px_cd 163) 73 = .ok (.ireturn, 1) := by decide +kernel
theorem e163_74 : decode (px_cd 163) 74 = .ok (.aload_n 0, 1) := by decide +kernel
theorem e163_75 : decode (px_cd 163) 75 = .ok (.iload_n 1, 1) := by decide +kernel
theorem e163_76 : decode (px_cd 163) 76 = .ok (.bipush 8, 2) := by decide +kernel
theorem e163_78 : decode (px_cd 163) 78 = .ok (.iadd, 1) := by decide +kernel
theorem e163_79 : decode (px_cd 163) 79 = .ok (.invokevirtual 145, 3) := by decide +kernel
theorem e163_82 : decode (px_cd 163) 82 = .ok (.lconst 1, 1) := by decide +kernel
theorem e163_83 : decode (px_cd 163) 83 = .ok (.lcmp, 1) := by decide +kernel
theorem e163_84 : decode (px_cd 163) 84 = .ok (.ifCond .eq 14, 3) := by decide +kernel
theorem e163_87 : decode (px_cd 163) 87 = .ok (.aload_n 0, 1) := by decide +kernel
theorem e163_88 : decode (px_cd 163) 88 = .ok (.bipush 25, 2) := by decide +kernel
theorem e163_90 : decode (px_cd 163) 90 = .ok (.iload_n 1, 1) := by decide +kernel
theorem e163_91 : decode (px_cd 163) 91 = .ok (.bipush 8, 2) := by decide +kernel
theorem e163_93 : decode (px_cd 163) 93 = .ok (.iadd, 1) := by decide +kernel
theorem e163_94 : decode (px_cd 163) 94 = .ok (.invokevirtual 142, 3) := by decide +kernel
theorem e163_97 : decode (px_cd 163) 97 = .ok (.ireturn, 1) := by decide +kernel
theorem e163_98 : decode (px_cd 163) 98 = .ok (.iconst 0, 1) := by decide +kernel
theorem e163_99 : decode (px_cd 163) 99 = .ok (.istore 5, 2) := by decide +kernel
theorem e163_101 : decode (px_cd 163) 101 = .ok (.iload 5, 2) := by decide +kernel
theorem e163_103 : decode (px_cd 163) 103 = .ok (.bipush 8, 2) := by decide +kernel
theorem e163_105 : decode (px_cd 163) 105 = .ok (.if_icmp .ge 43, 3) := by decide +kernel
theorem e163_108 : decode (px_cd 163) 108 = .ok (.aload_n 0, 1) := by decide +kernel
theorem e163_109 : decode (px_cd 163) 109 = .ok (.getfield 35, 3) := by decide +kernel
theorem e163_112 : decode (px_cd 163) 112 = .ok (.iload_n 1, 1) := by decide +kernel
theorem e163_113 : decode (px_cd 163) 113 = .ok (.bipush 12, 2) := by decide +kernel
theorem e163_115 : decode (px_cd 163) 115 = .ok (.iadd, 1) := by decide +kernel
theorem e163_116 : decode (px_cd 163) 116 = .ok (.iload 5, 2) := by decide +kernel
theorem e163_118 : decode (px_cd 163) 118 = .ok (.iadd, 1) := by decide +kernel
theorem e163_119 : decode (px_cd 163) 119 = .ok (.iaload, 1) := by decide +kernel
theorem e163_120 : decode (px_cd 163) 120 = .ok (.iload 5, 2) := by decide +kernel
theorem e163_122 : decode (px_cd 163) 122 = .ok (.invokestatic 196, 3) := by decide +kernel
theorem e163_125 : decode (px_cd 163) 125 = .ok (.if_icmp .eq 17, 3) := by decide +kernel
theorem e163_128 : decode (px_cd 163) 128 = .ok (.aload_n 0, 1) := by decide +kernel
theorem e163_129 : decode (px_cd 163) 129 = .ok (.bipush 25, 2) := by decide +kernel
theorem e163_131 : decode (px_cd 163) 131 = .ok (.iload_n 1, 1) := by decide +kernel
theorem e163_132 : decode (px_cd 163) 132 = .ok (.bipush 12, 2) := by decide +kernel
theorem e163_134 : decode (px_cd 163) 134 = .ok (.iadd, 1) := by decide +kernel
theorem e163_135 : decode (px_cd 163) 135 = .ok (.iload 5, 2) := by decide +kernel
theorem e163_137 : decode (px_cd 163) 137 = .ok (.iadd, 1) := by decide +kernel
theorem e163_138 : decode (px_cd 163) 138 = .ok (.invokevirtual 142, 3) := by decide +kernel
theorem e163_141 : decode (px_cd 163) 141 = .ok (.ireturn, 1) := by decide +kernel
theorem e163_142 : decode (px_cd 163) 142 = .ok (.iinc 5 1, 3) := by decide +kernel
theorem e163_145 : decode (px_cd 163) 145 = .ok (.goto (-44), 3) := by decide +kernel
theorem e163_148 : decode (px_cd 163) 148 = .ok (.aload_n 0, 1) := by decide +kernel
theorem e163_149 : decode (px_cd 163) 149 = .ok (.iload_n 1, 1) := by decide +kernel
theorem e163_150 : decode (px_cd 163) 150 = .ok (.bipush 20, 2) := by decide +kernel
theorem e163_152 : decode (px_cd 163) 152 = .ok (.iadd, 1) := by decide +kernel
theorem e163_153 : decode (px_cd 163) 153 = .ok (.invokevirtual 145, 3) := by decide +kernel
theorem e163_156 : decode (px_cd 163) 156 = .ok (.iload_n 3, 1) := by decide +kernel
theorem e163_157 : decode (px_cd 163) 157 = .ok (.iconst 2, 1) := by decide +kernel
theorem e163_158 : decode (px_cd 163) 158 = .ok (.idiv, 1) := by decide +kernel
theorem e163_159 : decode (px_cd 163) 159 = .ok (.i2l, 1) := by decide +kernel
theorem e163_160 : decode (px_cd 163) 160 = .ok (.lcmp, 1) := by decide +kernel
theorem e163_161 : decode (px_cd 163) 161 = .ok (.ifCond .eq 14, 3) := by decide +kernel
theorem e163_164 : decode (px_cd 163) 164 = .ok (.aload_n 0, 1) := by decide +kernel
theorem e163_165 : decode (px_cd 163) 165 = .ok (.bipush 25, 2) := by decide +kernel
theorem e163_167 : decode (px_cd 163) 167 = .ok (.iload_n 1, 1) := by decide +kernel
theorem e163_168 : decode (px_cd 163) 168 = .ok (.bipush 20, 2) := by decide +kernel
theorem e163_170 : decode (px_cd 163) 170 = .ok (.iadd, 1) := by decide +kernel
theorem e163_171 : decode (px_cd 163) 171 = .ok (.invokevirtual 142, 3) := by decide +kernel
theorem e163_174 : decode (px_cd 163) 174 = .ok (.ireturn, 1) := by decide +kernel
theorem e163_175 : decode (px_cd 163) 175 = .ok (.iload_n 3, 1) := by decide +kernel
theorem e163_176 : decode (px_cd 163) 176 = .ok (.bipush 15, 2) := by decide +kernel
theorem e163_178 : decode (px_cd 163) 178 = .ok (.iadd, 1) := by decide +kernel
theorem e163_179 : decode (px_cd 163) 179 = .ok (.bipush 16, 2) := by decide +kernel
theorem e163_181 : decode (px_cd 163) 181 = .ok (.idiv, 1) := by decide +kernel
theorem e163_182 : decode (px_cd 163) 182 = .ok (.istore 5, 2) := by decide +kernel
theorem e163_184 : decode (px_cd 163) 184 = .ok (.iload_n 2, 1) := by decide +kernel
theorem e163_185 : decode (px_cd 163) 185 = .ok (.bipush 28, 2) := by decide +kernel
theorem e163_187 : decode (px_cd 163) 187 = .ok (.iload 5, 2) := by decide +kernel
theorem e163_189 : decode (px_cd 163) 189 = .ok (.invokestatic 115, 3) := by decide +kernel
theorem e163_192 : decode (px_cd 163) 192 = .ok (.iadd, 1) := by decide +kernel
theorem e163_193 : decode (px_cd 163) 193 = .ok (.if_icmp .eq 12, 3) := by decide +kernel
theorem e163_196 : decode (px_cd 163) 196 = .ok (.aload_n 0, 1) := by decide +kernel
theorem e163_197 : decode (px_cd 163) 197 = .ok (.bipush 25, 2) := by decide +kernel
theorem e163_199 : decode (px_cd 163) 199 = .ok (.iload 4, 2) := by decide +kernel
theorem e163_201 : decode (px_cd 163) 201 = .ok (.invokevirtual 142, 3) := by decide +kernel
theorem e163_204 : decode (px_cd 163) 204 = .ok (.ireturn, 1) := by decide +kernel
theorem e163_205 : decode (px_cd 163) 205 = .ok (.iconst 0, 1) := by decide +kernel
theorem e163_206 : decode (px_cd 163) 206 = .ok (.istore 6, 2) := by decide +kernel
theorem e163_208 : decode (px_cd 163) 208 = .ok (.iload 6, 2) := by decide +kernel
theorem e163_210 : decode (px_cd 163) 210 = .ok (.iload_n 2, 1) := by decide +kernel
theorem e163_211 : decode (px_cd 163) 211 = .ok (.bipush 28, 2) := by decide +kernel
theorem e163_213 : decode (px_cd 163) 213 = .ok (.isub, 1) := by decide +kernel
theorem e163_214 : decode (px_cd 163) 214 = .ok (.if_icmp .ge 74, 3) := by decide +kernel
theorem e163_217 : decode (px_cd 163) 217 = .ok (.iconst 0, 1) := by decide +kernel
theorem e163_218 : decode (px_cd 163) 218 = .ok (.istore 7, 2) := by decide +kernel
theorem e163_220 : decode (px_cd 163) 220 = .ok (.iload 7, 2) := by decide +kernel
theorem e163_222 : decode (px_cd 163) 222 = .ok (.bipush 8, 2) := by decide +kernel
theorem e163_224 : decode (px_cd 163) 224 = .ok (.if_icmp .ge 58, 3) := by decide +kernel
theorem e163_227 : decode (px_cd 163) 227 = .ok (.aload_n 0, 1) := by decide +kernel
theorem e163_228 : decode (px_cd 163) 228 = .ok (.getfield 35, 3) := by decide +kernel
theorem e163_231 : decode (px_cd 163) 231 = .ok (.iload_n 1, 1) := by decide +kernel
theorem e163_232 : decode (px_cd 163) 232 = .ok (.bipush 28, 2) := by decide +kernel
theorem e163_234 : decode (px_cd 163) 234 = .ok (.iadd, 1) := by decide +kernel
theorem e163_235 : decode (px_cd 163) 235 = .ok (.iload 6, 2) := by decide +kernel
theorem e163_237 : decode (px_cd 163) 237 = .ok (.iadd, 1) := by decide +kernel
theorem e163_238 : decode (px_cd 163) 238 = .ok (.iaload, 1) := by decide +kernel
theorem e163_239 : decode (px_cd 163) 239 = .ok (.iload 7, 2) := by decide +kernel
theorem e163_241 : decode (px_cd 163) 241 = .ok (.ishr, 1) := by decide +kernel
theorem e163_242 : decode (px_cd 163) 242 = .ok (.iconst 1, 1) := by decide +kernel
theorem e163_243 : decode (px_cd 163) 243 = .ok (.iand, 1) := by decide +kernel
theorem e163_244 : decode (px_cd 163) 244 = .ok (.iconst 1, 1) := by decide +kernel
theorem e163_245 : decode (px_cd 163) 245 = .ok (.if_icmp .ne 31, 3) := by decide +kernel
theorem e163_248 : decode (px_cd 163) 248 = .ok (.bipush 16, 2) := by decide +kernel
theorem e163_250 : decode (px_cd 163) 250 = .ok (.iload 6, 2) := by decide +kernel
theorem e163_252 : decode (px_cd 163) 252 = .ok (.imul, 1) := by decide +kernel
theorem e163_253 : decode (px_cd 163) 253 = .ok (.iconst 2, 1) := by decide +kernel
theorem e163_254 : decode (px_cd 163) 254 = .ok (.iload 7, 2) := by decide +kernel
theorem e163_256 : decode (px_cd 163) 256 = .ok (.imul, 1) := by decide +kernel
theorem e163_257 : decode (px_cd 163) 257 = .ok (.iadd, 1) := by decide +kernel
theorem e163_258 : decode (px_cd 163) 258 = .ok (.iload_n 3, 1) := by decide +kernel
theorem e163_259 : decode (px_cd 163) 259 = .ok (.if_icmp .lt 17, 3) := by decide +kernel
theorem e163_262 : decode (px_cd 163) 262 = .ok (.aload_n 0, 1) := by decide +kernel
theorem e163_263 : decode (px_cd 163) 263 = .ok (.bipush 26, 2) := by decide +kernel
theorem e163_265 : decode (px_cd 163) 265 = .ok (.iload_n 1, 1) := by decide +kernel
theorem e163_266 : decode (px_cd 163) 266 = .ok (.bipush 28, 2) := by decide +kernel
theorem e163_268 : decode (px_cd 163) 268 = .ok (.iadd, 1) := by decide +kernel
theorem e163_269 : decode (px_cd 163) 269 = .ok (.iload 6, 2) := by decide +kernel
theorem e163_271 : decode (px_cd 163) 271 = .ok (.iadd, 1) := by decide +kernel
theorem e163_272 : decode (px_cd 163) 272 = .ok (.invokevirtual 142, 3) := by decide +kernel
theorem e163_275 : decode (px_cd 163) 275 = .ok (.ireturn, 1) := by decide +kernel
theorem e163_276 : decode (px_cd 163) 276 = .ok (.iinc 7 1, 3) := by decide +kernel
theorem e163_279 : decode (px_cd 163) 279 = .ok (.goto (-59), 3) := by decide +kernel
theorem e163_282 : decode (px_cd 163) 282 = .ok (.iinc 6 1, 3) := by decide +kernel
theorem e163_285 : decode (px_cd 163) 285 = .ok (.goto (-77), 3) := by decide +kernel
theorem e163_288 : decode (px_cd 163) 288 = .ok (.iconst 0, 1) := by decide +kernel
theorem e163_289 : decode (px_cd 163) 289 = .ok (.ireturn, 1) := by decide +kernel
-- 164 ImageFileModel_nameByte
theorem e164_0 : decode (px_cd 164) 0 = .ok (.iload_n 0, 1) := by decide +kernel
theorem e164_1 : decode (px_cd 164) 1 = .ok (.ifCond .ne 8, 3) := by decide +kernel
theorem e164_4 : decode (px_cd 164) 4 = .ok (.bipush 77, 2) := by decide +kernel
theorem e164_6 : decode (px_cd 164) 6 = .ok (.goto 44, 3) := by decide +kernel
theorem e164_9 : decode (px_cd 164) 9 = .ok (.iload_n 0, 1) := by decide +kernel
theorem e164_10 : decode (px_cd 164) 10 = .ok (.iconst 1, 1) := by decide +kernel
theorem e164_11 : decode (px_cd 164) 11 = .ok (.if_icmp .ne 8, 3) := by decide +kernel
theorem e164_14 : decode (px_cd 164) 14 = .ok (.bipush 97, 2) := by decide +kernel
theorem e164_16 : decode (px_cd 164) 16 = .ok (.goto 34, 3) := by decide +kernel
theorem e164_19 : decode (px_cd 164) 19 = .ok (.iload_n 0, 1) := by decide +kernel
theorem e164_20 : decode (px_cd 164) 20 = .ok (.iconst 2, 1) := by decide +kernel
theorem e164_21 : decode (px_cd 164) 21 = .ok (.if_icmp .ne 8, 3) := by decide +kernel
theorem e164_24 : decode (px_cd 164) 24 = .ok (.bipush 114, 2) := by decide +kernel
theorem e164_26 : decode (px_cd 164) 26 = .ok (.goto 24, 3) := by decide +kernel
theorem e164_29 : decode (px_cd 164) 29 = .ok (.iload_n 0, 1) := by decide +kernel
theorem e164_30 : decode (px_cd 164) 30 = .ok (.iconst 3, 1) := by decide +kernel
theorem e164_31 : decode (px_cd 164) 31 = .ok (.if_icmp .ne 8, 3) := by decide +kernel
theorem e164_34 : decode (px_cd 164) 34 = .ok (.bipush 107, 2) := by decide +kernel
theorem e164_36 : decode (px_cd 164) 36 = .ok (.goto 14, 3) := by decide +kernel
theorem e164_39 : decode (px_cd 164) 39 = .ok (.iload_n 0, 1) := by decide +kernel
theorem e164_40 : decode (px_cd 164) 40 = .ok (.iconst 4, 1) := by decide +kernel
theorem e164_41 : decode (px_cd 164) 41 = .ok (.if_icmp .ne 8, 3) := by decide +kernel
theorem e164_44 : decode (px_cd 164) 44 = .ok (.bipush 115, 2) := by decide +kernel
theorem e164_46 : decode (px_cd 164) 46 = .ok (.goto 4, 3) := by decide +kernel
theorem e164_49 : decode (px_cd 164) 49 = .ok (.iconst 0, 1) := by decide +kernel
theorem e164_50 : decode (px_cd 164) 50 = .ok (.ireturn, 1) := by decide +kernel
-- 165 ImageFileModel_markFaults
theorem e165_0 : decode (px_cd 165) 0 = .ok (.aload_n 0, 1) := by decide +kernel
theorem e165_1 : decode (px_cd 165) 1 = .ok (.aload_n 0, 1) := by decide +kernel
theorem e165_2 : decode (px_cd 165) 2 = .ok (.getfield 42, 3) := by decide +kernel
theorem e165_5 : decode (px_cd 165) 5 = .ok (.iconst 0, 1) := by decide +kernel
theorem e165_6 : decode (px_cd 165) 6 = .ok (.iaload, 1) := by decide +kernel
theorem e165_7 : decode (px_cd 165) 7 = .ok (.iconst 4, 1) := by decide +kernel
theorem e165_8 : decode (px_cd 165) 8 = .ok (.invokevirtual 164, 3) := by decide +kernel
theorem e165_11 : decode (px_cd 165) 11 = .ok (.l2i, 1) := by decide +kernel
theorem e165_12 : decode (px_cd 165) 12 = .ok (.istore_n 1, 1) := by decide +kernel
theorem e165_13 : decode (px_cd 165) 13 = .ok (.aload_n 0, 1) := by decide +kernel
theorem e165_14 : decode (px_cd 165) 14 = .ok (.aload_n 0, 1) := by decide +kernel
theorem e165_15 : decode (px_cd 165) 15 = .ok (.getfield 42, 3) := by decide +kernel
theorem e165_18 : decode (px_cd 165) 18 = .ok (.iconst 3, 1) := by decide +kernel
theorem e165_19 : decode (px_cd 165) 19 = .ok (.iaload, 1) := by decide +kernel
theorem e165_20 : decode (px_cd 165) 20 = .ok (.iconst 1, 1) := by decide +kernel
theorem e165_21 : decode (px_cd 165) 21 = .ok (.invokevirtual 164, 3) := by decide +kernel
theorem e165_24 : decode (px_cd 165) 24 = .ok (.l2i, 1) := by decide +kernel
theorem e165_25 : decode (px_cd 165) 25 = .ok (.istore_n 2, 1) := by decide +kernel
theorem e165_26 : decode (px_cd 165) 26 = .ok (.iconst 0, 1) := by decide +kernel
theorem e165_27 : decode (px_cd 165) 27 = .ok (.istore_n 3, 1) := by decide +kernel
theorem e165_28 : decode (px_cd 165) 28 = .ok (.iload_n 3, 1) := by decide +kernel
theorem e165_29 : decode (px_cd 165) 29 = .ok (.iload_n 1, 1) := by decide +kernel
theorem e165_30 : decode (px_cd 165) 30 = .ok (.if_icmp .ge 61, 3) := by decide +kernel
theorem e165_33 : decode (px_cd 165) 33 = .ok (.aload_n 0, 1) := by decide +kernel
theorem e165_34 : decode (px_cd 165) 34 = .ok (.iload_n 3, 1) := by decide +kernel
theorem e165_35 : decode (px_cd 165) 35 = .ok (.invokevirtual 199, 3) := by decide +kernel
theorem e165_38 : decode (px_cd 165) 38 = .ok (.ifCond .eq 47, 3) := by decide +kernel
theorem e165_41 : decode (px_cd 165) 41 = .ok (.aload_n 0, 1) := by decide +kernel
theorem e165_42 : decode (px_cd 165) 42 = .ok (.iload_n 3, 1) := by decide +kernel
theorem e165_43 : decode (px_cd 165) 43 = .ok (.invokevirtual 202, 3) := by decide +kernel
theorem e165_46 : decode (px_cd 165) 46 = .ok (.ifCond .eq 6, 3) := by decide +kernel
theorem e165_49 : decode (px_cd 165) 49 = .ok (.goto 36, 3) := by decide +kernel
theorem e165_52 : decode (px_cd 165) 52 = .ok (.iload_n 3, 1) := by decide +kernel
theorem e165_53 : decode (px_cd 165) 53 = .ok (.iconst 4, 1) := by decide +kernel
theorem e165_54 : decode (px_cd 165) 54 = .ok (.iadd, 1) := by decide +kernel
theorem e165_55 : decode (px_cd 165) 55 = .ok (.iload_n 1, 1) := by decide +kernel
theorem e165_56 : decode (px_cd 165) 56 = .ok (.if_icmp .gt 13, 3) := by decide +kernel
theorem e165_59 : decode (px_cd 165) 59 = .ok (.aload_n 0, 1) := by decide +kernel
theorem e165_60 : decode (px_cd 165) 60 = .ok (.iload_n 3, 1) := by decide +kernel
theorem e165_61 : decode (px_cd 165) 61 = .ok (.iconst 2, 1) := by decide +kernel
theorem e165_62 : decode (px_cd 165) 62 = .ok (.iadd, 1) := by decide +kernel
theorem e165_63 : decode (px_cd 165) 63 = .ok (.invokevirtual 199, 3) := by decide +kernel
theorem e165_66 : decode (px_cd 165) 66 = .ok (.ifCond .eq 19, 3) := by decide +kernel
theorem e165_69 : decode (px_cd 165) 69 = .ok (.aload_n 0, 1) := by decide +kernel
theorem e165_70 : decode (px_cd 165) 70 = .ok (.bipush 27, 2) := by decide +kernel
theorem e165_72 : decode (px_cd 165) 72 = .ok (.iload_n 2, 1) := by decide +kernel
theorem e165_73 : decode (px_cd 165) 73 = .ok (.bipush 28, 2) := by decide +kernel
theorem e165_75 : decode (px_cd 165) 75 = .ok (.iadd, 1) := by decide +kernel
theorem e165_76 : decode (px_cd 165) 76 = .ok (.iload_n 3, 1) := by decide +kernel
theorem e165_77 : decode (px_cd 165) 77 = .ok (.bipush 16, 2) := by decide +kernel
theorem e165_79 : decode (px_cd 165) 79 = .ok (.idiv, 1) := by decide +kernel
theorem e165_80 : decode (px_cd 165) 80 = .ok (.iadd, 1) := by decide +kernel
theorem e165_81 : decode (px_cd 165) 81 = .ok (.invokevirtual 142, 3) := by decide +kernel
theorem e165_84 : decode (px_cd 165) 84 = .ok (.ireturn, 1) := by decide +kernel
theorem e165_85 : decode (px_cd 165) 85 = .ok (.iinc 3 2, 3) := by decide +kernel
theorem e165_88 : decode (px_cd 165) 88 = .ok (.goto (-60), 3) := by decide +kernel
theorem e165_91 : decode (px_cd 165) 91 = .ok (.aload_n 0, 1) := by decide +kernel
theorem e165_92 : decode (px_cd 165) 92 = .ok (.bipush 24, 2) := by decide +kernel
theorem e165_94 : decode (px_cd 165) 94 = .ok (.invokevirtual 145, 3) := by decide +kernel
theorem e165_97 : decode (px_cd 165) 97 = .ok (.aload_n 0, 1) := by decide +kernel
theorem e165_98 : decode (px_cd 165) 98 = .ok (.aload_n 0, 1) := by decide +kernel
theorem e165_99 : decode (px_cd 165) 99 = .ok (.getfield 42, 3) := by decide +kernel
theorem e165_102 : decode (px_cd 165) 102 = .ok (.iconst 0, 1) := by decide +kernel
theorem e165_103 : decode (px_cd 165) 103 = .ok (.iaload, 1) := by decide +kernel
theorem e165_104 : decode (px_cd 165) 104 = .ok (.iconst 2, 1) := by decide +kernel
theorem e165_105 : decode (px_cd 165) 105 = .ok (.invokevirtual 164, 3) := by decide +kernel
theorem e165_108 : decode (px_cd 165) 108 = .ok (.lsub, 1) := by decide +kernel
theorem e165_109 : decode (px_cd 165) 109 = .ok (.lstore_n 3, 1) := by decide +kernel
theorem e165_110 : decode (px_cd 165) 110 = .ok (.lload_n 3, 1) := by decide +kernel
theorem e165_111 : decode (px_cd 165) 111 = .ok (.lconst 0, 1) := by decide +kernel
theorem e165_112 : decode (px_cd 165) 112 = .ok (.lcmp, 1) := by decide +kernel
theorem e165_113 : decode (px_cd 165) 113 = .ok (.ifCond .lt 29, 3) := by decide +kernel
theorem e165_116 : decode (px_cd 165) 116 = .ok (.lload_n 3, 1) := by decide +kernel
theorem e165_117 : decode (px_cd 165) 117 = .ok (.iload_n 1, 1) := by decide +kernel
theorem e165_118 : decode (px_cd 165) 118 = .ok (.i2l, 1) := by decide +kernel
theorem e165_119 : decode (px_cd 165) 119 = .ok (.lcmp, 1) := by decide +kernel
theorem e165_120 : decode (px_cd 165) 120 = .ok (.ifCond .ge 22, 3) := by decide +kernel
theorem e165_123 : decode (px_cd 165) 123 = .ok (.lload_n 3, 1) := by decide +kernel
theorem e165_124 : decode (px_cd 165) 124 = .ok (.ldc2_w 50, 3) := by decide +kernel
theorem e165_127 : decode (px_cd 165) 127 = .ok (.lrem, 1) := by decide +kernel
theorem e165_128 : decode (px_cd 165) 128 = .ok (.lconst 0, 1) := by decide +kernel
theorem e165_129 : decode (px_cd 165) 129 = .ok (.lcmp, 1) := by decide +kernel
theorem e165_130 : decode (px_cd 165) 130 = .ok (.ifCond .ne 12, 3) := by decide +kernel
theorem e165_133 : decode (px_cd 165) 133 = .ok (.aload_n 0, 1) := by decide +kernel
theorem e165_134 : decode (px_cd 165) 134 = .ok (.lload_n 3, 1) := by decide +kernel
theorem e165_135 : decode (px_cd 165) 135 = .ok (.l2i, 1) := by decide +kernel
theorem e165_136 : decode (px_cd 165) 136 = .ok (.invokevirtual 199, 3) := by decide +kernel
theorem e165_139 : decode (px_cd 165) 139 = .ok (.ifCond .ne 14, 3) := by decide +kernel
theorem e165_142 : decode (px_cd 165) 142 = .ok (.aload_n 0, 1) := by decide +kernel
theorem e165_143 : decode (px_cd 165) 143 = .ok (.bipush 28, 2) := by decide +kernel
theorem e165_145 : decode (px_cd 165) 145 = .ok (.bipush 24, 2) := by decide +kernel
theorem e165_147 : decode (px_cd 165) 147 = .ok (.invokevirtual 142, 3) := by decide +kernel
theorem e165_150 : decode (px_cd 165) 150 = .ok (.goto 4, 3) := by decide +kernel
theorem e165_153 : decode (px_cd 165) 153 = .ok (.iconst 0, 1) := by decide +kernel
theorem e165_154 : decode (px_cd 165) 154 = .ok (.ireturn, 1) := by decide +kernel
-- 166 ImageFileModel_isMarkIn
theorem e166_0 : decode (px_cd 166) 0 = .ok (.aload_n 0, 1) := by decide +kernel
theorem e166_1 : decode (px_cd 166) 1 = .ok (.getfield 35, 3) := by decide +kernel
theorem e166_4 : decode (px_cd 166) 4 = .ok (.aload_n 0, 1) := by decide +kernel
theorem e166_5 : decode (px_cd 166) 5 = .ok (.aload_n 0, 1) := by decide +kernel
theorem e166_6 : decode (px_cd 166) 6 = .ok (.getfield 42, 3) := by decide +kernel
theorem e166_9 : decode (px_cd 166) 9 = .ok (.iconst 3, 1) := by decide +kernel
theorem e166_10 : decode (px_cd 166) 10 = .ok (.iaload, 1) := by decide +kernel
theorem e166_11 : decode (px_cd 166) 11 = .ok (.iconst 1, 1) := by decide +kernel
theorem e166_12 : decode (px_cd 166) 12 = .ok (.invokevirtual 164, 3) := by decide +kernel
theorem e166_15 : decode (px_cd 166) 15 = .ok (.l2i, 1) := by decide +kernel
theorem e166_16 : decode (px_cd 166) 16 = .ok (.bipush 28, 2) := by decide +kernel
theorem e166_18 : decode (px_cd 166) 18 = .ok (.iadd, 1) := by decide +kernel
theorem e166_19 : decode (px_cd 166) 19 = .ok (.iload_n 1, 1) := by decide +kernel
theorem e166_20 : decode (px_cd 166) 20 = .ok (.bipush 16, 2) := by decide +kernel
theorem e166_22 : decode (px_cd 166) 22 = .ok (.idiv, 1) := by decide +kernel
theorem e166_23 : decode (px_cd 166) 23 = .ok (.iadd, 1) := by decide +kernel
theorem e166_24 : decode (px_cd 166) 24 = .ok (.iaload, 1) := by decide +kernel
theorem e166_25 : decode (px_cd 166) 25 = .ok (.iload_n 1, 1) := by decide +kernel
theorem e166_26 : decode (px_cd 166) 26 = .ok (.bipush 16, 2) := by decide +kernel
theorem e166_28 : decode (px_cd 166) 28 = .ok (.irem, 1) := by decide +kernel
theorem e166_29 : decode (px_cd 166) 29 = .ok (.iconst 2, 1) := by decide +kernel
theorem e166_30 : decode (px_cd 166) 30 = .ok (.idiv, 1) := by decide +kernel
theorem e166_31 : decode (px_cd 166) 31 = .ok (.ishr, 1) := by decide +kernel
theorem e166_32 : decode (px_cd 166) 32 = .ok (.iconst 1, 1) := by decide +kernel
theorem e166_33 : decode (px_cd 166) 33 = .ok (.iand, 1) := by decide +kernel
theorem e166_34 : decode (px_cd 166) 34 = .ok (.iconst 1, 1) := by decide +kernel
theorem e166_35 : decode (px_cd 166) 35 = .ok (.if_icmp .ne 7, 3) := by decide +kernel
theorem e166_38 : decode (px_cd 166) 38 = .ok (.iconst 1, 1) := by decide +kernel
theorem e166_39 : decode (px_cd 166) 39 = .ok (.goto 4, 3) := by decide +kernel
theorem e166_42 : decode (px_cd 166) 42 = .ok (.iconst 0, 1) := by decide +kernel
theorem e166_43 : decode (px_cd 166) 43 = .ok (.ireturn, 1) := by decide +kernel
-- 167 ImageFileModel_isShortIn
theorem e167_0 : decode (px_cd 167) 0 = .ok (.aload_n 0, 1) := by decide +kernel
theorem e167_1 : decode (px_cd 167) 1 = .ok (.getfield 35, 3) := by decide +kernel
theorem e167_4 : decode (px_cd 167) 4 = .ok (.aload_n 0, 1) := by decide +kernel
theorem e167_5 : decode (px_cd 167) 5 = .ok (.aload_n 0, 1) := by decide +kernel
theorem e167_6 : decode (px_cd 167) 6 = .ok (.getfield 42, 3) := by decide +kernel
theorem e167_9 : decode (px_cd 167) 9 = .ok (.iconst 0, 1) := by decide +kernel
theorem e167_10 : decode (px_cd 167) 10 = .ok (.iaload, 1) := by decide +kernel
theorem e167_11 : decode (px_cd 167) 11 = .ok (.iconst 1, 1) := by decide +kernel
theorem e167_12 : decode (px_cd 167) 12 = .ok (.invokevirtual 164, 3) := by decide +kernel
theorem e167_15 : decode (px_cd 167) 15 = .ok (.l2i, 1) := by decide +kernel
theorem e167_16 : decode (px_cd 167) 16 = .ok (.iload_n 1, 1) := by decide +kernel
theorem e167_17 : decode (px_cd 167) 17 = .ok (.iadd, 1) := by decide +kernel
theorem e167_18 : decode (px_cd 167) 18 = .ok (.iaload, 1) := by decide +kernel
theorem e167_19 : decode (px_cd 167) 19 = .ok (.invokestatic 68, 3) := by decide +kernel
theorem e167_22 : decode (px_cd 167) 22 = .ok (.ireturn, 1) := by decide +kernel
-- 168 ImageFileModel_lastFaults
theorem e168_0 : decode (px_cd 168) 0 = .ok (.aload_n 0, 1) := by decide +kernel
theorem e168_1 : decode (px_cd 168) 1 = .ok (.aload_n 0, 1) := by decide +kernel
theorem e168_2 : decode (px_cd 168) 2 = .ok (.getfield 42, 3) := by decide +kernel
theorem e168_5 : decode (px_cd 168) 5 = .ok (.iconst 3, 1) := by decide +kernel
theorem e168_6 : decode (px_cd 168) 6 = .ok (.iaload, 1) := by decide +kernel
theorem e168_7 : decode (px_cd 168) 7 = .ok (.iconst 1, 1) := by decide +kernel
theorem e168_8 : decode (px_cd 168) 8 = .ok (.invokevirtual 164, 3) := by decide +kernel
theorem e168_11 : decode (px_cd 168) 11 = .ok (.l2i, 1) := by decide +kernel
theorem e168_12 : decode (px_cd 168) 12 = .ok (.istore_n 1, 1) := by decide +kernel
theorem e168_13 : decode (px_cd 168) 13 = .ok (.aload_n 0, 1) := by decide +kernel
theorem e168_14 : decode (px_cd 168) 14 = .ok (.iload_n 1, 1) := by decide +kernel
theorem e168_15 : decode (px_cd 168) 15 = .ok (.bipush 24, 2) := by decide +kernel
theorem e168_17 : decode (px_cd 168) 17 = .ok (.iadd, 1) := by decide +kernel
theorem e168_18 : decode (px_cd 168) 18 = .ok (.invokevirtual 145, 3) := by decide +kernel
theorem e168_21 : decode (px_cd 168) 21 = .ok (.l2i, 1) := by decide +kernel
theorem e168_22 : decode (px_cd 168) 22 = .ok (.aload_n 0, 1) := by decide +kernel
theorem e168_23 : decode (px_cd 168) 23 = .ok (.invokevirtual 205, 3) := by decide +kernel
theorem e168_26 : decode (px_cd 168) 26 = .ok (.if_icmp .eq 14, 3) := by decide +kernel
theorem e168_29 : decode (px_cd 168) 29 = .ok (.aload_n 0, 1) := by decide +kernel
theorem e168_30 : decode (px_cd 168) 30 = .ok (.bipush 29, 2) := by decide +kernel
theorem e168_32 : decode (px_cd 168) 32 = .ok (.iload_n 1, 1) := by decide +kernel
theorem e168_33 : decode (px_cd 168) 33 = .ok (.bipush 24, 2) := by decide +kernel
theorem e168_35 : decode (px_cd 168) 35 = .ok (.iadd, 1) := by decide +kernel
theorem e168_36 : decode (px_cd 168) 36 = .ok (.invokevirtual 142, 3) := by decide +kernel
theorem e168_39 : decode (px_cd 168) 39 = .ok (.ireturn, 1) := by decide +kernel
theorem e168_40 : decode (px_cd 168) 40 = .ok (.iconst 0, 1) := by decide +kernel
theorem e168_41 : decode (px_cd 168) 41 = .ok (.istore_n 2, 1) := by decide +kernel
theorem e168_42 : decode (px_cd 168) 42 = .ok (.iconst 0, 1) := by decide +kernel
theorem e168_43 : decode (px_cd 168) 43 = .ok (.istore_n 3, 1) := by decide +kernel
theorem e168_44 : decode (px_cd 168) 44 = .ok (.iload_n 3, 1) := by decide +kernel
theorem e168_45 : decode (px_cd 168) 45 = .ok (.i2l, 1) := by decide +kernel
theorem e168_46 : decode (px_cd 168) 46 = .ok (.aload_n 0, 1) := by decide +kernel
theorem e168_47 : decode (px_cd 168) 47 = .ok (.aload_n 0, 1) := by decide +kernel
theorem e168_48 : decode (px_cd 168) 48 = .ok (.getfield 42, 3) := by decide +kernel
theorem e168_51 : decode (px_cd 168) 51 = .ok (.iconst 0, 1) := by decide +kernel
theorem e168_52 : decode (px_cd 168) 52 = .ok (.iaload, 1) := by decide +kernel
theorem e168_53 : decode (px_cd 168) 53 = .ok (.iconst 4, 1) := by decide +kernel
theorem e168_54 : decode (px_cd 168) 54 = .ok (.invokevirtual 164, 3) := by decide +kernel
theorem e168_57 : decode (px_cd 168) 57 = .ok (.lcmp, 1) := by decide +kernel
theorem e168_58 : decode (px_cd 168) 58 = .ok (.ifCond .ge 35, 3) := by decide +kernel
theorem e168_61 : decode (px_cd 168) 61 = .ok (.iload_n 2, 1) := by decide +kernel
theorem e168_62 : decode (px_cd 168) 62 = .ok (.ifCond .ne 19, 3) := by decide +kernel
theorem e168_65 : decode (px_cd 168) 65 = .ok (.aload_n 0, 1) := by decide +kernel
theorem e168_66 : decode (px_cd 168) 66 = .ok (.iload_n 3, 1) := by decide +kernel
theorem e168_67 : decode (px_cd 168) 67 = .ok (.invokevirtual 199, 3) := by decide +kernel
theorem e168_70 : decode (px_cd 168) 70 = .ok (.ifCond .eq 15, 3) := by decide +kernel
theorem e168_73 : decode (px_cd 168) 73 = .ok (.aload_n 0, 1) := by decide +kernel
theorem e168_74 : decode (px_cd 168) 74 = .ok (.iload_n 3, 1) := by decide +kernel
theorem e168_75 : decode (px_cd 168) 75 = .ok (.invokevirtual 202, 3) := by decide +kernel
theorem e168_78 : decode (px_cd 168) 78 = .ok (.ifCond .eq 7, 3) := by decide +kernel
theorem e168_81 : decode (px_cd 168) 81 = .ok (.iconst 1, 1) := by decide +kernel
theorem e168_82 : decode (px_cd 168) 82 = .ok (.goto 4, 3) := by decide +kernel
theorem e168_85 : decode (px_cd 168) 85 = .ok (.iconst 0, 1) := by decide +kernel
theorem e168_86 : decode (px_cd 168) 86 = .ok (.istore_n 2, 1) := by decide +kernel
theorem e168_87 : decode (px_cd 168) 87 = .ok (.iinc 3 2, 3) := by decide +kernel
theorem e168_90 : decode (px_cd 168) 90 = .ok (.goto (-46), 3) := by decide +kernel
theorem e168_93 : decode (px_cd 168) 93 = .ok (.aload_n 0, 1) := by decide +kernel
theorem e168_94 : decode (px_cd 168) 94 = .ok (.bipush 36, 2) := by decide +kernel
theorem e168_96 : decode (px_cd 168) 96 = .ok (.invokevirtual 145, 3) := by decide +kernel
theorem e168_99 : decode (px_cd 168) 99 = .ok (.lconst 1, 1) := by decide +kernel
theorem e168_100 : decode (px_cd 168) 100 = .ok (.lcmp, 1) := by decide +kernel
theorem e168_101 : decode (px_cd 168) 101 = .ok (.ifCond .ne 7, 3) := by decide +kernel
theorem e168_104 : decode (px_cd 168) 104 = .ok (.iconst 1, 1) := by decide +kernel
theorem e168_105 : decode (px_cd 168) 105 = .ok (.goto 4, 3) := by decide +kernel
theorem e168_108 : decode (px_cd 168) 108 = .ok (.iconst 0, 1) := by decide +kernel
theorem e168_109 : decode (px_cd 168) 109 = .ok (.iload_n 2, 1) := by decide +kernel
theorem e168_110 : decode (px_cd 168) 110 = .ok (.if_icmp .eq 14, 3) := by decide +kernel
theorem e168_113 : decode (px_cd 168) 113 = .ok (.aload_n 0, 1) := by decide +kernel
theorem e168_114 : decode (px_cd 168) 114 = .ok (.bipush 30, 2) := by decide +kernel
theorem e168_116 : decode (px_cd 168) 116 = .ok (.bipush 36, 2) := by decide +kernel
theorem e168_118 : decode (px_cd 168) 118 = .ok (.invokevirtual 142, 3) := by decide +kernel
theorem e168_121 : decode (px_cd 168) 121 = .ok (.goto 4, 3) := by decide +kernel
theorem e168_124 : decode (px_cd 168) 124 = .ok (.iconst 0, 1) := by decide +kernel
theorem e168_125 : decode (px_cd 168) 125 = .ok (.ireturn, 1) := by decide +kernel
-- 169 ImageFileModel_sumIn
theorem e169_0 : decode (px_cd 169) 0 = .ok (.aload_n 0, 1) := by decide +kernel
theorem e169_1 : decode (px_cd 169) 1 = .ok (.iconst (-1), 1) := by decide +kernel
theorem e169_2 : decode (px_cd 169) 2 = .ok (.putfield 88, 3) := by decide +kernel
theorem e169_5 : decode (px_cd 169) 5 = .ok (.aload_n 0, 1) := by decide +kernel
theorem e169_6 : decode (px_cd 169) 6 = .ok (.aload_n 0, 1) := by decide +kernel
theorem e169_7 : decode (px_cd 169) 7 = .ok (.bipush 24, 2) := by decide +kernel
theorem e169_9 : decode (px_cd 169) 9 = .ok (.invokevirtual 145, 3) := by decide +kernel
theorem e169_12 : decode (px_cd 169) 12 = .ok (.l2i, 1) := by decide +kernel
theorem e169_13 : decode (px_cd 169) 13 = .ok (.invokevirtual 96, 3) := by decide +kernel
theorem e169_16 : decode (px_cd 169) 16 = .ok (.iconst 0, 1) := by decide +kernel
theorem e169_17 : decode (px_cd 169) 17 = .ok (.istore_n 1, 1) := by decide +kernel
theorem e169_18 : decode (px_cd 169) 18 = .ok (.iload_n 1, 1) := by decide +kernel
theorem e169_19 : decode (px_cd 169) 19 = .ok (.iconst 3, 1) := by decide +kernel
theorem e169_20 : decode (px_cd 169) 20 = .ok (.if_icmp .ge 91, 3) := by decide +kernel
theorem e169_23 : decode (px_cd 169) 23 = .ok (.aload_n 0, 1) := by decide +kernel
theorem e169_24 : decode (px_cd 169) 24 = .ok (.getfield 42, 3) := by decide +kernel
theorem e169_27 : decode (px_cd 169) 27 = .ok (.iload_n 1, 1) := by decide +kernel
theorem e169_28 : decode (px_cd 169) 28 = .ok (.iaload, 1) := by decide +kernel
theorem e169_29 : decode (px_cd 169) 29 = .ok (.istore_n 2, 1) := by decide +kernel
theorem e169_30 : decode (px_cd 169) 30 = .ok (.iload_n 2, 1) := by decide +kernel
theorem e169_31 : decode (px_cd 169) 31 = .ok (.iconst (-1), 1) := by decide +kernel
theorem e169_32 : decode (px_cd 169) 32 = .ok (.if_icmp .ne 6, 3) := by decide +kernel
theorem e169_35 : decode (px_cd 169) 35 = .ok (.goto 70, 3) := by decide +kernel
theorem e169_38 : decode (px_cd 169) 38 = .ok (.aload_n 0, 1) := by decide +kernel
theorem e169_39 : decode (px_cd 169) 39 = .ok (.aload_n 0, 1) := by decide +kernel
theorem e169_40 : decode (px_cd 169) 40 = .ok (.iload_n 2, 1) := by decide +kernel
theorem e169_41 : decode (px_cd 169) 41 = .ok (.iconst 2, 1) := by decide +kernel
theorem e169_42 : decode (px_cd 169) 42 = .ok (.invokevirtual 164, 3) := by decide +kernel
theorem e169_45 : decode (px_cd 169) 45 = .ok (.l2i, 1) := by decide +kernel
theorem e169_46 : decode (px_cd 169) 46 = .ok (.invokevirtual 96, 3) := by decide +kernel
theorem e169_49 : decode (px_cd 169) 49 = .ok (.aload_n 0, 1) := by decide +kernel
theorem e169_50 : decode (px_cd 169) 50 = .ok (.aload_n 0, 1) := by decide +kernel
theorem e169_51 : decode (px_cd 169) 51 = .ok (.iload_n 2, 1) := by decide +kernel
theorem e169_52 : decode (px_cd 169) 52 = .ok (.iconst 5, 1) := by decide +kernel
theorem e169_53 : decode (px_cd 169) 53 = .ok (.invokevirtual 164, 3) := by decide +kernel
theorem e169_56 : decode (px_cd 169) 56 = .ok (.aload_n 0, 1) := by decide +kernel
theorem e169_57 : decode (px_cd 169) 57 = .ok (.iload_n 2, 1) := by decide +kernel
theorem e169_58 : decode (px_cd 169) 58 = .ok (.iconst 4, 1) := by decide +kernel
theorem e169_59 : decode (px_cd 169) 59 = .ok (.invokevirtual 164, 3) := by decide +kernel
theorem e169_62 : decode (px_cd 169) 62 = .ok (.lsub, 1) := by decide +kernel
theorem e169_63 : decode (px_cd 169) 63 = .ok (.l2i, 1) := by decide +kernel
theorem e169_64 : decode (px_cd 169) 64 = .ok (.invokevirtual 96, 3) := by decide +kernel
theorem e169_67 : decode (px_cd 169) 67 = .ok (.iconst 0, 1) := by decide +kernel
theorem e169_68 : decode (px_cd 169) 68 = .ok (.istore_n 3, 1) := by decide +kernel
theorem e169_69 : decode (px_cd 169) 69 = .ok (.iload_n 3, 1) := by decide +kernel
theorem e169_70 : decode (px_cd 169) 70 = .ok (.i2l, 1) := by decide +kernel
theorem e169_71 : decode (px_cd 169) 71 = .ok (.aload_n 0, 1) := by decide +kernel
theorem e169_72 : decode (px_cd 169) 72 = .ok (.iload_n 2, 1) := by decide +kernel
theorem e169_73 : decode (px_cd 169) 73 = .ok (.iconst 4, 1) := by decide +kernel
theorem e169_74 : decode (px_cd 169) 74 = .ok (.invokevirtual 164, 3) := by decide +kernel
theorem e169_77 : decode (px_cd 169) 77 = .ok (.lcmp, 1) := by decide +kernel
theorem e169_78 : decode (px_cd 169) 78 = .ok (.ifCond .ge 27, 3) := by decide +kernel
theorem e169_81 : decode (px_cd 169) 81 = .ok (.aload_n 0, 1) := by decide +kernel
theorem e169_82 : decode (px_cd 169) 82 = .ok (.aload_n 0, 1) := by decide +kernel
theorem e169_83 : decode (px_cd 169) 83 = .ok (.getfield 35, 3) := by decide +kernel
theorem e169_86 : decode (px_cd 169) 86 = .ok (.aload_n 0, 1) := by decide +kernel
theorem e169_87 : decode (px_cd 169) 87 = .ok (.iload_n 2, 1) := by decide +kernel
theorem e169_88 : decode (px_cd 169) 88 = .ok (.iconst 1, 1) := by decide +kernel
theorem e169_89 : decode (px_cd 169) 89 = .ok (.invokevirtual 164, 3) := by decide +kernel
theorem e169_92 : decode (px_cd 169) 92 = .ok (.l2i, 1) := by decide +kernel
theorem e169_93 : decode (px_cd 169) 93 = .ok (.iload_n 3, 1) := by decide +kernel
theorem e169_94 : decode (px_cd 169) 94 = .ok (.iadd, 1) := by decide +kernel
theorem e169_95 : decode (px_cd 169) 95 = .ok (.iaload, 1) := by decide +kernel
theorem e169_96 : decode (px_cd 169) 96 = .ok (.invokevirtual 92, 3) := by decide +kernel
theorem e169_99 : decode (px_cd 169) 99 = .ok (.iinc 3 1, 3) := by decide +kernel
theorem e169_102 : decode (px_cd 169) 102 = .ok (.goto (-33), 3) := by decide +kernel
theorem e169_105 : decode (px_cd 169) 105 = .ok (.iinc 1 1, 3) := by decide +kernel
theorem e169_108 : decode (px_cd 169) 108 = .ok (.goto (-90), 3) := by decide +kernel
theorem e169_111 : decode (px_cd 169) 111 = .ok (.aload_n 0, 1) := by decide +kernel
theorem e169_112 : decode (px_cd 169) 112 = .ok (.aload_n 0, 1) := by decide +kernel
theorem e169_113 : decode (px_cd 169) 113 = .ok (.getfield 42, 3) := by decide +kernel
theorem e169_116 : decode (px_cd 169) 116 = .ok (.iconst 0, 1) := by decide +kernel
theorem e169_117 : decode (px_cd 169) 117 = .ok (.iaload, 1) := by decide +kernel
theorem e169_118 : decode (px_cd 169) 118 = .ok (.iconst 4, 1) := by decide +kernel
theorem e169_119 : decode (px_cd 169) 119 = .ok (.invokevirtual 164, 3) := by decide +kernel
theorem e169_122 : decode (px_cd 169) 122 = .ok (.l2i, 1) := by decide +kernel
theorem e169_123 : decode (px_cd 169) 123 = .ok (.bipush 15, 2) := by decide +kernel
theorem e169_125 : decode (px_cd 169) 125 = .ok (.iadd, 1) := by decide +kernel
theorem e169_126 : decode (px_cd 169) 126 = .ok (.bipush 16, 2) := by decide +kernel
theorem e169_128 : decode (px_cd 169) 128 = .ok (.idiv, 1) := by decide +kernel
theorem e169_129 : decode (px_cd 169) 129 = .ok (.istore_n 1, 1) := by decide +kernel
theorem e169_130 : decode (px_cd 169) 130 = .ok (.iconst 0, 1) := by decide +kernel
theorem e169_131 : decode (px_cd 169) 131 = .ok (.istore_n 2, 1) := by decide +kernel
theorem e169_132 : decode (px_cd 169) 132 = .ok (.iload_n 2, 1) := by decide +kernel
theorem e169_133 : decode (px_cd 169) 133 = .ok (.iload_n 1, 1) := by decide +kernel
theorem e169_134 : decode (px_cd 169) 134 = .ok (.if_icmp .ge 35, 3) := by decide +kernel
theorem e169_137 : decode (px_cd 169) 137 = .ok (.aload_n 0, 1) := by decide +kernel
theorem e169_138 : decode (px_cd 169) 138 = .ok (.aload_n 0, 1) := by decide +kernel
theorem e169_139 : decode (px_cd 169) 139 = .ok (.getfield 35, 3) := by decide +kernel
theorem e169_142 : decode (px_cd 169) 142 = .ok (.aload_n 0, 1) := by decide +kernel
theorem e169_143 : decode (px_cd 169) 143 = .ok (.aload_n 0, 1) := by decide +kernel
theorem e169_144 : decode (px_cd 169) 144 = .ok (.getfield 42, 3) := by decide +kernel
theorem e169_147 : decode (px_cd 169) 147 = .ok (.iconst 3, 1) := by decide +kernel
theorem e169_148 : decode (px_cd 169) 148 = .ok (.iaload, 1) := by decide +kernel
theorem e169_149 : decode (px_cd 169) 149 = .ok (.iconst 1, 1) := by decide +kernel
theorem e169_150 : decode (px_cd 169) 150 = .ok (.invokevirtual 164, 3) := by decide +kernel
theorem e169_153 : decode (px_cd 169) 153 = .ok (.l2i, 1) := by decide +kernel
theorem e169_154 : decode (px_cd 169) 154 = .ok (.bipush 28, 2) := by decide +kernel
theorem e169_156 : decode (px_cd 169) 156 = .ok (.iadd, 1) := by decide +kernel
theorem e169_157 : decode (px_cd 169) 157 = .ok (.iload_n 2, 1) := by decide +kernel
theorem e169_158 : decode (px_cd 169) 158 = .ok (.iadd, 1) := by decide +kernel
theorem e169_159 : decode (px_cd 169) 159 = .ok (.iaload, 1) := by decide +kernel
theorem e169_160 : decode (px_cd 169) 160 = .ok (.invokevirtual 92, 3) := by decide +kernel
theorem e169_163 : decode (px_cd 169) 163 = .ok (.iinc 2 1, 3) := by decide +kernel
theorem e169_166 : decode (px_cd 169) 166 = .ok (.goto (-34), 3) := by decide +kernel
theorem e169_169 : decode (px_cd 169) 169 = .ok (.aload_n 0, 1) := by decide +kernel
theorem e169_170 : decode (px_cd 169) 170 = .ok (.getfield 88, 3) := by decide +kernel
theorem e169_173 : decode (px_cd 169) 173 = .ok (.iconst (-1), 1) := by decide +kernel
theorem e169_174 : decode (px_cd 169) 174 = .ok (.ixor, 1) := by decide +kernel
theorem e169_175 : decode (px_cd 169) 175 = .ok (.ireturn, 1) := by decide +kernel
-- 170 ImageFileModel_place
theorem e170_0 : decode (px_cd 170) 0 = .ok (.aload_n 0, 1) := by decide +kernel
theorem e170_1 : decode (px_cd 170) 1 = .ok (.getfield 38, 3) := by decide +kernel
theorem e170_4 : decode (px_cd 170) 4 = .ok (.ireturn, 1) := by decide +kernel
-- 171 ImageFileModel_keep
theorem e171_0 : decode (px_cd 171) 0 = .ok (.aload_n 0, 1) := by decide +kernel
theorem e171_1 : decode (px_cd 171) 1 = .ok (.getfield 29, 3) := by decide +kernel
theorem e171_4 : decode (px_cd 171) 4 = .ok (.iconst 0, 1) := by decide +kernel
theorem e171_5 : decode (px_cd 171) 5 = .ok (.aload_n 0, 1) := by decide +kernel
theorem e171_6 : decode (px_cd 171) 6 = .ok (.getfield 29, 3) := by decide +kernel
theorem e171_9 : decode (px_cd 171) 9 = .ok (.iconst 1, 1) := by decide +kernel
theorem e171_10 : decode (px_cd 171) 10 = .ok (.iaload, 1) := by decide +kernel
theorem e171_11 : decode (px_cd 171) 11 = .ok (.iastore, 1) := by decide +kernel
theorem e171_12 : decode (px_cd 171) 12 = .ok (.aload_n 0, 1) := by decide +kernel
theorem e171_13 : decode (px_cd 171) 13 = .ok (.getfield 32, 3) := by decide +kernel
theorem e171_16 : decode (px_cd 171) 16 = .ok (.iconst 0, 1) := by decide +kernel
theorem e171_17 : decode (px_cd 171) 17 = .ok (.aload_n 0, 1) := by decide +kernel
theorem e171_18 : decode (px_cd 171) 18 = .ok (.getfield 32, 3) := by decide +kernel
theorem e171_21 : decode (px_cd 171) 21 = .ok (.iconst 1, 1) := by decide +kernel
theorem e171_22 : decode (px_cd 171) 22 = .ok (.iaload, 1) := by decide +kernel
theorem e171_23 : decode (px_cd 171) 23 = .ok (.iastore, 1) := by decide +kernel
theorem e171_24 : decode (px_cd 171) 24 = .ok (.iconst 0, 1) := by decide +kernel
theorem e171_25 : decode (px_cd 171) 25 = .ok (.istore_n 1, 1) := by decide +kernel
theorem e171_26 : decode (px_cd 171) 26 = .ok (.iload_n 1, 1) := by decide +kernel
theorem e171_27 : decode (px_cd 171) 27 = .ok (.iconst 3, 1) := by decide +kernel
theorem e171_28 : decode (px_cd 171) 28 = .ok (.if_icmp .ge 109, 3) := by decide +kernel
theorem e171_31 : decode (px_cd 171) 31 = .ok (.aload_n 0, 1) := by decide +kernel
theorem e171_32 : decode (px_cd 171) 32 = .ok (.getfield 7, 3) := by decide +kernel
theorem e171_35 : decode (px_cd 171) 35 = .ok (.iload_n 1, 1) := by decide +kernel
theorem e171_36 : decode (px_cd 171) 36 = .ok (.aload_n 0, 1) := by decide +kernel
theorem e171_37 : decode (px_cd 171) 37 = .ok (.getfield 7, 3) := by decide +kernel
theorem e171_40 : decode (px_cd 171) 40 = .ok (.iconst 3, 1) := by decide +kernel
theorem e171_41 : decode (px_cd 171) 41 = .ok (.iload_n 1, 1) := by decide +kernel
theorem e171_42 : decode (px_cd 171) 42 = .ok (.iadd, 1) := by decide +kernel
theorem e171_43 : decode (px_cd 171) 43 = .ok (.baload, 1) := by decide +kernel
theorem e171_44 : decode (px_cd 171) 44 = .ok (.bastore, 1) := by decide +kernel
theorem e171_45 : decode (px_cd 171) 45 = .ok (.aload_n 0, 1) := by decide +kernel
theorem e171_46 : decode (px_cd 171) 46 = .ok (.getfield 13, 3) := by decide +kernel
theorem e171_49 : decode (px_cd 171) 49 = .ok (.iload_n 1, 1) := by decide +kernel
theorem e171_50 : decode (px_cd 171) 50 = .ok (.aload_n 0, 1) := by decide +kernel
theorem e171_51 : decode (px_cd 171) 51 = .ok (.getfield 13, 3) := by decide +kernel
theorem e171_54 : decode (px_cd 171) 54 = .ok (.iconst 3, 1) := by decide +kernel
theorem e171_55 : decode (px_cd 171) 55 = .ok (.iload_n 1, 1) := by decide +kernel
theorem e171_56 : decode (px_cd 171) 56 = .ok (.iadd, 1) := by decide +kernel
theorem e171_57 : decode (px_cd 171) 57 = .ok (.iaload, 1) := by decide +kernel
theorem e171_58 : decode (px_cd 171) 58 = .ok (.iastore, 1) := by decide +kernel
theorem e171_59 : decode (px_cd 171) 59 = .ok (.aload_n 0, 1) := by decide +kernel
theorem e171_60 : decode (px_cd 171) 60 = .ok (.getfield 20, 3) := by decide +kernel
theorem e171_63 : decode (px_cd 171) 63 = .ok (.iload_n 1, 1) := by decide +kernel
theorem e171_64 : decode (px_cd 171) 64 = .ok (.aload_n 0, 1) := by decide +kernel
theorem e171_65 : decode (px_cd 171) 65 = .ok (.getfield 20, 3) := by decide +kernel
theorem e171_68 : decode (px_cd 171) 68 = .ok (.iconst 3, 1) := by decide +kernel
theorem e171_69 : decode (px_cd 171) 69 = .ok (.iload_n 1, 1) := by decide +kernel
theorem e171_70 : decode (px_cd 171) 70 = .ok (.iadd, 1) := by decide +kernel
theorem e171_71 : decode (px_cd 171) 71 = .ok (.iaload, 1) := by decide +kernel
theorem e171_72 : decode (px_cd 171) 72 = .ok (.iastore, 1) := by decide +kernel
theorem e171_73 : decode (px_cd 171) 73 = .ok (.aload_n 0, 1) := by decide +kernel
theorem e171_74 : decode (px_cd 171) 74 = .ok (.getfield 17, 3) := by decide +kernel
theorem e171_77 : decode (px_cd 171) 77 = .ok (.iload_n 1, 1) := by decide +kernel
theorem e171_78 : decode (px_cd 171) 78 = .ok (.aload_n 0, 1) := by decide +kernel
theorem e171_79 : decode (px_cd 171) 79 = .ok (.getfield 17, 3) := by decide +kernel
theorem e171_82 : decode (px_cd 171) 82 = .ok (.iconst 3, 1) := by decide +kernel
theorem e171_83 : decode (px_cd 171) 83 = .ok (.iload_n 1, 1) := by decide +kernel
theorem e171_84 : decode (px_cd 171) 84 = .ok (.iadd, 1) := by decide +kernel
theorem e171_85 : decode (px_cd 171) 85 = .ok (.iaload, 1) := by decide +kernel
theorem e171_86 : decode (px_cd 171) 86 = .ok (.iastore, 1) := by decide +kernel
theorem e171_87 : decode (px_cd 171) 87 = .ok (.iconst 0, 1) := by decide +kernel
theorem e171_88 : decode (px_cd 171) 88 = .ok (.istore_n 2, 1) := by decide +kernel
theorem e171_89 : decode (px_cd 171) 89 = .ok (.iload_n 2, 1) := by decide +kernel
theorem e171_90 : decode (px_cd 171) 90 = .ok (.aload_n 0, 1) := by decide +kernel
theorem e171_91 : decode (px_cd 171) 91 = .ok (.getfield 20, 3) := by decide +kernel
theorem e171_94 : decode (px_cd 171) 94 = .ok (.iload_n 1, 1) := by decide +kernel
theorem e171_95 : decode (px_cd 171) 95 = .ok (.iaload, 1) := by decide +kernel
theorem e171_96 : decode (px_cd 171) 96 = .ok (.if_icmp .ge 35, 3) := by decide +kernel
theorem e171_99 : decode (px_cd 171) 99 = .ok (.aload_n 0, 1) := by decide +kernel
theorem e171_100 : decode (px_cd 171) 100 = .ok (.getfield 23, 3) := by decide +kernel
theorem e171_103 : decode (px_cd 171) 103 = .ok (.sipush 4096, 3) := by decide +kernel
theorem e171_106 : decode (px_cd 171) 106 = .ok (.iload_n 1, 1) := by decide +kernel
theorem e171_107 : decode (px_cd 171) 107 = .ok (.imul, 1) := by decide +kernel
theorem e171_108 : decode (px_cd 171) 108 = .ok (.iload_n 2, 1) := by decide +kernel
theorem e171_109 : decode (px_cd 171) 109 = .ok (.iadd, 1) := by decide +kernel
theorem e171_110 : decode (px_cd 171) 110 = .ok (.aload_n 0, 1) := by decide +kernel
theorem e171_111 : decode (px_cd 171) 111 = .ok (.getfield 23, 3) := by decide +kernel
theorem e171_114 : decode (px_cd 171) 114 = .ok (.sipush 4096, 3) := by decide +kernel
theorem e171_117 : decode (px_cd 171) 117 = .ok (.iconst 3, 1) := by decide +kernel
theorem e171_118 : decode (px_cd 171) 118 = .ok (.iload_n 1, 1) := by decide +kernel
theorem e171_119 : decode (px_cd 171) 119 = .ok (.iadd, 1) := by decide +kernel
theorem e171_120 : decode (px_cd 171) 120 = .ok (.imul, 1) := by decide +kernel
theorem e171_121 : decode (px_cd 171) 121 = .ok (.iload_n 2, 1) := by decide +kernel
theorem e171_122 : decode (px_cd 171) 122 = .ok (.iadd, 1) := by decide +kernel
theorem e171_123 : decode (px_cd 171) 123 = .ok (.iaload, 1) := by decide +kernel
theorem e171_124 : decode (px_cd 171) 124 = .ok (.iastore, 1) := by decide +kernel
theorem e171_125 : decode (px_cd 171) 125 = .ok (.iinc 2 1, 3) := by decide +kernel
theorem e171_128 : decode (px_cd 171) 128 = .ok (.goto (-39), 3) := by decide +kernel
theorem e171_131 : decode (px_cd 171) 131 = .ok (.iinc 1 1, 3) := by decide +kernel
theorem e171_134 : decode (px_cd 171) 134 = .ok (.goto (-108), 3) := by decide +kernel
theorem e171_137 : decode (px_cd 171) 137 = .ok (.iconst 0, 1) := by decide +kernel
theorem e171_138 : decode (px_cd 171) 138 = .ok (.istore_n 1, 1) := by decide +kernel
theorem e171_139 : decode (px_cd 171) 139 = .ok (.iload_n 1, 1) := by decide +kernel
theorem e171_140 : decode (px_cd 171) 140 = .ok (.sipush 2048, 3) := by decide +kernel
theorem e171_143 : decode (px_cd 171) 143 = .ok (.if_icmp .ge 25, 3) := by decide +kernel
theorem e171_146 : decode (px_cd 171) 146 = .ok (.aload_n 0, 1) := by decide +kernel
theorem e171_147 : decode (px_cd 171) 147 = .ok (.getfield 26, 3) := by decide +kernel
theorem e171_150 : decode (px_cd 171) 150 = .ok (.iload_n 1, 1) := by decide +kernel
theorem e171_151 : decode (px_cd 171) 151 = .ok (.aload_n 0, 1) := by decide +kernel
theorem e171_152 : decode (px_cd 171) 152 = .ok (.getfield 26, 3) := by decide +kernel
theorem e171_155 : decode (px_cd 171) 155 = .ok (.sipush 2048, 3) := by decide +kernel
theorem e171_158 : decode (px_cd 171) 158 = .ok (.iload_n 1, 1) := by decide +kernel
theorem e171_159 : decode (px_cd 171) 159 = .ok (.iadd, 1) := by decide +kernel
theorem e171_160 : decode (px_cd 171) 160 = .ok (.baload, 1) := by decide +kernel
theorem e171_161 : decode (px_cd 171) 161 = .ok (.bastore, 1) := by decide +kernel
theorem e171_162 : decode (px_cd 171) 162 = .ok (.iinc 1 1, 3) := by decide +kernel
theorem e171_165 : decode (px_cd 171) 165 = .ok (.goto (-26), 3) := by decide +kernel
theorem e171_168 : decode (px_cd 171) 168 = .ok (.return_, 1) := by decide +kernel
-- 172 ImageFileModel_about
theorem e172_0 : decode (px_cd 172) 0 = .ok (.iload_n 1, 1) := by decide +kernel
theorem e172_1 : decode (px_cd 172) 1 = .ok (.invokestatic 54, 3) := by decide +kernel
theorem e172_4 : decode (px_cd 172) 4 = .ok (.ifCond .eq 12, 3) := by decide +kernel
theorem e172_7 : decode (px_cd 172) 7 = .ok (.iload_n 2, 1) := by decide +kernel
theorem e172_8 : decode (px_cd 172) 8 = .ok (.ifCond .lt 8, 3) := by decide +kernel
theorem e172_11 : decode (px_cd 172) 11 = .ok (.iload_n 2, 1) := by decide +kernel
theorem e172_12 : decode (px_cd 172) 12 = .ok (.iconst 3, 1) := by decide +kernel
theorem e172_13 : decode (px_cd 172) 13 = .ok (.if_icmp .le 5, 3) := by decide +kernel
theorem e172_16 : decode (px_cd 172) 16 = .ok (.iconst (-1), 1) := by decide +kernel
theorem e172_17 : decode (px_cd 172) 17 = .ok (.ireturn, 1) := by decide +kernel
theorem e172_18 : decode (px_cd 172) 18 = .ok (.iload_n 2, 1) := by decide +kernel
theorem e172_19 : decode (px_cd 172) 19 = .ok (.ifCond .ne 20, 3) := by decide +kernel
theorem e172_22 : decode (px_cd 172) 22 = .ok (.aload_n 0, 1) := by decide +kernel
theorem e172_23 : decode (px_cd 172) 23 = .ok (.getfield 7, 3) := by decide +kernel
theorem e172_26 : decode (px_cd 172) 26 = .ok (.iconst 3, 1) := by decide +kernel
theorem e172_27 : decode (px_cd 172) 27 = .ok (.iload_n 1, 1) := by decide +kernel
theorem e172_28 : decode (px_cd 172) 28 = .ok (.iadd, 1) := by decide +kernel
theorem e172_29 : decode (px_cd 172) 29 = .ok (.baload, 1) := by decide +kernel
theorem e172_30 : decode (px_cd 172) 30 = .ok (.ifCond .eq 7, 3) := by decide +kernel
theorem e172_33 : decode (px_cd 172) 33 = .ok (.iconst 1, 1) := by decide +kernel
theorem e172_34 : decode (px_cd 172) 34 = .ok (.goto 4, 3) := by decide +kernel
theorem e172_37 : decode (px_cd 172) 37 = .ok (.iconst 0, 1) := by decide +kernel
theorem e172_38 : decode (px_cd 172) 38 = .ok (.ireturn, 1) := by decide +kernel
theorem e172_39 : decode (px_cd 172) 39 = .ok (.aload_n 0, 1) := by decide +kernel
theorem e172_40 : decode (px_cd 172) 40 = .ok (.getfield 7, 3) := by decide +kernel
theorem e172_43 : decode (px_cd 172) 43 = .ok (.iconst 3, 1) := by decide +kernel
theorem e172_44 : decode (px_cd 172) 44 = .ok (.iload_n 1, 1) := by decide +kernel
theorem e172_45 : decode (px_cd 172) 45 = .ok (.iadd, 1) := by decide +kernel
theorem e172_46 : decode (px_cd 172) 46 = .ok (.baload, 1) := by decide +kernel
theorem e172_47 : decode (px_cd 172) 47 = .ok (.ifCond .ne 7, 3) := by decide +kernel
theorem e172_50 : decode (px_cd 172) 50 = .ok (.iconst (-1), 1) := by decide +kernel
theorem e172_51 : decode (px_cd 172) 51 = .ok (.goto 43, 3) := by decide +kernel
theorem e172_54 : decode (px_cd 172) 54 = .ok (.iload_n 2, 1) := by decide +kernel
theorem e172_55 : decode (px_cd 172) 55 = .ok (.iconst 1, 1) := by decide +kernel
theorem e172_56 : decode (px_cd 172) 56 = .ok (.if_icmp .ne 14, 3) := by decide +kernel
theorem e172_59 : decode (px_cd 172) 59 = .ok (.aload_n 0, 1) := by decide +kernel
theorem e172_60 : decode (px_cd 172) 60 = .ok (.getfield 13, 3) := by decide +kernel
theorem e172_63 : decode (px_cd 172) 63 = .ok (.iconst 3, 1) := by decide +kernel
theorem e172_64 : decode (px_cd 172) 64 = .ok (.iload_n 1, 1) := by decide +kernel
theorem e172_65 : decode (px_cd 172) 65 = .ok (.iadd, 1) := by decide +kernel
theorem e172_66 : decode (px_cd 172) 66 = .ok (.iaload, 1) := by decide +kernel
theorem e172_67 : decode (px_cd 172) 67 = .ok (.goto 27, 3) := by decide +kernel
theorem e172_70 : decode (px_cd 172) 70 = .ok (.iload_n 2, 1) := by decide +kernel
theorem e172_71 : decode (px_cd 172) 71 = .ok (.iconst 2, 1) := by decide +kernel
theorem e172_72 : decode (px_cd 172) 72 = .ok (.if_icmp .ne 14, 3) := by decide +kernel
theorem e172_75 : decode (px_cd 172) 75 = .ok (.aload_n 0, 1) := by decide +kernel
theorem e172_76 : decode (px_cd 172) 76 = .ok (.getfield 20, 3) := by decide +kernel
theorem e172_79 : decode (px_cd 172) 79 = .ok (.iconst 3, 1) := by decide +kernel
theorem e172_80 : decode (px_cd 172) 80 = .ok (.iload_n 1, 1) := by decide +kernel
theorem e172_81 : decode (px_cd 172) 81 = .ok (.iadd, 1) := by decide +kernel
theorem e172_82 : decode (px_cd 172) 82 = .ok (.iaload, 1) := by decide +kernel
theorem e172_83 : decode (px_cd 172) 83 = .ok (.goto 11, 3) := by decide +kernel
theorem e172_86 : decode (px_cd 172) 86 = .ok (.aload_n 0, 1) := by decide +kernel
theorem e172_87 : decode (px_cd 172) 87 = .ok (.getfield 17, 3) := by decide +kernel
theorem e172_90 : decode (px_cd 172) 90 = .ok (.iconst 3, 1) := by decide +kernel
theorem e172_91 : decode (px_cd 172) 91 = .ok (.iload_n 1, 1) := by decide +kernel
theorem e172_92 : decode (px_cd 172) 92 = .ok (.iadd, 1) := by decide +kernel
theorem e172_93 : decode (px_cd 172) 93 = .ok (.iaload, 1) := by decide +kernel
theorem e172_94 : decode (px_cd 172) 94 = .ok (.ireturn, 1) := by decide +kernel
-- 173 ImageFileModel_told
theorem e173_0 : decode (px_cd 173) 0 = .ok (.iload_n 1, 1) := by decide +kernel
theorem e173_1 : decode (px_cd 173) 1 = .ok (.ifCond .ne 12, 3) := by decide +kernel
theorem e173_4 : decode (px_cd 173) 4 = .ok (.aload_n 0, 1) := by decide +kernel
theorem e173_5 : decode (px_cd 173) 5 = .ok (.getfield 29, 3) := by decide +kernel
theorem e173_8 : decode (px_cd 173) 8 = .ok (.iconst 1, 1) := by decide +kernel
theorem e173_9 : decode (px_cd 173) 9 = .ok (.iaload, 1) := by decide +kernel
theorem e173_10 : decode (px_cd 173) 10 = .ok (.goto 57, 3) := by decide +kernel
theorem e173_13 : decode (px_cd 173) 13 = .ok (.iload_n 1, 1) := by decide +kernel
theorem e173_14 : decode (px_cd 173) 14 = .ok (.iconst 1, 1) := by decide +kernel
theorem e173_15 : decode (px_cd 173) 15 = .ok (.if_icmp .ne 12, 3) := by decide +kernel
theorem e173_18 : decode (px_cd 173) 18 = .ok (.aload_n 0, 1) := by decide +kernel
theorem e173_19 : decode (px_cd 173) 19 = .ok (.getfield 32, 3) := by decide +kernel
theorem e173_22 : decode (px_cd 173) 22 = .ok (.iconst 1, 1) := by decide +kernel
theorem e173_23 : decode (px_cd 173) 23 = .ok (.iaload, 1) := by decide +kernel
theorem e173_24 : decode (px_cd 173) 24 = .ok (.goto 43, 3) := by decide +kernel
theorem e173_27 : decode (px_cd 173) 27 = .ok (.iload_n 1, 1) := by decide +kernel
theorem e173_28 : decode (px_cd 173) 28 = .ok (.iconst 2, 1) := by decide +kernel
theorem e173_29 : decode (px_cd 173) 29 = .ok (.if_icmp .ne 11, 3) := by decide +kernel
theorem e173_32 : decode (px_cd 173) 32 = .ok (.aload_n 0, 1) := by decide +kernel
theorem e173_33 : decode (px_cd 173) 33 = .ok (.iconst 1, 1) := by decide +kernel
theorem e173_34 : decode (px_cd 173) 34 = .ok (.invokevirtual 134, 3) := by decide +kernel
theorem e173_37 : decode (px_cd 173) 37 = .ok (.goto 30, 3) := by decide +kernel
theorem e173_40 : decode (px_cd 173) 40 = .ok (.iload_n 1, 1) := by decide +kernel
theorem e173_41 : decode (px_cd 173) 41 = .ok (.iconst 3, 1) := by decide +kernel
theorem e173_42 : decode (px_cd 173) 42 = .ok (.if_icmp .ne 11, 3) := by decide +kernel
theorem e173_45 : decode (px_cd 173) 45 = .ok (.aload_n 0, 1) := by decide +kernel
theorem e173_46 : decode (px_cd 173) 46 = .ok (.iconst 1, 1) := by decide +kernel
theorem e173_47 : decode (px_cd 173) 47 = .ok (.invokevirtual 224, 3) := by decide +kernel
theorem e173_50 : decode (px_cd 173) 50 = .ok (.goto 17, 3) := by decide +kernel
theorem e173_53 : decode (px_cd 173) 53 = .ok (.iload_n 1, 1) := by decide +kernel
theorem e173_54 : decode (px_cd 173) 54 = .ok (.iconst 4, 1) := by decide +kernel
theorem e173_55 : decode (px_cd 173) 55 = .ok (.if_icmp .ne 11, 3) := by decide +kernel
theorem e173_58 : decode (px_cd 173) 58 = .ok (.aload_n 0, 1) := by decide +kernel
theorem e173_59 : decode (px_cd 173) 59 = .ok (.iconst 1, 1) := by decide +kernel
theorem e173_60 : decode (px_cd 173) 60 = .ok (.invokevirtual 123, 3) := by decide +kernel
theorem e173_63 : decode (px_cd 173) 63 = .ok (.goto 4, 3) := by decide +kernel
theorem e173_66 : decode (px_cd 173) 66 = .ok (.iconst 0, 1) := by decide +kernel
theorem e173_67 : decode (px_cd 173) 67 = .ok (.ireturn, 1) := by decide +kernel
-- 174 ImageFileModel_marksIn
theorem e174_0 : decode (px_cd 174) 0 = .ok (.iconst 0, 1) := by decide +kernel
theorem e174_1 : decode (px_cd 174) 1 = .ok (.istore_n 2, 1) := by decide +kernel
theorem e174_2 : decode (px_cd 174) 2 = .ok (.iconst 0, 1) := by decide +kernel
theorem e174_3 : decode (px_cd 174) 3 = .ok (.istore_n 3, 1) := by decide +kernel
theorem e174_4 : decode (px_cd 174) 4 = .ok (.iload_n 3, 1) := by decide +kernel
theorem e174_5 : decode (px_cd 174) 5 = .ok (.sipush 2048, 3) := by decide +kernel
theorem e174_8 : decode (px_cd 174) 8 = .ok (.if_icmp .ge 32, 3) := by decide +kernel
theorem e174_11 : decode (px_cd 174) 11 = .ok (.iload_n 2, 1) := by decide +kernel
theorem e174_12 : decode (px_cd 174) 12 = .ok (.aload_n 0, 1) := by decide +kernel
theorem e174_13 : decode (px_cd 174) 13 = .ok (.getfield 26, 3) := by decide +kernel
theorem e174_16 : decode (px_cd 174) 16 = .ok (.sipush 2048, 3) := by decide +kernel
theorem e174_19 : decode (px_cd 174) 19 = .ok (.iload_n 1, 1) := by decide +kernel
theorem e174_20 : decode (px_cd 174) 20 = .ok (.imul, 1) := by decide +kernel
theorem e174_21 : decode (px_cd 174) 21 = .ok (.iload_n 3, 1) := by decide +kernel
theorem e174_22 : decode (px_cd 174) 22 = .ok (.iadd, 1) := by decide +kernel
theorem e174_23 : decode (px_cd 174) 23 = .ok (.baload, 1) := by decide +kernel
theorem e174_24 : decode (px_cd 174) 24 = .ok (.ifCond .eq 7, 3) := by decide +kernel
theorem e174_27 : decode (px_cd 174) 27 = .ok (.iconst 1, 1) := by decide +kernel
theorem e174_28 : decode (px_cd 174) 28 = .ok (.goto 4, 3) := by decide +kernel
theorem e174_31 : decode (px_cd 174) 31 = .ok (.iconst 0, 1) := by decide +kernel
theorem e174_32 : decode (px_cd 174) 32 = .ok (.iadd, 1) := by decide +kernel
theorem e174_33 : decode (px_cd 174) 33 = .ok (.istore_n 2, 1) := by decide +kernel
theorem e174_34 : decode (px_cd 174) 34 = .ok (.iinc 3 1, 3) := by decide +kernel
theorem e174_37 : decode (px_cd 174) 37 = .ok (.goto (-33), 3) := by decide +kernel
theorem e174_40 : decode (px_cd 174) 40 = .ok (.iload_n 2, 1) := by decide +kernel
theorem e174_41 : decode (px_cd 174) 41 = .ok (.ireturn, 1) := by decide +kernel
-- 175 ImageFileModel_byteIn
theorem e175_0 : decode (px_cd 175) 0 = .ok (.aload_n 0, 1) := by decide +kernel
theorem e175_1 : decode (px_cd 175) 1 = .ok (.iload_n 1, 1) := by decide +kernel
theorem e175_2 : decode (px_cd 175) 2 = .ok (.invokevirtual 227, 3) := by decide +kernel
theorem e175_5 : decode (px_cd 175) 5 = .ok (.istore_n 2, 1) := by decide +kernel
theorem e175_6 : decode (px_cd 175) 6 = .ok (.iload_n 2, 1) := by decide +kernel
theorem e175_7 : decode (px_cd 175) 7 = .ok (.iconst (-1), 1) := by decide +kernel
theorem e175_8 : decode (px_cd 175) 8 = .ok (.if_icmp .ne 5, 3) := by decide +kernel
theorem e175_11 : decode (px_cd 175) 11 = .ok (.iconst (-1), 1) := by decide +kernel
theorem e175_12 : decode (px_cd 175) 12 = .ok (.ireturn, 1) := by decide +kernel
theorem e175_13 : decode (px_cd 175) 13 = .ok (.iload_n 1, 1) := by decide +kernel
theorem e175_14 : decode (px_cd 175) 14 = .ok (.aload_n 0, 1) := by decide +kernel
theorem e175_15 : decode (px_cd 175) 15 = .ok (.getfield 13, 3) := by decide +kernel
theorem e175_18 : decode (px_cd 175) 18 = .ok (.iload_n 2, 1) := by decide +kernel
theorem e175_19 : decode (px_cd 175) 19 = .ok (.iaload, 1) := by decide +kernel
theorem e175_20 : decode (px_cd 175) 20 = .ok (.isub, 1) := by decide +kernel
theorem e175_21 : decode (px_cd 175) 21 = .ok (.aload_n 0, 1) := by decide +kernel
theorem e175_22 : decode (px_cd 175) 22 = .ok (.getfield 20, 3) := by decide +kernel
theorem e175_25 : decode (px_cd 175) 25 = .ok (.iload_n 2, 1) := by decide +kernel
theorem e175_26 : decode (px_cd 175) 26 = .ok (.iaload, 1) := by decide +kernel
theorem e175_27 : decode (px_cd 175) 27 = .ok (.if_icmp .ge 25, 3) := by decide +kernel
theorem e175_30 : decode (px_cd 175) 30 = .ok (.aload_n 0, 1) := by decide +kernel
theorem e175_31 : decode (px_cd 175) 31 = .ok (.getfield 23, 3) := by decide +kernel
theorem e175_34 : decode (px_cd 175) 34 = .ok (.sipush 4096, 3) := by decide +kernel
theorem e175_37 : decode (px_cd 175) 37 = .ok (.iload_n 2, 1) := by decide +kernel
theorem e175_38 : decode (px_cd 175) 38 = .ok (.imul, 1) := by decide +kernel
theorem e175_39 : decode (px_cd 175) 39 = .ok (.iload_n 1, 1) := by decide +kernel
theorem e175_40 : decode (px_cd 175) 40 = .ok (.iadd, 1) := by decide +kernel
theorem e175_41 : decode (px_cd 175) 41 = .ok (.aload_n 0, 1) := by decide +kernel
theorem e175_42 : decode (px_cd 175) 42 = .ok (.getfield 13, 3) := by decide +kernel
theorem e175_45 : decode (px_cd 175) 45 = .ok (.iload_n 2, 1) := by decide +kernel
theorem e175_46 : decode (px_cd 175) 46 = .ok (.iaload, 1) := by decide +kernel
theorem e175_47 : decode (px_cd 175) 47 = .ok (.isub, 1) := by decide +kernel
theorem e175_48 : decode (px_cd 175) 48 = .ok (.iaload, 1) := by decide +kernel
theorem e175_49 : decode (px_cd 175) 49 = .ok (.goto 4, 3) := by decide +kernel
theorem e175_52 : decode (px_cd 175) 52 = .ok (.iconst 0, 1) := by decide +kernel
theorem e175_53 : decode (px_cd 175) 53 = .ok (.ireturn, 1) := by decide +kernel
-- 176 ImageFileModel_segmentAt
theorem e176_0 : decode (px_cd 176) 0 = .ok (.iconst 3, 1) := by decide +kernel
theorem e176_1 : decode (px_cd 176) 1 = .ok (.istore_n 2, 1) := by decide +kernel
theorem e176_2 : decode (px_cd 176) 2 = .ok (.iload_n 2, 1) := by decide +kernel
theorem e176_3 : decode (px_cd 176) 3 = .ok (.bipush 6, 2) := by decide +kernel
theorem e176_5 : decode (px_cd 176) 5 = .ok (.if_icmp .ge 39, 3) := by decide +kernel
theorem e176_8 : decode (px_cd 176) 8 = .ok (.aload_n 0, 1) := by decide +kernel
theorem e176_9 : decode (px_cd 176) 9 = .ok (.getfield 7, 3) := by decide +kernel
theorem e176_12 : decode (px_cd 176) 12 = .ok (.iload_n 2, 1) := by decide +kernel
theorem e176_13 : decode (px_cd 176) 13 = .ok (.baload, 1) := by decide +kernel
theorem e176_14 : decode (px_cd 176) 14 = .ok (.ifCond .eq 24, 3) := by decide +kernel
theorem e176_17 : decode (px_cd 176) 17 = .ok (.iload_n 1, 1) := by decide +kernel
theorem e176_18 : decode (px_cd 176) 18 = .ok (.aload_n 0, 1) := by decide +kernel
theorem e176_19 : decode (px_cd 176) 19 = .ok (.getfield 13, 3) := by decide +kernel
theorem e176_22 : decode (px_cd 176) 22 = .ok (.iload_n 2, 1) := by decide +kernel
theorem e176_23 : decode (px_cd 176) 23 = .ok (.iaload, 1) := by decide +kernel
theorem e176_24 : decode (px_cd 176) 24 = .ok (.if_icmp .lt 14, 3) := by decide +kernel
theorem e176_27 : decode (px_cd 176) 27 = .ok (.iload_n 1, 1) := by decide +kernel
theorem e176_28 : decode (px_cd 176) 28 = .ok (.aload_n 0, 1) := by decide +kernel
theorem e176_29 : decode (px_cd 176) 29 = .ok (.iload_n 2, 1) := by decide +kernel
theorem e176_30 : decode (px_cd 176) 30 = .ok (.invokevirtual 64, 3) := by decide +kernel
theorem e176_33 : decode (px_cd 176) 33 = .ok (.if_icmp .ge 5, 3) := by decide +kernel
theorem e176_36 : decode (px_cd 176) 36 = .ok (.iload_n 2, 1) := by decide +kernel
theorem e176_37 : decode (px_cd 176) 37 = .ok (.ireturn, 1) := by decide +kernel
theorem e176_38 : decode (px_cd 176) 38 = .ok (.iinc 2 1, 3) := by decide +kernel
theorem e176_41 : decode (px_cd 176) 41 = .ok (.goto (-39), 3) := by decide +kernel
theorem e176_44 : decode (px_cd 176) 44 = .ok (.iconst (-1), 1) := by decide +kernel
theorem e176_45 : decode (px_cd 176) 45 = .ok (.ireturn, 1) := by decide +kernel
-- 177 ImageFileModel_wordIn
theorem e177_0 : decode (px_cd 177) 0 = .ok (.iconst 0, 1) := by decide +kernel
theorem e177_1 : decode (px_cd 177) 1 = .ok (.istore_n 2, 1) := by decide +kernel
theorem e177_2 : decode (px_cd 177) 2 = .ok (.iconst 3, 1) := by decide +kernel
theorem e177_3 : decode (px_cd 177) 3 = .ok (.istore_n 3, 1) := by decide +kernel
theorem e177_4 : decode (px_cd 177) 4 = .ok (.iload_n 3, 1) := by decide +kernel
theorem e177_5 : decode (px_cd 177) 5 = .ok (.ifCond .lt 34, 3) := by decide +kernel
theorem e177_8 : decode (px_cd 177) 8 = .ok (.aload_n 0, 1) := by decide +kernel
theorem e177_9 : decode (px_cd 177) 9 = .ok (.iload_n 1, 1) := by decide +kernel
theorem e177_10 : decode (px_cd 177) 10 = .ok (.iload_n 3, 1) := by decide +kernel
theorem e177_11 : decode (px_cd 177) 11 = .ok (.iadd, 1) := by decide +kernel
theorem e177_12 : decode (px_cd 177) 12 = .ok (.invokevirtual 230, 3) := by decide +kernel
theorem e177_15 : decode (px_cd 177) 15 = .ok (.istore 4, 2) := by decide +kernel
theorem e177_17 : decode (px_cd 177) 17 = .ok (.iload 4, 2) := by decide +kernel
theorem e177_19 : decode (px_cd 177) 19 = .ok (.iconst (-1), 1) := by decide +kernel
theorem e177_20 : decode (px_cd 177) 20 = .ok (.if_icmp .ne 5, 3) := by decide +kernel
theorem e177_23 : decode (px_cd 177) 23 = .ok (.iconst (-1), 1) := by decide +kernel
theorem e177_24 : decode (px_cd 177) 24 = .ok (.ireturn, 1) := by decide +kernel
theorem e177_25 : decode (px_cd 177) 25 = .ok (.iload_n 2, 1) := by decide +kernel
theorem e177_26 : decode (px_cd 177) 26 = .ok (.bipush 8, 2) := by decide +kernel
theorem e177_28 : decode (px_cd 177) 28 = .ok (.ishl, 1) := by decide +kernel
theorem e177_29 : decode (px_cd 177) 29 = .ok (.iload 4, 2) := by decide +kernel
theorem e177_31 : decode (px_cd 177) 31 = .ok (.ior, 1) := by decide +kernel
theorem e177_32 : decode (px_cd 177) 32 = .ok (.istore_n 2, 1) := by decide +kernel
theorem e177_33 : decode (px_cd 177) 33 = .ok (.iinc 3 (-1), 3) := by decide +kernel
theorem e177_36 : decode (px_cd 177) 36 = .ok (.goto (-32), 3) := by decide +kernel
theorem e177_39 : decode (px_cd 177) 39 = .ok (.iload_n 2, 1) := by decide +kernel
theorem e177_40 : decode (px_cd 177) 40 = .ok (.ireturn, 1) := by decide +kernel
-- 178 ImageFileModel_rights
theorem e178_0 : decode (px_cd 178) 0 = .ok (.aload_n 0, 1) := by decide +kernel
theorem e178_1 : decode (px_cd 178) 1 = .ok (.iload_n 1, 1) := by decide +kernel
theorem e178_2 : decode (px_cd 178) 2 = .ok (.invokevirtual 227, 3) := by decide +kernel
theorem e178_5 : decode (px_cd 178) 5 = .ok (.istore_n 2, 1) := by decide +kernel
theorem e178_6 : decode (px_cd 178) 6 = .ok (.iload_n 2, 1) := by decide +kernel
theorem e178_7 : decode (px_cd 178) 7 = .ok (.iconst (-1), 1) := by decide +kernel
theorem e178_8 : decode (px_cd 178) 8 = .ok (.if_icmp .ne 7, 3) := by decide +kernel
theorem e178_11 : decode (px_cd 178) 11 = .ok (.iconst 0, 1) := by decide +kernel
theorem e178_12 : decode (px_cd 178) 12 = .ok (.goto 9, 3) := by decide +kernel
theorem e178_15 : decode (px_cd 178) 15 = .ok (.iload_n 2, 1) := by decide +kernel
theorem e178_16 : decode (px_cd 178) 16 = .ok (.iconst 3, 1) := by decide +kernel
theorem e178_17 : decode (px_cd 178) 17 = .ok (.isub, 1) := by decide +kernel
theorem e178_18 : decode (px_cd 178) 18 = .ok (.invokestatic 126, 3) := by decide +kernel
theorem e178_21 : decode (px_cd 178) 21 = .ok (.ireturn, 1) := by decide +kernel
-- 179 ImageFileModel_marked
theorem e179_0 : decode (px_cd 179) 0 = .ok (.aload_n 0, 1) := by decide +kernel
theorem e179_1 : decode (px_cd 179) 1 = .ok (.iconst 1, 1) := by decide +kernel
theorem e179_2 : decode (px_cd 179) 2 = .ok (.iload_n 1, 1) := by decide +kernel
theorem e179_3 : decode (px_cd 179) 3 = .ok (.invokevirtual 85, 3) := by decide +kernel
theorem e179_6 : decode (px_cd 179) 6 = .ok (.ifCond .eq 21, 3) := by decide +kernel
theorem e179_9 : decode (px_cd 179) 9 = .ok (.aload_n 0, 1) := by decide +kernel
theorem e179_10 : decode (px_cd 179) 10 = .ok (.iconst 1, 1) := by decide +kernel
theorem e179_11 : decode (px_cd 179) 11 = .ok (.iload_n 1, 1) := by decide +kernel
theorem e179_12 : decode (px_cd 179) 12 = .ok (.aload_n 0, 1) := by decide +kernel
theorem e179_13 : decode (px_cd 179) 13 = .ok (.getfield 13, 3) := by decide +kernel
theorem e179_16 : decode (px_cd 179) 16 = .ok (.iconst 3, 1) := by decide +kernel
theorem e179_17 : decode (px_cd 179) 17 = .ok (.iaload, 1) := by decide +kernel
theorem e179_18 : decode (px_cd 179) 18 = .ok (.isub, 1) := by decide +kernel
theorem e179_19 : decode (px_cd 179) 19 = .ok (.iconst 2, 1) := by decide +kernel
theorem e179_20 : decode (px_cd 179) 20 = .ok (.idiv, 1) := by decide +kernel
theorem e179_21 : decode (px_cd 179) 21 = .ok (.invokevirtual 71, 3) := by decide +kernel
theorem e179_24 : decode (px_cd 179) 24 = .ok (.goto 4, 3) := by decide +kernel
theorem e179_27 : decode (px_cd 179) 27 = .ok (.iconst 0, 1) := by decide +kernel
theorem e179_28 : decode (px_cd 179) 28 = .ok (.ireturn, 1) := by decide +kernel
-- 180 ImageFileModel_markBelow
theorem e180_0 : decode (px_cd 180) 0 = .ok (.iconst (-1), 1) := by decide +kernel
theorem e180_1 : decode (px_cd 180) 1 = .ok (.istore_n 2, 1) := by decide +kernel
theorem e180_2 : decode (px_cd 180) 2 = .ok (.iconst 0, 1) := by decide +kernel
theorem e180_3 : decode (px_cd 180) 3 = .ok (.istore_n 3, 1) := by decide +kernel
theorem e180_4 : decode (px_cd 180) 4 = .ok (.iload_n 3, 1) := by decide +kernel
theorem e180_5 : decode (px_cd 180) 5 = .ok (.sipush 2048, 3) := by decide +kernel
theorem e180_8 : decode (px_cd 180) 8 = .ok (.if_icmp .ge 56, 3) := by decide +kernel
theorem e180_11 : decode (px_cd 180) 11 = .ok (.aload_n 0, 1) := by decide +kernel
theorem e180_12 : decode (px_cd 180) 12 = .ok (.getfield 7, 3) := by decide +kernel
theorem e180_15 : decode (px_cd 180) 15 = .ok (.iconst 3, 1) := by decide +kernel
theorem e180_16 : decode (px_cd 180) 16 = .ok (.baload, 1) := by decide +kernel
theorem e180_17 : decode (px_cd 180) 17 = .ok (.ifCond .eq 47, 3) := by decide +kernel
theorem e180_20 : decode (px_cd 180) 20 = .ok (.aload_n 0, 1) := by decide +kernel
theorem e180_21 : decode (px_cd 180) 21 = .ok (.getfield 26, 3) := by decide +kernel
theorem e180_24 : decode (px_cd 180) 24 = .ok (.sipush 2048, 3) := by decide +kernel
theorem e180_27 : decode (px_cd 180) 27 = .ok (.iload_n 3, 1) := by decide +kernel
theorem e180_28 : decode (px_cd 180) 28 = .ok (.iadd, 1) := by decide +kernel
theorem e180_29 : decode (px_cd 180) 29 = .ok (.baload, 1) := by decide +kernel
theorem e180_30 : decode (px_cd 180) 30 = .ok (.ifCond .eq 28, 3) := by decide +kernel
theorem e180_33 : decode (px_cd 180) 33 = .ok (.aload_n 0, 1) := by decide +kernel
theorem e180_34 : decode (px_cd 180) 34 = .ok (.getfield 13, 3) := by decide +kernel
theorem e180_37 : decode (px_cd 180) 37 = .ok (.iconst 3, 1) := by decide +kernel
theorem e180_38 : decode (px_cd 180) 38 = .ok (.iaload, 1) := by decide +kernel
theorem e180_39 : decode (px_cd 180) 39 = .ok (.iconst 2, 1) := by decide +kernel
theorem e180_40 : decode (px_cd 180) 40 = .ok (.iload_n 3, 1) := by decide +kernel
theorem e180_41 : decode (px_cd 180) 41 = .ok (.imul, 1) := by decide +kernel
theorem e180_42 : decode (px_cd 180) 42 = .ok (.iadd, 1) := by decide +kernel
theorem e180_43 : decode (px_cd 180) 43 = .ok (.iload_n 1, 1) := by decide +kernel
theorem e180_44 : decode (px_cd 180) 44 = .ok (.if_icmp .gt 14, 3) := by decide +kernel
theorem e180_47 : decode (px_cd 180) 47 = .ok (.aload_n 0, 1) := by decide +kernel
theorem e180_48 : decode (px_cd 180) 48 = .ok (.getfield 13, 3) := by decide +kernel
theorem e180_51 : decode (px_cd 180) 51 = .ok (.iconst 3, 1) := by decide +kernel
theorem e180_52 : decode (px_cd 180) 52 = .ok (.iaload, 1) := by decide +kernel
theorem e180_53 : decode (px_cd 180) 53 = .ok (.iconst 2, 1) := by decide +kernel
theorem e180_54 : decode (px_cd 180) 54 = .ok (.iload_n 3, 1) := by decide +kernel
theorem e180_55 : decode (px_cd 180) 55 = .ok (.imul, 1) := by decide +kernel
theorem e180_56 : decode (px_cd 180) 56 = .ok (.iadd, 1) := by decide +kernel
theorem e180_57 : decode (px_cd 180) 57 = .ok (.istore_n 2, 1) := by decide +kernel
theorem e180_58 : decode (px_cd 180) 58 = .ok (.iinc 3 1, 3) := by decide +kernel
theorem e180_61 : decode (px_cd 180) 61 = .ok (.goto (-57), 3) := by decide +kernel
theorem e180_64 : decode (px_cd 180) 64 = .ok (.iload_n 2, 1) := by decide +kernel
theorem e180_65 : decode (px_cd 180) 65 = .ok (.ireturn, 1) := by decide +kernel
