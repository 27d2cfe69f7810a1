/-! printed by wip/whole/gen3.py: what stands at each place of a method, and what the tables say there -/
-- 3 Bytes_init
theorem e3_0 : decode (px_cd 3) 0 = .ok (.aload_n 0, 1) := by decide +kernel
theorem e3_1 : decode (px_cd 3) 1 = .ok (.invokespecial 3, 3) := by decide +kernel
theorem e3_4 : decode (px_cd 3) 4 = .ok (.aload_n 0, 1) := by decide +kernel
theorem e3_5 : decode (px_cd 3) 5 = .ok (.iload_n 1, 1) := by decide +kernel
theorem e3_6 : decode (px_cd 3) 6 = .ok (.putfield 9, 3) := by decide +kernel
theorem e3_9 : decode (px_cd 3) 9 = .ok (.aload_n 0, 1) := by decide +kernel
theorem e3_10 : decode (px_cd 3) 10 = .ok (.iconst 0, 1) := by decide +kernel
theorem e3_11 : decode (px_cd 3) 11 = .ok (.newarray .byte, 2) := by decide +kernel
theorem e3_13 : decode (px_cd 3) 13 = .ok (.putfield 15, 3) := by decide +kernel
theorem e3_16 : decode (px_cd 3) 16 = .ok (.return_, 1) := by decide +kernel
-- 9 Bytes_shorten
theorem e9_0 : decode (px_cd 9) 0 = .ok (.iload_n 1, 1) := by decide +kernel
theorem e9_1 : decode (px_cd 9) 1 = .ok (.ifCond .lt 11, 3) := by decide +kernel
theorem e9_4 : decode (px_cd 9) 4 = .ok (.iload_n 1, 1) := by decide +kernel
theorem e9_5 : decode (px_cd 9) 5 = .ok (.aload_n 0, 1) := by decide +kernel
theorem e9_6 : decode (px_cd 9) 6 = .ok (.getfield 19, 3) := by decide +kernel
theorem e9_9 : decode (px_cd 9) 9 = .ok (.if_icmp .le 5, 3) := by decide +kernel
theorem e9_12 : decode (px_cd 9) 12 = .ok (.iconst 0, 1) := by decide +kernel
theorem e9_13 : decode (px_cd 9) 13 = .ok (.ireturn, 1) := by decide +kernel
theorem e9_14 : decode (px_cd 9) 14 = .ok (.aload_n 0, 1) := by decide +kernel
theorem e9_15 : decode (px_cd 9) 15 = .ok (.iload_n 1, 1) := by decide +kernel
theorem e9_16 : decode (px_cd 9) 16 = .ok (.putfield 19, 3) := by decide +kernel
theorem e9_19 : decode (px_cd 9) 19 = .ok (.iconst 1, 1) := by decide +kernel
theorem e9_20 : decode (px_cd 9) 20 = .ok (.ireturn, 1) := by decide +kernel
-- 18 Bytes_addHighest
theorem e18_0 : decode (px_cd 18) 0 = .ok (.iload_n 1, 1) := by decide +kernel
theorem e18_1 : decode (px_cd 18) 1 = .ok (.iconst 1, 1) := by decide +kernel
theorem e18_2 : decode (px_cd 18) 2 = .ok (.if_icmp .lt 17, 3) := by decide +kernel
theorem e18_5 : decode (px_cd 18) 5 = .ok (.iload_n 1, 1) := by decide +kernel
theorem e18_6 : decode (px_cd 18) 6 = .ok (.bipush 8, 2) := by decide +kernel
theorem e18_8 : decode (px_cd 18) 8 = .ok (.if_icmp .gt 11, 3) := by decide +kernel
theorem e18_11 : decode (px_cd 18) 11 = .ok (.aload_n 0, 1) := by decide +kernel
theorem e18_12 : decode (px_cd 18) 12 = .ok (.iload_n 1, 1) := by decide +kernel
theorem e18_13 : decode (px_cd 18) 13 = .ok (.invokevirtual 28, 3) := by decide +kernel
theorem e18_16 : decode (px_cd 18) 16 = .ok (.ifCond .ne 5, 3) := by decide +kernel
theorem e18_19 : decode (px_cd 18) 19 = .ok (.iconst 0, 1) := by decide +kernel
theorem e18_20 : decode (px_cd 18) 20 = .ok (.ireturn, 1) := by decide +kernel
theorem e18_21 : decode (px_cd 18) 21 = .ok (.iconst 0, 1) := by decide +kernel
theorem e18_22 : decode (px_cd 18) 22 = .ok (.istore 4, 2) := by decide +kernel
theorem e18_24 : decode (px_cd 18) 24 = .ok (.iload 4, 2) := by decide +kernel
theorem e18_26 : decode (px_cd 18) 26 = .ok (.iload_n 1, 1) := by decide +kernel
theorem e18_27 : decode (px_cd 18) 27 = .ok (.if_icmp .ge 33, 3) := by decide +kernel
theorem e18_30 : decode (px_cd 18) 30 = .ok (.aload_n 0, 1) := by decide +kernel
theorem e18_31 : decode (px_cd 18) 31 = .ok (.getfield 15, 3) := by decide +kernel
theorem e18_34 : decode (px_cd 18) 34 = .ok (.aload_n 0, 1) := by decide +kernel
theorem e18_35 : decode (px_cd 18) 35 = .ok (.getfield 19, 3) := by decide +kernel
theorem e18_38 : decode (px_cd 18) 38 = .ok (.iload 4, 2) := by decide +kernel
theorem e18_40 : decode (px_cd 18) 40 = .ok (.iadd, 1) := by decide +kernel
theorem e18_41 : decode (px_cd 18) 41 = .ok (.lload_n 2, 1) := by decide +kernel
theorem e18_42 : decode (px_cd 18) 42 = .ok (.bipush 56, 2) := by decide +kernel
theorem e18_44 : decode (px_cd 18) 44 = .ok (.bipush 8, 2) := by decide +kernel
theorem e18_46 : decode (px_cd 18) 46 = .ok (.iload 4, 2) := by decide +kernel
theorem e18_48 : decode (px_cd 18) 48 = .ok (.imul, 1) := by decide +kernel
theorem e18_49 : decode (px_cd 18) 49 = .ok (.isub, 1) := by decide +kernel
theorem e18_50 : decode (px_cd 18) 50 = .ok (.lushr, 1) := by decide +kernel
theorem e18_51 : decode (px_cd 18) 51 = .ok (.l2i, 1) := by decide +kernel
theorem e18_52 : decode (px_cd 18) 52 = .ok (.i2b, 1) := by decide +kernel
theorem e18_53 : decode (px_cd 18) 53 = .ok (.bastore, 1) := by decide +kernel
theorem e18_54 : decode (px_cd 18) 54 = .ok (.iinc 4 1, 3) := by decide +kernel
theorem e18_57 : decode (px_cd 18) 57 = .ok (.goto (-33), 3) := by decide +kernel
theorem e18_60 : decode (px_cd 18) 60 = .ok (.aload_n 0, 1) := by decide +kernel
theorem e18_61 : decode (px_cd 18) 61 = .ok (.dup, 1) := by decide +kernel
theorem e18_62 : decode (px_cd 18) 62 = .ok (.getfield 19, 3) := by decide +kernel
theorem e18_65 : decode (px_cd 18) 65 = .ok (.iload_n 1, 1) := by decide +kernel
theorem e18_66 : decode (px_cd 18) 66 = .ok (.iadd, 1) := by decide +kernel
theorem e18_67 : decode (px_cd 18) 67 = .ok (.putfield 19, 3) := by decide +kernel
theorem e18_70 : decode (px_cd 18) 70 = .ok (.iconst 1, 1) := by decide +kernel
theorem e18_71 : decode (px_cd 18) 71 = .ok (.ireturn, 1) := by decide +kernel
-- 19 Bytes_makeRoom
theorem e19_0 : decode (px_cd 19) 0 = .ok (.iload_n 1, 1) := by decide +kernel
theorem e19_1 : decode (px_cd 19) 1 = .ok (.ifCond .lt 16, 3) := by decide +kernel
theorem e19_4 : decode (px_cd 19) 4 = .ok (.iload_n 1, 1) := by decide +kernel
theorem e19_5 : decode (px_cd 19) 5 = .ok (.aload_n 0, 1) := by decide +kernel
theorem e19_6 : decode (px_cd 19) 6 = .ok (.getfield 9, 3) := by decide +kernel
theorem e19_9 : decode (px_cd 19) 9 = .ok (.aload_n 0, 1) := by decide +kernel
theorem e19_10 : decode (px_cd 19) 10 = .ok (.getfield 19, 3) := by decide +kernel
theorem e19_13 : decode (px_cd 19) 13 = .ok (.isub, 1) := by decide +kernel
theorem e19_14 : decode (px_cd 19) 14 = .ok (.if_icmp .le 5, 3) := by decide +kernel
theorem e19_17 : decode (px_cd 19) 17 = .ok (.iconst 0, 1) := by decide +kernel
theorem e19_18 : decode (px_cd 19) 18 = .ok (.ireturn, 1) := by decide +kernel
theorem e19_19 : decode (px_cd 19) 19 = .ok (.aload_n 0, 1) := by decide +kernel
theorem e19_20 : decode (px_cd 19) 20 = .ok (.getfield 19, 3) := by decide +kernel
theorem e19_23 : decode (px_cd 19) 23 = .ok (.iload_n 1, 1) := by decide +kernel
theorem e19_24 : decode (px_cd 19) 24 = .ok (.iadd, 1) := by decide +kernel
theorem e19_25 : decode (px_cd 19) 25 = .ok (.istore_n 2, 1) := by decide +kernel
theorem e19_26 : decode (px_cd 19) 26 = .ok (.iload_n 2, 1) := by decide +kernel
theorem e19_27 : decode (px_cd 19) 27 = .ok (.aload_n 0, 1) := by decide +kernel
theorem e19_28 : decode (px_cd 19) 28 = .ok (.getfield 15, 3) := by decide +kernel
theorem e19_31 : decode (px_cd 19) 31 = .ok (.arraylength, 1) := by decide +kernel
theorem e19_32 : decode (px_cd 19) 32 = .ok (.if_icmp .le 32, 3) := by decide +kernel
theorem e19_35 : decode (px_cd 19) 35 = .ok (.aload_n 0, 1) := by decide +kernel
theorem e19_36 : decode (px_cd 19) 36 = .ok (.aload_n 0, 1) := by decide +kernel
theorem e19_37 : decode (px_cd 19) 37 = .ok (.getfield 15, 3) := by decide +kernel
theorem e19_40 : decode (px_cd 19) 40 = .ok (.aload_n 0, 1) := by decide +kernel
theorem e19_41 : decode (px_cd 19) 41 = .ok (.getfield 9, 3) := by decide +kernel
theorem e19_44 : decode (px_cd 19) 44 = .ok (.iload_n 2, 1) := by decide +kernel
theorem e19_45 : decode (px_cd 19) 45 = .ok (.iconst 2, 1) := by decide +kernel
theorem e19_46 : decode (px_cd 19) 46 = .ok (.aload_n 0, 1) := by decide +kernel
theorem e19_47 : decode (px_cd 19) 47 = .ok (.getfield 15, 3) := by decide +kernel
theorem e19_50 : decode (px_cd 19) 50 = .ok (.arraylength, 1) := by decide +kernel
theorem e19_51 : decode (px_cd 19) 51 = .ok (.imul, 1) := by decide +kernel
theorem e19_52 : decode (px_cd 19) 52 = .ok (.invokestatic 46, 3) := by decide +kernel
theorem e19_55 : decode (px_cd 19) 55 = .ok (.invokestatic 52, 3) := by decide +kernel
theorem e19_58 : decode (px_cd 19) 58 = .ok (.invokestatic 55, 3) := by decide +kernel
theorem e19_61 : decode (px_cd 19) 61 = .ok (.putfield 15, 3) := by decide +kernel
theorem e19_64 : decode (px_cd 19) 64 = .ok (.iconst 1, 1) := by decide +kernel
theorem e19_65 : decode (px_cd 19) 65 = .ok (.ireturn, 1) := by decide +kernel
-- 37 Bytes_at
theorem e37_0 : decode (px_cd 37) 0 = .ok (.iload_n 1, 1) := by decide +kernel
theorem e37_1 : decode (px_cd 37) 1 = .ok (.ifCond .lt 11, 3) := by decide +kernel
theorem e37_4 : decode (px_cd 37) 4 = .ok (.iload_n 1, 1) := by decide +kernel
theorem e37_5 : decode (px_cd 37) 5 = .ok (.aload_n 0, 1) := by decide +kernel
theorem e37_6 : decode (px_cd 37) 6 = .ok (.getfield 19, 3) := by decide +kernel
theorem e37_9 : decode (px_cd 37) 9 = .ok (.if_icmp .lt 7, 3) := by decide +kernel
theorem e37_12 : decode (px_cd 37) 12 = .ok (.iconst (-1), 1) := by decide +kernel
theorem e37_13 : decode (px_cd 37) 13 = .ok (.goto 13, 3) := by decide +kernel
theorem e37_16 : decode (px_cd 37) 16 = .ok (.aload_n 0, 1) := by decide +kernel
theorem e37_17 : decode (px_cd 37) 17 = .ok (.getfield 15, 3) := by decide +kernel
theorem e37_20 : decode (px_cd 37) 20 = .ok (.iload_n 1, 1) := by decide +kernel
theorem e37_21 : decode (px_cd 37) 21 = .ok (.baload, 1) := by decide +kernel
theorem e37_22 : decode (px_cd 37) 22 = .ok (.sipush 255, 3) := by decide +kernel
theorem e37_25 : decode (px_cd 37) 25 = .ok (.iand, 1) := by decide +kernel
theorem e37_26 : decode (px_cd 37) 26 = .ok (.ireturn, 1) := by decide +kernel
-- 46 Bytes_addByte
theorem e46_0 : decode (px_cd 46) 0 = .ok (.aload_n 0, 1) := by decide +kernel
theorem e46_1 : decode (px_cd 46) 1 = .ok (.iload_n 1, 1) := by decide +kernel
theorem e46_2 : decode (px_cd 46) 2 = .ok (.iconst 1, 1) := by decide +kernel
theorem e46_3 : decode (px_cd 46) 3 = .ok (.invokevirtual 32, 3) := by decide +kernel
theorem e46_6 : decode (px_cd 46) 6 = .ok (.return_, 1) := by decide +kernel
-- 47 Bytes_addNumber
theorem e47_0 : decode (px_cd 47) 0 = .ok (.aload_n 0, 1) := by decide +kernel
theorem e47_1 : decode (px_cd 47) 1 = .ok (.iload_n 2, 1) := by decide +kernel
theorem e47_2 : decode (px_cd 47) 2 = .ok (.invokevirtual 28, 3) := by decide +kernel
theorem e47_5 : decode (px_cd 47) 5 = .ok (.ifCond .eq 44, 3) := by decide +kernel
theorem e47_8 : decode (px_cd 47) 8 = .ok (.iconst 0, 1) := by decide +kernel
theorem e47_9 : decode (px_cd 47) 9 = .ok (.istore_n 3, 1) := by decide +kernel
theorem e47_10 : decode (px_cd 47) 10 = .ok (.iload_n 3, 1) := by decide +kernel
theorem e47_11 : decode (px_cd 47) 11 = .ok (.iload_n 2, 1) := by decide +kernel
theorem e47_12 : decode (px_cd 47) 12 = .ok (.if_icmp .ge 27, 3) := by decide +kernel
theorem e47_15 : decode (px_cd 47) 15 = .ok (.aload_n 0, 1) := by decide +kernel
theorem e47_16 : decode (px_cd 47) 16 = .ok (.getfield 15, 3) := by decide +kernel
theorem e47_19 : decode (px_cd 47) 19 = .ok (.aload_n 0, 1) := by decide +kernel
theorem e47_20 : decode (px_cd 47) 20 = .ok (.getfield 19, 3) := by decide +kernel
theorem e47_23 : decode (px_cd 47) 23 = .ok (.iload_n 3, 1) := by decide +kernel
theorem e47_24 : decode (px_cd 47) 24 = .ok (.iadd, 1) := by decide +kernel
theorem e47_25 : decode (px_cd 47) 25 = .ok (.iload_n 1, 1) := by decide +kernel
theorem e47_26 : decode (px_cd 47) 26 = .ok (.bipush 8, 2) := by decide +kernel
theorem e47_28 : decode (px_cd 47) 28 = .ok (.iload_n 3, 1) := by decide +kernel
theorem e47_29 : decode (px_cd 47) 29 = .ok (.imul, 1) := by decide +kernel
theorem e47_30 : decode (px_cd 47) 30 = .ok (.iushr, 1) := by decide +kernel
theorem e47_31 : decode (px_cd 47) 31 = .ok (.i2b, 1) := by decide +kernel
theorem e47_32 : decode (px_cd 47) 32 = .ok (.bastore, 1) := by decide +kernel
theorem e47_33 : decode (px_cd 47) 33 = .ok (.iinc 3 1, 3) := by decide +kernel
theorem e47_36 : decode (px_cd 47) 36 = .ok (.goto (-26), 3) := by decide +kernel
theorem e47_39 : decode (px_cd 47) 39 = .ok (.aload_n 0, 1) := by decide +kernel
theorem e47_40 : decode (px_cd 47) 40 = .ok (.dup, 1) := by decide +kernel
theorem e47_41 : decode (px_cd 47) 41 = .ok (.getfield 19, 3) := by decide +kernel
theorem e47_44 : decode (px_cd 47) 44 = .ok (.iload_n 2, 1) := by decide +kernel
theorem e47_45 : decode (px_cd 47) 45 = .ok (.iadd, 1) := by decide +kernel
theorem e47_46 : decode (px_cd 47) 46 = .ok (.putfield 19, 3) := by decide +kernel
theorem e47_49 : decode (px_cd 47) 49 = .ok (.return_, 1) := by decide +kernel
-- 48 Bytes_addU2
theorem e48_0 : decode (px_cd 48) 0 = .ok (.aload_n 0, 1) := by decide +kernel
theorem e48_1 : decode (px_cd 48) 1 = .ok (.iload_n 1, 1) := by decide +kernel
theorem e48_2 : decode (px_cd 48) 2 = .ok (.iconst 2, 1) := by decide +kernel
theorem e48_3 : decode (px_cd 48) 3 = .ok (.invokevirtual 32, 3) := by decide +kernel
theorem e48_6 : decode (px_cd 48) 6 = .ok (.return_, 1) := by decide +kernel
-- 49 Bytes_addU4
theorem e49_0 : decode (px_cd 49) 0 = .ok (.aload_n 0, 1) := by decide +kernel
theorem e49_1 : decode (px_cd 49) 1 = .ok (.iload_n 1, 1) := by decide +kernel
theorem e49_2 : decode (px_cd 49) 2 = .ok (.iconst 4, 1) := by decide +kernel
theorem e49_3 : decode (px_cd 49) 3 = .ok (.invokevirtual 32, 3) := by decide +kernel
theorem e49_6 : decode (px_cd 49) 6 = .ok (.return_, 1) := by decide +kernel
-- 52 Bytes_addZerosTo
theorem e52_0 : decode (px_cd 52) 0 = .ok (.iload_n 1, 1) := by decide +kernel
theorem e52_1 : decode (px_cd 52) 1 = .ok (.aload_n 0, 1) := by decide +kernel
theorem e52_2 : decode (px_cd 52) 2 = .ok (.getfield 19, 3) := by decide +kernel
theorem e52_5 : decode (px_cd 52) 5 = .ok (.if_icmp .lt 44, 3) := by decide +kernel
theorem e52_8 : decode (px_cd 52) 8 = .ok (.aload_n 0, 1) := by decide +kernel
theorem e52_9 : decode (px_cd 52) 9 = .ok (.iload_n 1, 1) := by decide +kernel
theorem e52_10 : decode (px_cd 52) 10 = .ok (.aload_n 0, 1) := by decide +kernel
theorem e52_11 : decode (px_cd 52) 11 = .ok (.getfield 19, 3) := by decide +kernel
theorem e52_14 : decode (px_cd 52) 14 = .ok (.isub, 1) := by decide +kernel
theorem e52_15 : decode (px_cd 52) 15 = .ok (.invokevirtual 28, 3) := by decide +kernel
theorem e52_18 : decode (px_cd 52) 18 = .ok (.ifCond .eq 31, 3) := by decide +kernel
theorem e52_21 : decode (px_cd 52) 21 = .ok (.aload_n 0, 1) := by decide +kernel
theorem e52_22 : decode (px_cd 52) 22 = .ok (.getfield 19, 3) := by decide +kernel
theorem e52_25 : decode (px_cd 52) 25 = .ok (.istore_n 2, 1) := by decide +kernel
theorem e52_26 : decode (px_cd 52) 26 = .ok (.iload_n 2, 1) := by decide +kernel
theorem e52_27 : decode (px_cd 52) 27 = .ok (.iload_n 1, 1) := by decide +kernel
theorem e52_28 : decode (px_cd 52) 28 = .ok (.if_icmp .ge 16, 3) := by decide +kernel
theorem e52_31 : decode (px_cd 52) 31 = .ok (.aload_n 0, 1) := by decide +kernel
theorem e52_32 : decode (px_cd 52) 32 = .ok (.getfield 15, 3) := by decide +kernel
theorem e52_35 : decode (px_cd 52) 35 = .ok (.iload_n 2, 1) := by decide +kernel
theorem e52_36 : decode (px_cd 52) 36 = .ok (.iconst 0, 1) := by decide +kernel
theorem e52_37 : decode (px_cd 52) 37 = .ok (.bastore, 1) := by decide +kernel
theorem e52_38 : decode (px_cd 52) 38 = .ok (.iinc 2 1, 3) := by decide +kernel
theorem e52_41 : decode (px_cd 52) 41 = .ok (.goto (-15), 3) := by decide +kernel
theorem e52_44 : decode (px_cd 52) 44 = .ok (.aload_n 0, 1) := by decide +kernel
theorem e52_45 : decode (px_cd 52) 45 = .ok (.iload_n 1, 1) := by decide +kernel
theorem e52_46 : decode (px_cd 52) 46 = .ok (.putfield 19, 3) := by decide +kernel
theorem e52_49 : decode (px_cd 52) 49 = .ok (.return_, 1) := by decide +kernel
-- 57 Bytes_addPart
theorem e57_0 : decode (px_cd 57) 0 = .ok (.iload_n 2, 1) := by decide +kernel
theorem e57_1 : decode (px_cd 57) 1 = .ok (.ifCond .lt 52, 3) := by decide +kernel
theorem e57_4 : decode (px_cd 57) 4 = .ok (.iload_n 3, 1) := by decide +kernel
theorem e57_5 : decode (px_cd 57) 5 = .ok (.ifCond .lt 48, 3) := by decide +kernel
theorem e57_8 : decode (px_cd 57) 8 = .ok (.iload_n 2, 1) := by decide +kernel
theorem e57_9 : decode (px_cd 57) 9 = .ok (.aload_n 1, 1) := by decide +kernel
theorem e57_10 : decode (px_cd 57) 10 = .ok (.getfield 19, 3) := by decide +kernel
theorem e57_13 : decode (px_cd 57) 13 = .ok (.iload_n 3, 1) := by decide +kernel
theorem e57_14 : decode (px_cd 57) 14 = .ok (.isub, 1) := by decide +kernel
theorem e57_15 : decode (px_cd 57) 15 = .ok (.if_icmp .gt 38, 3) := by decide +kernel
theorem e57_18 : decode (px_cd 57) 18 = .ok (.aload_n 0, 1) := by decide +kernel
theorem e57_19 : decode (px_cd 57) 19 = .ok (.iload_n 3, 1) := by decide +kernel
theorem e57_20 : decode (px_cd 57) 20 = .ok (.invokevirtual 28, 3) := by decide +kernel
theorem e57_23 : decode (px_cd 57) 23 = .ok (.ifCond .eq 30, 3) := by decide +kernel
theorem e57_26 : decode (px_cd 57) 26 = .ok (.aload_n 1, 1) := by decide +kernel
theorem e57_27 : decode (px_cd 57) 27 = .ok (.getfield 15, 3) := by decide +kernel
theorem e57_30 : decode (px_cd 57) 30 = .ok (.iload_n 2, 1) := by decide +kernel
theorem e57_31 : decode (px_cd 57) 31 = .ok (.aload_n 0, 1) := by decide +kernel
theorem e57_32 : decode (px_cd 57) 32 = .ok (.getfield 15, 3) := by decide +kernel
theorem e57_35 : decode (px_cd 57) 35 = .ok (.aload_n 0, 1) := by decide +kernel
theorem e57_36 : decode (px_cd 57) 36 = .ok (.getfield 19, 3) := by decide +kernel
theorem e57_39 : decode (px_cd 57) 39 = .ok (.iload_n 3, 1) := by decide +kernel
theorem e57_40 : decode (px_cd 57) 40 = .ok (.invokestatic 36, 3) := by decide +kernel
theorem e57_43 : decode (px_cd 57) 43 = .ok (.aload_n 0, 1) := by decide +kernel
theorem e57_44 : decode (px_cd 57) 44 = .ok (.dup, 1) := by decide +kernel
theorem e57_45 : decode (px_cd 57) 45 = .ok (.getfield 19, 3) := by decide +kernel
theorem e57_48 : decode (px_cd 57) 48 = .ok (.iload_n 3, 1) := by decide +kernel
theorem e57_49 : decode (px_cd 57) 49 = .ok (.iadd, 1) := by decide +kernel
theorem e57_50 : decode (px_cd 57) 50 = .ok (.putfield 19, 3) := by decide +kernel
theorem e57_53 : decode (px_cd 57) 53 = .ok (.return_, 1) := by decide +kernel
-- 69 Bytes_change
theorem e69_0 : decode (px_cd 69) 0 = .ok (.iload_n 1, 1) := by decide +kernel
theorem e69_1 : decode (px_cd 69) 1 = .ok (.ifCond .lt 19, 3) := by decide +kernel
theorem e69_4 : decode (px_cd 69) 4 = .ok (.iload_n 1, 1) := by decide +kernel
theorem e69_5 : decode (px_cd 69) 5 = .ok (.aload_n 0, 1) := by decide +kernel
theorem e69_6 : decode (px_cd 69) 6 = .ok (.getfield 19, 3) := by decide +kernel
theorem e69_9 : decode (px_cd 69) 9 = .ok (.if_icmp .ge 11, 3) := by decide +kernel
theorem e69_12 : decode (px_cd 69) 12 = .ok (.aload_n 0, 1) := by decide +kernel
theorem e69_13 : decode (px_cd 69) 13 = .ok (.getfield 15, 3) := by decide +kernel
theorem e69_16 : decode (px_cd 69) 16 = .ok (.iload_n 1, 1) := by decide +kernel
theorem e69_17 : decode (px_cd 69) 17 = .ok (.iload_n 2, 1) := by decide +kernel
theorem e69_18 : decode (px_cd 69) 18 = .ok (.i2b, 1) := by decide +kernel
theorem e69_19 : decode (px_cd 69) 19 = .ok (.bastore, 1) := by decide +kernel
theorem e69_20 : decode (px_cd 69) 20 = .ok (.return_, 1) := by decide +kernel
-- 75 Bytes_u2
theorem e75_0 : decode (px_cd 75) 0 = .ok (.iload_n 1, 1) := by decide +kernel
theorem e75_1 : decode (px_cd 75) 1 = .ok (.ifCond .lt 13, 3) := by decide +kernel
theorem e75_4 : decode (px_cd 75) 4 = .ok (.iload_n 1, 1) := by decide +kernel
theorem e75_5 : decode (px_cd 75) 5 = .ok (.aload_n 0, 1) := by decide +kernel
theorem e75_6 : decode (px_cd 75) 6 = .ok (.getfield 19, 3) := by decide +kernel
theorem e75_9 : decode (px_cd 75) 9 = .ok (.iconst 2, 1) := by decide +kernel
theorem e75_10 : decode (px_cd 75) 10 = .ok (.isub, 1) := by decide +kernel
theorem e75_11 : decode (px_cd 75) 11 = .ok (.if_icmp .le 7, 3) := by decide +kernel
theorem e75_14 : decode (px_cd 75) 14 = .ok (.iconst (-1), 1) := by decide +kernel
theorem e75_15 : decode (px_cd 75) 15 = .ok (.goto 19, 3) := by decide +kernel
theorem e75_18 : decode (px_cd 75) 18 = .ok (.aload_n 0, 1) := by decide +kernel
theorem e75_19 : decode (px_cd 75) 19 = .ok (.iload_n 1, 1) := by decide +kernel
theorem e75_20 : decode (px_cd 75) 20 = .ok (.invokevirtual 22, 3) := by decide +kernel
theorem e75_23 : decode (px_cd 75) 23 = .ok (.aload_n 0, 1) := by decide +kernel
theorem e75_24 : decode (px_cd 75) 24 = .ok (.iload_n 1, 1) := by decide +kernel
theorem e75_25 : decode (px_cd 75) 25 = .ok (.iconst 1, 1) := by decide +kernel
theorem e75_26 : decode (px_cd 75) 26 = .ok (.iadd, 1) := by decide +kernel
theorem e75_27 : decode (px_cd 75) 27 = .ok (.invokevirtual 22, 3) := by decide +kernel
theorem e75_30 : decode (px_cd 75) 30 = .ok (.bipush 8, 2) := by decide +kernel
theorem e75_32 : decode (px_cd 75) 32 = .ok (.ishl, 1) := by decide +kernel
theorem e75_33 : decode (px_cd 75) 33 = .ok (.ior, 1) := by decide +kernel
theorem e75_34 : decode (px_cd 75) 34 = .ok (.ireturn, 1) := by decide +kernel
-- 78 Bytes_u4
theorem e78_0 : decode (px_cd 78) 0 = .ok (.iload_n 1, 1) := by decide +kernel
theorem e78_1 : decode (px_cd 78) 1 = .ok (.ifCond .lt 13, 3) := by decide +kernel
theorem e78_4 : decode (px_cd 78) 4 = .ok (.iload_n 1, 1) := by decide +kernel
theorem e78_5 : decode (px_cd 78) 5 = .ok (.aload_n 0, 1) := by decide +kernel
theorem e78_6 : decode (px_cd 78) 6 = .ok (.getfield 19, 3) := by decide +kernel
theorem e78_9 : decode (px_cd 78) 9 = .ok (.iconst 4, 1) := by decide +kernel
theorem e78_10 : decode (px_cd 78) 10 = .ok (.isub, 1) := by decide +kernel
theorem e78_11 : decode (px_cd 78) 11 = .ok (.if_icmp .le 7, 3) := by decide +kernel
theorem e78_14 : decode (px_cd 78) 14 = .ok (.ldc2_w 26, 3) := by decide +kernel
theorem e78_17 : decode (px_cd 78) 17 = .ok (.lreturn, 1) := by decide +kernel
theorem e78_18 : decode (px_cd 78) 18 = .ok (.aload_n 0, 1) := by decide +kernel
theorem e78_19 : decode (px_cd 78) 19 = .ok (.iload_n 1, 1) := by decide +kernel
theorem e78_20 : decode (px_cd 78) 20 = .ok (.invokevirtual 22, 3) := by decide +kernel
theorem e78_23 : decode (px_cd 78) 23 = .ok (.aload_n 0, 1) := by decide +kernel
theorem e78_24 : decode (px_cd 78) 24 = .ok (.iload_n 1, 1) := by decide +kernel
theorem e78_25 : decode (px_cd 78) 25 = .ok (.iconst 1, 1) := by decide +kernel
theorem e78_26 : decode (px_cd 78) 26 = .ok (.iadd, 1) := by decide +kernel
theorem e78_27 : decode (px_cd 78) 27 = .ok (.invokevirtual 22, 3) := by decide +kernel
theorem e78_30 : decode (px_cd 78) 30 = .ok (.bipush 8, 2) := by decide +kernel
theorem e78_32 : decode (px_cd 78) 32 = .ok (.ishl, 1) := by decide +kernel
theorem e78_33 : decode (px_cd 78) 33 = .ok (.ior, 1) := by decide +kernel
theorem e78_34 : decode (px_cd 78) 34 = .ok (.aload_n 0, 1) := by decide +kernel
theorem e78_35 : decode (px_cd 78) 35 = .ok (.iload_n 1, 1) := by decide +kernel
theorem e78_36 : decode (px_cd 78) 36 = .ok (.iconst 2, 1) := by decide +kernel
theorem e78_37 : decode (px_cd 78) 37 = .ok (.iadd, 1) := by decide +kernel
theorem e78_38 : decode (px_cd 78) 38 = .ok (.invokevirtual 22, 3) := by decide +kernel
theorem e78_41 : decode (px_cd 78) 41 = .ok (.bipush 16, 2) := by decide +kernel
theorem e78_43 : decode (px_cd 78) 43 = .ok (.ishl, 1) := by decide +kernel
theorem e78_44 : decode (px_cd 78) 44 = .ok (.ior, 1) := by decide +kernel
theorem e78_45 : decode (px_cd 78) 45 = .ok (.i2l, 1) := by decide +kernel
theorem e78_46 : decode (px_cd 78) 46 = .ok (.aload_n 0, 1) := by decide +kernel
theorem e78_47 : decode (px_cd 78) 47 = .ok (.iload_n 1, 1) := by decide +kernel
theorem e78_48 : decode (px_cd 78) 48 = .ok (.iconst 3, 1) := by decide +kernel
theorem e78_49 : decode (px_cd 78) 49 = .ok (.iadd, 1) := by decide +kernel
theorem e78_50 : decode (px_cd 78) 50 = .ok (.invokevirtual 22, 3) := by decide +kernel
theorem e78_53 : decode (px_cd 78) 53 = .ok (.i2l, 1) := by decide +kernel
theorem e78_54 : decode (px_cd 78) 54 = .ok (.bipush 24, 2) := by decide +kernel
theorem e78_56 : decode (px_cd 78) 56 = .ok (.lshl, 1) := by decide +kernel
theorem e78_57 : decode (px_cd 78) 57 = .ok (.lor, 1) := by decide +kernel
theorem e78_58 : decode (px_cd 78) 58 = .ok (.lreturn, 1) := by decide +kernel
-- 97 Bytes_becomeLike
theorem e97_0 : decode (px_cd 97) 0 = .ok (.aload_n 0, 1) := by decide +kernel
theorem e97_1 : decode (px_cd 97) 1 = .ok (.iconst 0, 1) := by decide +kernel
theorem e97_2 : decode (px_cd 97) 2 = .ok (.putfield 19, 3) := by decide +kernel
theorem e97_5 : decode (px_cd 97) 5 = .ok (.aload_n 0, 1) := by decide +kernel
theorem e97_6 : decode (px_cd 97) 6 = .ok (.aload_n 1, 1) := by decide +kernel
theorem e97_7 : decode (px_cd 97) 7 = .ok (.iconst 0, 1) := by decide +kernel
theorem e97_8 : decode (px_cd 97) 8 = .ok (.aload_n 1, 1) := by decide +kernel
theorem e97_9 : decode (px_cd 97) 9 = .ok (.getfield 19, 3) := by decide +kernel
theorem e97_12 : decode (px_cd 97) 12 = .ok (.invokevirtual 42, 3) := by decide +kernel
theorem e97_15 : decode (px_cd 97) 15 = .ok (.return_, 1) := by decide +kernel
