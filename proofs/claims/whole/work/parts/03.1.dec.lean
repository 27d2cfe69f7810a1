/-! printed by wip/whole/gen3.py: what stands at each place of a method, and what the tables say there -/
-- 1 Image_init
theorem e1_0 : decode (px_cd 1) 0 = .ok (.aload_n 0, 1) := by decide +kernel
theorem e1_1 : decode (px_cd 1) 1 = .ok (.invokespecial 3, 3) := by decide +kernel
theorem e1_4 : decode (px_cd 1) 4 = .ok (.aload_n 0, 1) := by decide +kernel
theorem e1_5 : decode (px_cd 1) 5 = .ok (.iconst 3, 1) := by decide +kernel
theorem e1_6 : decode (px_cd 1) 6 = .ok (.anewarray 9, 3) := by decide +kernel
theorem e1_9 : decode (px_cd 1) 9 = .ok (.putfield 11, 3) := by decide +kernel
theorem e1_12 : decode (px_cd 1) 12 = .ok (.iconst 0, 1) := by decide +kernel
theorem e1_13 : decode (px_cd 1) 13 = .ok (.istore_n 1, 1) := by decide +kernel
theorem e1_14 : decode (px_cd 1) 14 = .ok (.iload_n 1, 1) := by decide +kernel
theorem e1_15 : decode (px_cd 1) 15 = .ok (.iconst 3, 1) := by decide +kernel
theorem e1_16 : decode (px_cd 1) 16 = .ok (.if_icmp .ge 27, 3) := by decide +kernel
theorem e1_19 : decode (px_cd 1) 19 = .ok (.aload_n 0, 1) := by decide +kernel
theorem e1_20 : decode (px_cd 1) 20 = .ok (.getfield 11, 3) := by decide +kernel
theorem e1_23 : decode (px_cd 1) 23 = .ok (.iload_n 1, 1) := by decide +kernel
theorem e1_24 : decode (px_cd 1) 24 = .ok (.new 9, 3) := by decide +kernel
theorem e1_27 : decode (px_cd 1) 27 = .ok (.dup, 1) := by decide +kernel
theorem e1_28 : decode (px_cd 1) 28 = .ok (.getstatic 17, 3) := by decide +kernel
theorem e1_31 : decode (px_cd 1) 31 = .ok (.iload_n 1, 1) := by decide +kernel
theorem e1_32 : decode (px_cd 1) 32 = .ok (.iaload, 1) := by decide +kernel
theorem e1_33 : decode (px_cd 1) 33 = .ok (.invokespecial 21, 3) := by decide +kernel
theorem e1_36 : decode (px_cd 1) 36 = .ok (.aastore, 1) := by decide +kernel
theorem e1_37 : decode (px_cd 1) 37 = .ok (.iinc 1 1, 3) := by decide +kernel
theorem e1_40 : decode (px_cd 1) 40 = .ok (.goto (-26), 3) := by decide +kernel
theorem e1_43 : decode (px_cd 1) 43 = .ok (.aload_n 0, 1) := by decide +kernel
theorem e1_44 : decode (px_cd 1) 44 = .ok (.aload_n 0, 1) := by decide +kernel
theorem e1_45 : decode (px_cd 1) 45 = .ok (.getfield 11, 3) := by decide +kernel
theorem e1_48 : decode (px_cd 1) 48 = .ok (.iconst 0, 1) := by decide +kernel
theorem e1_49 : decode (px_cd 1) 49 = .ok (.aaload, 1) := by decide +kernel
theorem e1_50 : decode (px_cd 1) 50 = .ok (.putfield 24, 3) := by decide +kernel
theorem e1_53 : decode (px_cd 1) 53 = .ok (.aload_n 0, 1) := by decide +kernel
theorem e1_54 : decode (px_cd 1) 54 = .ok (.sipush 256, 3) := by decide +kernel
theorem e1_57 : decode (px_cd 1) 57 = .ok (.newarray .byte, 2) := by decide +kernel
theorem e1_59 : decode (px_cd 1) 59 = .ok (.putfield 28, 3) := by decide +kernel
theorem e1_62 : decode (px_cd 1) 62 = .ok (.aload_n 0, 1) := by decide +kernel
theorem e1_63 : decode (px_cd 1) 63 = .ok (.iconst 1, 1) := by decide +kernel
theorem e1_64 : decode (px_cd 1) 64 = .ok (.putfield 32, 3) := by decide +kernel
theorem e1_67 : decode (px_cd 1) 67 = .ok (.return_, 1) := by decide +kernel
-- 7 Image_becomeEmpty
theorem e7_0 : decode (px_cd 7) 0 = .ok (.aload_n 0, 1) := by decide +kernel
theorem e7_1 : decode (px_cd 7) 1 = .ok (.getfield 11, 3) := by decide +kernel
theorem e7_4 : decode (px_cd 7) 4 = .ok (.astore_n 1, 1) := by decide +kernel
theorem e7_5 : decode (px_cd 7) 5 = .ok (.aload_n 1, 1) := by decide +kernel
theorem e7_6 : decode (px_cd 7) 6 = .ok (.arraylength, 1) := by decide +kernel
theorem e7_7 : decode (px_cd 7) 7 = .ok (.istore_n 2, 1) := by decide +kernel
theorem e7_8 : decode (px_cd 7) 8 = .ok (.iconst 0, 1) := by decide +kernel
theorem e7_9 : decode (px_cd 7) 9 = .ok (.istore_n 3, 1) := by decide +kernel
theorem e7_10 : decode (px_cd 7) 10 = .ok (.iload_n 3, 1) := by decide +kernel
theorem e7_11 : decode (px_cd 7) 11 = .ok (.iload_n 2, 1) := by decide +kernel
theorem e7_12 : decode (px_cd 7) 12 = .ok (.if_icmp .ge 19, 3) := by decide +kernel
theorem e7_15 : decode (px_cd 7) 15 = .ok (.aload_n 1, 1) := by decide +kernel
theorem e7_16 : decode (px_cd 7) 16 = .ok (.iload_n 3, 1) := by decide +kernel
theorem e7_17 : decode (px_cd 7) 17 = .ok (.aaload, 1) := by decide +kernel
theorem e7_18 : decode (px_cd 7) 18 = .ok (.astore 4, 2) := by decide +kernel
theorem e7_20 : decode (px_cd 7) 20 = .ok (.aload 4, 2) := by decide +kernel
theorem e7_22 : decode (px_cd 7) 22 = .ok (.invokevirtual 36, 3) := by decide +kernel
theorem e7_25 : decode (px_cd 7) 25 = .ok (.iinc 3 1, 3) := by decide +kernel
theorem e7_28 : decode (px_cd 7) 28 = .ok (.goto (-18), 3) := by decide +kernel
theorem e7_31 : decode (px_cd 7) 31 = .ok (.aload_n 0, 1) := by decide +kernel
theorem e7_32 : decode (px_cd 7) 32 = .ok (.getfield 28, 3) := by decide +kernel
theorem e7_35 : decode (px_cd 7) 35 = .ok (.iconst 0, 1) := by decide +kernel
theorem e7_36 : decode (px_cd 7) 36 = .ok (.invokestatic 39, 3) := by decide +kernel
theorem e7_39 : decode (px_cd 7) 39 = .ok (.aload_n 0, 1) := by decide +kernel
theorem e7_40 : decode (px_cd 7) 40 = .ok (.iconst 0, 1) := by decide +kernel
theorem e7_41 : decode (px_cd 7) 41 = .ok (.putfield 45, 3) := by decide +kernel
theorem e7_44 : decode (px_cd 7) 44 = .ok (.aload_n 0, 1) := by decide +kernel
theorem e7_45 : decode (px_cd 7) 45 = .ok (.iconst 1, 1) := by decide +kernel
theorem e7_46 : decode (px_cd 7) 46 = .ok (.putfield 32, 3) := by decide +kernel
theorem e7_49 : decode (px_cd 7) 49 = .ok (.return_, 1) := by decide +kernel
-- 14 Image_segmentOrNull
theorem e14_0 : decode (px_cd 14) 0 = .ok (.iload_n 1, 1) := by decide +kernel
theorem e14_1 : decode (px_cd 14) 1 = .ok (.ifCond .lt 8, 3) := by decide +kernel
theorem e14_4 : decode (px_cd 14) 4 = .ok (.iload_n 1, 1) := by decide +kernel
theorem e14_5 : decode (px_cd 14) 5 = .ok (.iconst 3, 1) := by decide +kernel
theorem e14_6 : decode (px_cd 14) 6 = .ok (.if_icmp .lt 7, 3) := by decide +kernel
theorem e14_9 : decode (px_cd 14) 9 = .ok (.aconst_null, 1) := by decide +kernel
theorem e14_10 : decode (px_cd 14) 10 = .ok (.goto 9, 3) := by decide +kernel
theorem e14_13 : decode (px_cd 14) 13 = .ok (.aload_n 0, 1) := by decide +kernel
theorem e14_14 : decode (px_cd 14) 14 = .ok (.getfield 11, 3) := by decide +kernel
theorem e14_17 : decode (px_cd 14) 17 = .ok (.iload_n 1, 1) := by decide +kernel
theorem e14_18 : decode (px_cd 14) 18 = .ok (.aaload, 1) := by decide +kernel
theorem e14_19 : decode (px_cd 14) 19 = .ok (.areturn, 1) := by decide +kernel
-- 22 Image_canHaveMark
theorem e22_0 : decode (px_cd 22) 0 = .ok (.iload_n 0, 1) := by decide +kernel
theorem e22_1 : decode (px_cd 22) 1 = .ok (.ifCond .lt 20, 3) := by decide +kernel
theorem e22_4 : decode (px_cd 22) 4 = .ok (.iload_n 0, 1) := by decide +kernel
theorem e22_5 : decode (px_cd 22) 5 = .ok (.sipush 4096, 3) := by decide +kernel
theorem e22_8 : decode (px_cd 22) 8 = .ok (.if_icmp .ge 13, 3) := by decide +kernel
theorem e22_11 : decode (px_cd 22) 11 = .ok (.iload_n 0, 1) := by decide +kernel
theorem e22_12 : decode (px_cd 22) 12 = .ok (.iconst 1, 1) := by decide +kernel
theorem e22_13 : decode (px_cd 22) 13 = .ok (.iand, 1) := by decide +kernel
theorem e22_14 : decode (px_cd 22) 14 = .ok (.ifCond .ne 7, 3) := by decide +kernel
theorem e22_17 : decode (px_cd 22) 17 = .ok (.iconst 1, 1) := by decide +kernel
theorem e22_18 : decode (px_cd 22) 18 = .ok (.goto 4, 3) := by decide +kernel
theorem e22_21 : decode (px_cd 22) 21 = .ok (.iconst 0, 1) := by decide +kernel
theorem e22_22 : decode (px_cd 22) 22 = .ok (.ireturn, 1) := by decide +kernel
-- 23 Image_hasMark
theorem e23_0 : decode (px_cd 23) 0 = .ok (.iload_n 1, 1) := by decide +kernel
theorem e23_1 : decode (px_cd 23) 1 = .ok (.invokestatic 70, 3) := by decide +kernel
theorem e23_4 : decode (px_cd 23) 4 = .ok (.ifCond .eq 23, 3) := by decide +kernel
theorem e23_7 : decode (px_cd 23) 7 = .ok (.aload_n 0, 1) := by decide +kernel
theorem e23_8 : decode (px_cd 23) 8 = .ok (.getfield 28, 3) := by decide +kernel
theorem e23_11 : decode (px_cd 23) 11 = .ok (.iload_n 1, 1) := by decide +kernel
theorem e23_12 : decode (px_cd 23) 12 = .ok (.iconst 4, 1) := by decide +kernel
theorem e23_13 : decode (px_cd 23) 13 = .ok (.ishr, 1) := by decide +kernel
theorem e23_14 : decode (px_cd 23) 14 = .ok (.baload, 1) := by decide +kernel
theorem e23_15 : decode (px_cd 23) 15 = .ok (.iload_n 1, 1) := by decide +kernel
theorem e23_16 : decode (px_cd 23) 16 = .ok (.invokestatic 73, 3) := by decide +kernel
theorem e23_19 : decode (px_cd 23) 19 = .ok (.iand, 1) := by decide +kernel
theorem e23_20 : decode (px_cd 23) 20 = .ok (.ifCond .eq 7, 3) := by decide +kernel
theorem e23_23 : decode (px_cd 23) 23 = .ok (.iconst 1, 1) := by decide +kernel
theorem e23_24 : decode (px_cd 23) 24 = .ok (.goto 4, 3) := by decide +kernel
theorem e23_27 : decode (px_cd 23) 27 = .ok (.iconst 0, 1) := by decide +kernel
theorem e23_28 : decode (px_cd 23) 28 = .ok (.ireturn, 1) := by decide +kernel
-- 24 Image_markBit
theorem e24_0 : decode (px_cd 24) 0 = .ok (.iconst 1, 1) := by decide +kernel
theorem e24_1 : decode (px_cd 24) 1 = .ok (.iload_n 0, 1) := by decide +kernel
theorem e24_2 : decode (px_cd 24) 2 = .ok (.iconst 1, 1) := by decide +kernel
theorem e24_3 : decode (px_cd 24) 3 = .ok (.ishr, 1) := by decide +kernel
theorem e24_4 : decode (px_cd 24) 4 = .ok (.bipush 7, 2) := by decide +kernel
theorem e24_6 : decode (px_cd 24) 6 = .ok (.iand, 1) := by decide +kernel
theorem e24_7 : decode (px_cd 24) 7 = .ok (.ishl, 1) := by decide +kernel
theorem e24_8 : decode (px_cd 24) 8 = .ok (.ireturn, 1) := by decide +kernel
-- 25 Image_turnMark
theorem e25_0 : decode (px_cd 25) 0 = .ok (.iload_n 1, 1) := by decide +kernel
theorem e25_1 : decode (px_cd 25) 1 = .ok (.invokestatic 70, 3) := by decide +kernel
theorem e25_4 : decode (px_cd 25) 4 = .ok (.ifCond .eq 20, 3) := by decide +kernel
theorem e25_7 : decode (px_cd 25) 7 = .ok (.aload_n 0, 1) := by decide +kernel
theorem e25_8 : decode (px_cd 25) 8 = .ok (.getfield 28, 3) := by decide +kernel
theorem e25_11 : decode (px_cd 25) 11 = .ok (.iload_n 1, 1) := by decide +kernel
theorem e25_12 : decode (px_cd 25) 12 = .ok (.iconst 4, 1) := by decide +kernel
theorem e25_13 : decode (px_cd 25) 13 = .ok (.ishr, 1) := by decide +kernel
theorem e25_14 : decode (px_cd 25) 14 = .ok (.dup2, 1) := by decide +kernel
theorem e25_15 : decode (px_cd 25) 15 = .ok (.baload, 1) := by decide +kernel
theorem e25_16 : decode (px_cd 25) 16 = .ok (.iload_n 1, 1) := by decide +kernel
theorem e25_17 : decode (px_cd 25) 17 = .ok (.invokestatic 73, 3) := by decide +kernel
theorem e25_20 : decode (px_cd 25) 20 = .ok (.i2b, 1) := by decide +kernel
theorem e25_21 : decode (px_cd 25) 21 = .ok (.ixor, 1) := by decide +kernel
theorem e25_22 : decode (px_cd 25) 22 = .ok (.i2b, 1) := by decide +kernel
theorem e25_23 : decode (px_cd 25) 23 = .ok (.bastore, 1) := by decide +kernel
theorem e25_24 : decode (px_cd 25) 24 = .ok (.return_, 1) := by decide +kernel
-- 27 Image_faultOfGood
theorem e27_0 : decode (px_cd 27) 0 = .ok (.aload_n 0, 1) := by decide +kernel
theorem e27_1 : decode (px_cd 27) 1 = .ok (.invokevirtual 114, 3) := by decide +kernel
theorem e27_4 : decode (px_cd 27) 4 = .ok (.ifCond .ne 5, 3) := by decide +kernel
theorem e27_7 : decode (px_cd 27) 7 = .ok (.iconst 1, 1) := by decide +kernel
theorem e27_8 : decode (px_cd 27) 8 = .ok (.ireturn, 1) := by decide +kernel
theorem e27_9 : decode (px_cd 27) 9 = .ok (.aload_n 0, 1) := by decide +kernel
theorem e27_10 : decode (px_cd 27) 10 = .ok (.invokevirtual 118, 3) := by decide +kernel
theorem e27_13 : decode (px_cd 27) 13 = .ok (.iconst (-1), 1) := by decide +kernel
theorem e27_14 : decode (px_cd 27) 14 = .ok (.if_icmp .eq 5, 3) := by decide +kernel
theorem e27_17 : decode (px_cd 27) 17 = .ok (.iconst 2, 1) := by decide +kernel
theorem e27_18 : decode (px_cd 27) 18 = .ok (.ireturn, 1) := by decide +kernel
theorem e27_19 : decode (px_cd 27) 19 = .ok (.aload_n 0, 1) := by decide +kernel
theorem e27_20 : decode (px_cd 27) 20 = .ok (.invokevirtual 121, 3) := by decide +kernel
theorem e27_23 : decode (px_cd 27) 23 = .ok (.iconst (-1), 1) := by decide +kernel
theorem e27_24 : decode (px_cd 27) 24 = .ok (.if_icmp .eq 5, 3) := by decide +kernel
theorem e27_27 : decode (px_cd 27) 27 = .ok (.iconst 3, 1) := by decide +kernel
theorem e27_28 : decode (px_cd 27) 28 = .ok (.ireturn, 1) := by decide +kernel
theorem e27_29 : decode (px_cd 27) 29 = .ok (.aload_n 0, 1) := by decide +kernel
theorem e27_30 : decode (px_cd 27) 30 = .ok (.invokevirtual 124, 3) := by decide +kernel
theorem e27_33 : decode (px_cd 27) 33 = .ok (.iconst (-1), 1) := by decide +kernel
theorem e27_34 : decode (px_cd 27) 34 = .ok (.if_icmp .eq 5, 3) := by decide +kernel
theorem e27_37 : decode (px_cd 27) 37 = .ok (.iconst 4, 1) := by decide +kernel
theorem e27_38 : decode (px_cd 27) 38 = .ok (.ireturn, 1) := by decide +kernel
theorem e27_39 : decode (px_cd 27) 39 = .ok (.aload_n 0, 1) := by decide +kernel
theorem e27_40 : decode (px_cd 27) 40 = .ok (.invokevirtual 127, 3) := by decide +kernel
theorem e27_43 : decode (px_cd 27) 43 = .ok (.ifCond .eq 7, 3) := by decide +kernel
theorem e27_46 : decode (px_cd 27) 46 = .ok (.iconst 0, 1) := by decide +kernel
theorem e27_47 : decode (px_cd 27) 47 = .ok (.goto 4, 3) := by decide +kernel
theorem e27_50 : decode (px_cd 27) 50 = .ok (.iconst 5, 1) := by decide +kernel
theorem e27_51 : decode (px_cd 27) 51 = .ok (.ireturn, 1) := by decide +kernel
-- 28 Image_hasWholeText
theorem e28_0 : decode (px_cd 28) 0 = .ok (.aload_n 0, 1) := by decide +kernel
theorem e28_1 : decode (px_cd 28) 1 = .ok (.getfield 24, 3) := by decide +kernel
theorem e28_4 : decode (px_cd 28) 4 = .ok (.getfield 98, 3) := by decide +kernel
theorem e28_7 : decode (px_cd 28) 7 = .ok (.ifCond .eq 35, 3) := by decide +kernel
theorem e28_10 : decode (px_cd 28) 10 = .ok (.aload_n 0, 1) := by decide +kernel
theorem e28_11 : decode (px_cd 28) 11 = .ok (.getfield 24, 3) := by decide +kernel
theorem e28_14 : decode (px_cd 28) 14 = .ok (.getfield 76, 3) := by decide +kernel
theorem e28_17 : decode (px_cd 28) 17 = .ok (.getfield 80, 3) := by decide +kernel
theorem e28_20 : decode (px_cd 28) 20 = .ok (.ifCond .le 22, 3) := by decide +kernel
theorem e28_23 : decode (px_cd 28) 23 = .ok (.aload_n 0, 1) := by decide +kernel
theorem e28_24 : decode (px_cd 28) 24 = .ok (.getfield 24, 3) := by decide +kernel
theorem e28_27 : decode (px_cd 28) 27 = .ok (.getfield 76, 3) := by decide +kernel
theorem e28_30 : decode (px_cd 28) 30 = .ok (.getfield 80, 3) := by decide +kernel
theorem e28_33 : decode (px_cd 28) 33 = .ok (.iconst 1, 1) := by decide +kernel
theorem e28_34 : decode (px_cd 28) 34 = .ok (.iand, 1) := by decide +kernel
theorem e28_35 : decode (px_cd 28) 35 = .ok (.ifCond .ne 7, 3) := by decide +kernel
theorem e28_38 : decode (px_cd 28) 38 = .ok (.iconst 1, 1) := by decide +kernel
theorem e28_39 : decode (px_cd 28) 39 = .ok (.goto 4, 3) := by decide +kernel
theorem e28_42 : decode (px_cd 28) 42 = .ok (.iconst 0, 1) := by decide +kernel
theorem e28_43 : decode (px_cd 28) 43 = .ok (.ireturn, 1) := by decide +kernel
-- 29 Image_firstBeyondMemory
theorem e29_0 : decode (px_cd 29) 0 = .ok (.iconst 0, 1) := by decide +kernel
theorem e29_1 : decode (px_cd 29) 1 = .ok (.istore_n 1, 1) := by decide +kernel
theorem e29_2 : decode (px_cd 29) 2 = .ok (.iload_n 1, 1) := by decide +kernel
theorem e29_3 : decode (px_cd 29) 3 = .ok (.iconst 3, 1) := by decide +kernel
theorem e29_4 : decode (px_cd 29) 4 = .ok (.if_icmp .ge 37, 3) := by decide +kernel
theorem e29_7 : decode (px_cd 29) 7 = .ok (.aload_n 0, 1) := by decide +kernel
theorem e29_8 : decode (px_cd 29) 8 = .ok (.getfield 11, 3) := by decide +kernel
theorem e29_11 : decode (px_cd 29) 11 = .ok (.iload_n 1, 1) := by decide +kernel
theorem e29_12 : decode (px_cd 29) 12 = .ok (.aaload, 1) := by decide +kernel
theorem e29_13 : decode (px_cd 29) 13 = .ok (.getfield 98, 3) := by decide +kernel
theorem e29_16 : decode (px_cd 29) 16 = .ok (.ifCond .eq 19, 3) := by decide +kernel
theorem e29_19 : decode (px_cd 29) 19 = .ok (.aload_n 0, 1) := by decide +kernel
theorem e29_20 : decode (px_cd 29) 20 = .ok (.getfield 11, 3) := by decide +kernel
theorem e29_23 : decode (px_cd 29) 23 = .ok (.iload_n 1, 1) := by decide +kernel
theorem e29_24 : decode (px_cd 29) 24 = .ok (.aaload, 1) := by decide +kernel
theorem e29_25 : decode (px_cd 29) 25 = .ok (.invokevirtual 130, 3) := by decide +kernel
theorem e29_28 : decode (px_cd 29) 28 = .ok (.ldc 133, 2) := by decide +kernel
theorem e29_30 : decode (px_cd 29) 30 = .ok (.if_icmp .le 5, 3) := by decide +kernel
theorem e29_33 : decode (px_cd 29) 33 = .ok (.iload_n 1, 1) := by decide +kernel
theorem e29_34 : decode (px_cd 29) 34 = .ok (.ireturn, 1) := by decide +kernel
theorem e29_35 : decode (px_cd 29) 35 = .ok (.iinc 1 1, 3) := by decide +kernel
theorem e29_38 : decode (px_cd 29) 38 = .ok (.goto (-36), 3) := by decide +kernel
theorem e29_41 : decode (px_cd 29) 41 = .ok (.iconst (-1), 1) := by decide +kernel
theorem e29_42 : decode (px_cd 29) 42 = .ok (.ireturn, 1) := by decide +kernel
-- 32 Image_firstMeetingPair
theorem e32_0 : decode (px_cd 32) 0 = .ok (.iconst 0, 1) := by decide +kernel
theorem e32_1 : decode (px_cd 32) 1 = .ok (.istore_n 1, 1) := by decide +kernel
theorem e32_2 : decode (px_cd 32) 2 = .ok (.iload_n 1, 1) := by decide +kernel
theorem e32_3 : decode (px_cd 32) 3 = .ok (.getstatic 134, 3) := by decide +kernel
theorem e32_6 : decode (px_cd 32) 6 = .ok (.arraylength, 1) := by decide +kernel
theorem e32_7 : decode (px_cd 32) 7 = .ok (.if_icmp .ge 37, 3) := by decide +kernel
theorem e32_10 : decode (px_cd 32) 10 = .ok (.aload_n 0, 1) := by decide +kernel
theorem e32_11 : decode (px_cd 32) 11 = .ok (.getfield 11, 3) := by decide +kernel
theorem e32_14 : decode (px_cd 32) 14 = .ok (.getstatic 134, 3) := by decide +kernel
theorem e32_17 : decode (px_cd 32) 17 = .ok (.iload_n 1, 1) := by decide +kernel
theorem e32_18 : decode (px_cd 32) 18 = .ok (.iaload, 1) := by decide +kernel
theorem e32_19 : decode (px_cd 32) 19 = .ok (.aaload, 1) := by decide +kernel
theorem e32_20 : decode (px_cd 32) 20 = .ok (.aload_n 0, 1) := by decide +kernel
theorem e32_21 : decode (px_cd 32) 21 = .ok (.getfield 11, 3) := by decide +kernel
theorem e32_24 : decode (px_cd 32) 24 = .ok (.getstatic 137, 3) := by decide +kernel
theorem e32_27 : decode (px_cd 32) 27 = .ok (.iload_n 1, 1) := by decide +kernel
theorem e32_28 : decode (px_cd 32) 28 = .ok (.iaload, 1) := by decide +kernel
theorem e32_29 : decode (px_cd 32) 29 = .ok (.aaload, 1) := by decide +kernel
theorem e32_30 : decode (px_cd 32) 30 = .ok (.invokevirtual 140, 3) := by decide +kernel
theorem e32_33 : decode (px_cd 32) 33 = .ok (.ifCond .eq 5, 3) := by decide +kernel
theorem e32_36 : decode (px_cd 32) 36 = .ok (.iload_n 1, 1) := by decide +kernel
theorem e32_37 : decode (px_cd 32) 37 = .ok (.ireturn, 1) := by decide +kernel
theorem e32_38 : decode (px_cd 32) 38 = .ok (.iinc 1 1, 3) := by decide +kernel
theorem e32_41 : decode (px_cd 32) 41 = .ok (.goto (-39), 3) := by decide +kernel
theorem e32_44 : decode (px_cd 32) 44 = .ok (.iconst (-1), 1) := by decide +kernel
theorem e32_45 : decode (px_cd 32) 45 = .ok (.ireturn, 1) := by decide +kernel
-- 34 Image_firstBadMark
theorem e34_0 : decode (px_cd 34) 0 = .ok (.iconst 0, 1) := by decide +kernel
theorem e34_1 : decode (px_cd 34) 1 = .ok (.istore_n 1, 1) := by decide +kernel
theorem e34_2 : decode (px_cd 34) 2 = .ok (.iload_n 1, 1) := by decide +kernel
theorem e34_3 : decode (px_cd 34) 3 = .ok (.sipush 4096, 3) := by decide +kernel
theorem e34_6 : decode (px_cd 34) 6 = .ok (.if_icmp .ge 27, 3) := by decide +kernel
theorem e34_9 : decode (px_cd 34) 9 = .ok (.aload_n 0, 1) := by decide +kernel
theorem e34_10 : decode (px_cd 34) 10 = .ok (.iload_n 1, 1) := by decide +kernel
theorem e34_11 : decode (px_cd 34) 11 = .ok (.invokevirtual 88, 3) := by decide +kernel
theorem e34_14 : decode (px_cd 34) 14 = .ok (.ifCond .eq 13, 3) := by decide +kernel
theorem e34_17 : decode (px_cd 34) 17 = .ok (.aload_n 0, 1) := by decide +kernel
theorem e34_18 : decode (px_cd 34) 18 = .ok (.iload_n 1, 1) := by decide +kernel
theorem e34_19 : decode (px_cd 34) 19 = .ok (.invokevirtual 144, 3) := by decide +kernel
theorem e34_22 : decode (px_cd 34) 22 = .ok (.ifCond .ne 5, 3) := by decide +kernel
theorem e34_25 : decode (px_cd 34) 25 = .ok (.iload_n 1, 1) := by decide +kernel
theorem e34_26 : decode (px_cd 34) 26 = .ok (.ireturn, 1) := by decide +kernel
theorem e34_27 : decode (px_cd 34) 27 = .ok (.iinc 1 2, 3) := by decide +kernel
theorem e34_30 : decode (px_cd 34) 30 = .ok (.goto (-28), 3) := by decide +kernel
theorem e34_33 : decode (px_cd 34) 33 = .ok (.iconst (-1), 1) := by decide +kernel
theorem e34_34 : decode (px_cd 34) 34 = .ok (.ireturn, 1) := by decide +kernel
-- 35 Image_instructionFits
theorem e35_0 : decode (px_cd 35) 0 = .ok (.iload_n 1, 1) := by decide +kernel
theorem e35_1 : decode (px_cd 35) 1 = .ok (.aload_n 0, 1) := by decide +kernel
theorem e35_2 : decode (px_cd 35) 2 = .ok (.getfield 24, 3) := by decide +kernel
theorem e35_5 : decode (px_cd 35) 5 = .ok (.getfield 76, 3) := by decide +kernel
theorem e35_8 : decode (px_cd 35) 8 = .ok (.getfield 80, 3) := by decide +kernel
theorem e35_11 : decode (px_cd 35) 11 = .ok (.if_icmp .lt 5, 3) := by decide +kernel
theorem e35_14 : decode (px_cd 35) 14 = .ok (.iconst 0, 1) := by decide +kernel
theorem e35_15 : decode (px_cd 35) 15 = .ok (.ireturn, 1) := by decide +kernel
theorem e35_16 : decode (px_cd 35) 16 = .ok (.aload_n 0, 1) := by decide +kernel
theorem e35_17 : decode (px_cd 35) 17 = .ok (.iload_n 1, 1) := by decide +kernel
theorem e35_18 : decode (px_cd 35) 18 = .ok (.invokevirtual 91, 3) := by decide +kernel
theorem e35_21 : decode (px_cd 35) 21 = .ok (.istore_n 2, 1) := by decide +kernel
theorem e35_22 : decode (px_cd 35) 22 = .ok (.iload_n 2, 1) := by decide +kernel
theorem e35_23 : decode (px_cd 35) 23 = .ok (.iconst 4, 1) := by decide +kernel
theorem e35_24 : decode (px_cd 35) 24 = .ok (.if_icmp .ne 17, 3) := by decide +kernel
theorem e35_27 : decode (px_cd 35) 27 = .ok (.aload_n 0, 1) := by decide +kernel
theorem e35_28 : decode (px_cd 35) 28 = .ok (.iload_n 1, 1) := by decide +kernel
theorem e35_29 : decode (px_cd 35) 29 = .ok (.iconst 2, 1) := by decide +kernel
theorem e35_30 : decode (px_cd 35) 30 = .ok (.iadd, 1) := by decide +kernel
theorem e35_31 : decode (px_cd 35) 31 = .ok (.invokevirtual 88, 3) := by decide +kernel
theorem e35_34 : decode (px_cd 35) 34 = .ok (.ifCond .eq 7, 3) := by decide +kernel
theorem e35_37 : decode (px_cd 35) 37 = .ok (.iconst 1, 1) := by decide +kernel
theorem e35_38 : decode (px_cd 35) 38 = .ok (.goto 4, 3) := by decide +kernel
theorem e35_41 : decode (px_cd 35) 41 = .ok (.iconst 0, 1) := by decide +kernel
theorem e35_42 : decode (px_cd 35) 42 = .ok (.istore_n 3, 1) := by decide +kernel
theorem e35_43 : decode (px_cd 35) 43 = .ok (.iload_n 1, 1) := by decide +kernel
theorem e35_44 : decode (px_cd 35) 44 = .ok (.iload_n 2, 1) := by decide +kernel
theorem e35_45 : decode (px_cd 35) 45 = .ok (.iadd, 1) := by decide +kernel
theorem e35_46 : decode (px_cd 35) 46 = .ok (.aload_n 0, 1) := by decide +kernel
theorem e35_47 : decode (px_cd 35) 47 = .ok (.getfield 24, 3) := by decide +kernel
theorem e35_50 : decode (px_cd 35) 50 = .ok (.getfield 76, 3) := by decide +kernel
theorem e35_53 : decode (px_cd 35) 53 = .ok (.getfield 80, 3) := by decide +kernel
theorem e35_56 : decode (px_cd 35) 56 = .ok (.if_icmp .gt 11, 3) := by decide +kernel
theorem e35_59 : decode (px_cd 35) 59 = .ok (.iload_n 3, 1) := by decide +kernel
theorem e35_60 : decode (px_cd 35) 60 = .ok (.ifCond .ne 7, 3) := by decide +kernel
theorem e35_63 : decode (px_cd 35) 63 = .ok (.iconst 1, 1) := by decide +kernel
theorem e35_64 : decode (px_cd 35) 64 = .ok (.goto 4, 3) := by decide +kernel
theorem e35_67 : decode (px_cd 35) 67 = .ok (.iconst 0, 1) := by decide +kernel
theorem e35_68 : decode (px_cd 35) 68 = .ok (.ireturn, 1) := by decide +kernel
-- 36 Image_instructionLength
theorem e36_0 : decode (px_cd 36) 0 = .ok (.aload_n 0, 1) := by decide +kernel
theorem e36_1 : decode (px_cd 36) 1 = .ok (.getfield 24, 3) := by decide +kernel
theorem e36_4 : decode (px_cd 36) 4 = .ok (.getfield 76, 3) := by decide +kernel
theorem e36_7 : decode (px_cd 36) 7 = .ok (.iload_n 1, 1) := by decide +kernel
theorem e36_8 : decode (px_cd 36) 8 = .ok (.invokevirtual 85, 3) := by decide +kernel
theorem e36_11 : decode (px_cd 36) 11 = .ok (.iconst 3, 1) := by decide +kernel
theorem e36_12 : decode (px_cd 36) 12 = .ok (.iand, 1) := by decide +kernel
theorem e36_13 : decode (px_cd 36) 13 = .ok (.iconst 3, 1) := by decide +kernel
theorem e36_14 : decode (px_cd 36) 14 = .ok (.if_icmp .ne 7, 3) := by decide +kernel
theorem e36_17 : decode (px_cd 36) 17 = .ok (.iconst 4, 1) := by decide +kernel
theorem e36_18 : decode (px_cd 36) 18 = .ok (.goto 4, 3) := by decide +kernel
theorem e36_21 : decode (px_cd 36) 21 = .ok (.iconst 2, 1) := by decide +kernel
theorem e36_22 : decode (px_cd 36) 22 = .ok (.ireturn, 1) := by decide +kernel
-- 38 Image_entryHasMark
theorem e38_0 : decode (px_cd 38) 0 = .ok (.aload_n 0, 1) := by decide +kernel
theorem e38_1 : decode (px_cd 38) 1 = .ok (.aload_n 0, 1) := by decide +kernel
theorem e38_2 : decode (px_cd 38) 2 = .ok (.aload_n 0, 1) := by decide +kernel
theorem e38_3 : decode (px_cd 38) 3 = .ok (.getfield 45, 3) := by decide +kernel
theorem e38_6 : decode (px_cd 38) 6 = .ok (.invokevirtual 105, 3) := by decide +kernel
theorem e38_9 : decode (px_cd 38) 9 = .ok (.invokevirtual 88, 3) := by decide +kernel
theorem e38_12 : decode (px_cd 38) 12 = .ok (.ireturn, 1) := by decide +kernel
-- 39 Image_offsetOf
theorem e39_0 : decode (px_cd 39) 0 = .ok (.aload_n 0, 1) := by decide +kernel
theorem e39_1 : decode (px_cd 39) 1 = .ok (.getfield 24, 3) := by decide +kernel
theorem e39_4 : decode (px_cd 39) 4 = .ok (.getfield 98, 3) := by decide +kernel
theorem e39_7 : decode (px_cd 39) 7 = .ok (.ifCond .eq 26, 3) := by decide +kernel
theorem e39_10 : decode (px_cd 39) 10 = .ok (.iload_n 1, 1) := by decide +kernel
theorem e39_11 : decode (px_cd 39) 11 = .ok (.aload_n 0, 1) := by decide +kernel
theorem e39_12 : decode (px_cd 39) 12 = .ok (.getfield 24, 3) := by decide +kernel
theorem e39_15 : decode (px_cd 39) 15 = .ok (.getfield 102, 3) := by decide +kernel
theorem e39_18 : decode (px_cd 39) 18 = .ok (.if_icmp .lt 15, 3) := by decide +kernel
theorem e39_21 : decode (px_cd 39) 21 = .ok (.iload_n 1, 1) := by decide +kernel
theorem e39_22 : decode (px_cd 39) 22 = .ok (.aload_n 0, 1) := by decide +kernel
theorem e39_23 : decode (px_cd 39) 23 = .ok (.getfield 24, 3) := by decide +kernel
theorem e39_26 : decode (px_cd 39) 26 = .ok (.getfield 102, 3) := by decide +kernel
theorem e39_29 : decode (px_cd 39) 29 = .ok (.isub, 1) := by decide +kernel
theorem e39_30 : decode (px_cd 39) 30 = .ok (.goto 4, 3) := by decide +kernel
theorem e39_33 : decode (px_cd 39) 33 = .ok (.iconst (-1), 1) := by decide +kernel
theorem e39_34 : decode (px_cd 39) 34 = .ok (.ireturn, 1) := by decide +kernel
-- 44 Image_markByteCount
theorem e44_0 : decode (px_cd 44) 0 = .ok (.aload_n 0, 1) := by decide +kernel
theorem e44_1 : decode (px_cd 44) 1 = .ok (.getfield 24, 3) := by decide +kernel
theorem e44_4 : decode (px_cd 44) 4 = .ok (.getfield 76, 3) := by decide +kernel
theorem e44_7 : decode (px_cd 44) 7 = .ok (.getfield 80, 3) := by decide +kernel
theorem e44_10 : decode (px_cd 44) 10 = .ok (.bipush 15, 2) := by decide +kernel
theorem e44_12 : decode (px_cd 44) 12 = .ok (.iadd, 1) := by decide +kernel
theorem e44_13 : decode (px_cd 44) 13 = .ok (.iconst 4, 1) := by decide +kernel
theorem e44_14 : decode (px_cd 44) 14 = .ok (.ishr, 1) := by decide +kernel
theorem e44_15 : decode (px_cd 44) 15 = .ok (.ireturn, 1) := by decide +kernel
-- 50 Image_flags
theorem e50_0 : decode (px_cd 50) 0 = .ok (.aload_n 0, 1) := by decide +kernel
theorem e50_1 : decode (px_cd 50) 1 = .ok (.invokevirtual 94, 3) := by decide +kernel
theorem e50_4 : decode (px_cd 50) 4 = .ok (.ifCond .le 7, 3) := by decide +kernel
theorem e50_7 : decode (px_cd 50) 7 = .ok (.iconst 1, 1) := by decide +kernel
theorem e50_8 : decode (px_cd 50) 8 = .ok (.goto 4, 3) := by decide +kernel
theorem e50_11 : decode (px_cd 50) 11 = .ok (.iconst 0, 1) := by decide +kernel
theorem e50_12 : decode (px_cd 50) 12 = .ok (.ireturn, 1) := by decide +kernel
-- 51 Image_countShortMarks
theorem e51_0 : decode (px_cd 51) 0 = .ok (.iconst 0, 1) := by decide +kernel
theorem e51_1 : decode (px_cd 51) 1 = .ok (.istore_n 1, 1) := by decide +kernel
theorem e51_2 : decode (px_cd 51) 2 = .ok (.iconst 0, 1) := by decide +kernel
theorem e51_3 : decode (px_cd 51) 3 = .ok (.istore_n 2, 1) := by decide +kernel
theorem e51_4 : decode (px_cd 51) 4 = .ok (.iload_n 2, 1) := by decide +kernel
theorem e51_5 : decode (px_cd 51) 5 = .ok (.sipush 4096, 3) := by decide +kernel
theorem e51_8 : decode (px_cd 51) 8 = .ok (.if_icmp .ge 29, 3) := by decide +kernel
theorem e51_11 : decode (px_cd 51) 11 = .ok (.aload_n 0, 1) := by decide +kernel
theorem e51_12 : decode (px_cd 51) 12 = .ok (.iload_n 2, 1) := by decide +kernel
theorem e51_13 : decode (px_cd 51) 13 = .ok (.invokevirtual 88, 3) := by decide +kernel
theorem e51_16 : decode (px_cd 51) 16 = .ok (.ifCond .eq 15, 3) := by decide +kernel
theorem e51_19 : decode (px_cd 51) 19 = .ok (.aload_n 0, 1) := by decide +kernel
theorem e51_20 : decode (px_cd 51) 20 = .ok (.iload_n 2, 1) := by decide +kernel
theorem e51_21 : decode (px_cd 51) 21 = .ok (.invokevirtual 91, 3) := by decide +kernel
theorem e51_24 : decode (px_cd 51) 24 = .ok (.iconst 2, 1) := by decide +kernel
theorem e51_25 : decode (px_cd 51) 25 = .ok (.if_icmp .ne 6, 3) := by decide +kernel
theorem e51_28 : decode (px_cd 51) 28 = .ok (.iinc 1 1, 3) := by decide +kernel
theorem e51_31 : decode (px_cd 51) 31 = .ok (.iinc 2 2, 3) := by decide +kernel
theorem e51_34 : decode (px_cd 51) 34 = .ok (.goto (-30), 3) := by decide +kernel
theorem e51_37 : decode (px_cd 51) 37 = .ok (.iload_n 1, 1) := by decide +kernel
theorem e51_38 : decode (px_cd 51) 38 = .ok (.ireturn, 1) := by decide +kernel
-- 59 Image_sum
theorem e59_0 : decode (px_cd 59) 0 = .ok (.iconst (-1), 1) := by decide +kernel
theorem e59_1 : decode (px_cd 59) 1 = .ok (.aload_n 0, 1) := by decide +kernel
theorem e59_2 : decode (px_cd 59) 2 = .ok (.getfield 45, 3) := by decide +kernel
theorem e59_5 : decode (px_cd 59) 5 = .ok (.invokestatic 149, 3) := by decide +kernel
theorem e59_8 : decode (px_cd 59) 8 = .ok (.istore_n 1, 1) := by decide +kernel
theorem e59_9 : decode (px_cd 59) 9 = .ok (.aload_n 0, 1) := by decide +kernel
theorem e59_10 : decode (px_cd 59) 10 = .ok (.getfield 11, 3) := by decide +kernel
theorem e59_13 : decode (px_cd 59) 13 = .ok (.astore_n 2, 1) := by decide +kernel
theorem e59_14 : decode (px_cd 59) 14 = .ok (.aload_n 2, 1) := by decide +kernel
theorem e59_15 : decode (px_cd 59) 15 = .ok (.arraylength, 1) := by decide +kernel
theorem e59_16 : decode (px_cd 59) 16 = .ok (.istore_n 3, 1) := by decide +kernel
theorem e59_17 : decode (px_cd 59) 17 = .ok (.iconst 0, 1) := by decide +kernel
theorem e59_18 : decode (px_cd 59) 18 = .ok (.istore 4, 2) := by decide +kernel
theorem e59_20 : decode (px_cd 59) 20 = .ok (.iload 4, 2) := by decide +kernel
theorem e59_22 : decode (px_cd 59) 22 = .ok (.iload_n 3, 1) := by decide +kernel
theorem e59_23 : decode (px_cd 59) 23 = .ok (.if_icmp .ge 53, 3) := by decide +kernel
theorem e59_26 : decode (px_cd 59) 26 = .ok (.aload_n 2, 1) := by decide +kernel
theorem e59_27 : decode (px_cd 59) 27 = .ok (.iload 4, 2) := by decide +kernel
theorem e59_29 : decode (px_cd 59) 29 = .ok (.aaload, 1) := by decide +kernel
theorem e59_30 : decode (px_cd 59) 30 = .ok (.astore 5, 2) := by decide +kernel
theorem e59_32 : decode (px_cd 59) 32 = .ok (.aload 5, 2) := by decide +kernel
theorem e59_34 : decode (px_cd 59) 34 = .ok (.getfield 98, 3) := by decide +kernel
theorem e59_37 : decode (px_cd 59) 37 = .ok (.ifCond .eq 33, 3) := by decide +kernel
theorem e59_40 : decode (px_cd 59) 40 = .ok (.iload_n 1, 1) := by decide +kernel
theorem e59_41 : decode (px_cd 59) 41 = .ok (.aload 5, 2) := by decide +kernel
theorem e59_43 : decode (px_cd 59) 43 = .ok (.getfield 102, 3) := by decide +kernel
theorem e59_46 : decode (px_cd 59) 46 = .ok (.invokestatic 149, 3) := by decide +kernel
theorem e59_49 : decode (px_cd 59) 49 = .ok (.istore_n 1, 1) := by decide +kernel
theorem e59_50 : decode (px_cd 59) 50 = .ok (.iload_n 1, 1) := by decide +kernel
theorem e59_51 : decode (px_cd 59) 51 = .ok (.aload 5, 2) := by decide +kernel
theorem e59_53 : decode (px_cd 59) 53 = .ok (.getfield 152, 3) := by decide +kernel
theorem e59_56 : decode (px_cd 59) 56 = .ok (.invokestatic 149, 3) := by decide +kernel
theorem e59_59 : decode (px_cd 59) 59 = .ok (.istore_n 1, 1) := by decide +kernel
theorem e59_60 : decode (px_cd 59) 60 = .ok (.iload_n 1, 1) := by decide +kernel
theorem e59_61 : decode (px_cd 59) 61 = .ok (.aload 5, 2) := by decide +kernel
theorem e59_63 : decode (px_cd 59) 63 = .ok (.getfield 76, 3) := by decide +kernel
theorem e59_66 : decode (px_cd 59) 66 = .ok (.invokestatic 155, 3) := by decide +kernel
theorem e59_69 : decode (px_cd 59) 69 = .ok (.istore_n 1, 1) := by decide +kernel
theorem e59_70 : decode (px_cd 59) 70 = .ok (.iinc 4 1, 3) := by decide +kernel
theorem e59_73 : decode (px_cd 59) 73 = .ok (.goto (-53), 3) := by decide +kernel
theorem e59_76 : decode (px_cd 59) 76 = .ok (.aload_n 0, 1) := by decide +kernel
theorem e59_77 : decode (px_cd 59) 77 = .ok (.invokevirtual 159, 3) := by decide +kernel
theorem e59_80 : decode (px_cd 59) 80 = .ok (.istore_n 2, 1) := by decide +kernel
theorem e59_81 : decode (px_cd 59) 81 = .ok (.iconst 0, 1) := by decide +kernel
theorem e59_82 : decode (px_cd 59) 82 = .ok (.istore_n 3, 1) := by decide +kernel
theorem e59_83 : decode (px_cd 59) 83 = .ok (.iload_n 3, 1) := by decide +kernel
theorem e59_84 : decode (px_cd 59) 84 = .ok (.iload_n 2, 1) := by decide +kernel
theorem e59_85 : decode (px_cd 59) 85 = .ok (.if_icmp .ge 19, 3) := by decide +kernel
theorem e59_88 : decode (px_cd 59) 88 = .ok (.iload_n 1, 1) := by decide +kernel
theorem e59_89 : decode (px_cd 59) 89 = .ok (.aload_n 0, 1) := by decide +kernel
theorem e59_90 : decode (px_cd 59) 90 = .ok (.iload_n 3, 1) := by decide +kernel
theorem e59_91 : decode (px_cd 59) 91 = .ok (.invokevirtual 162, 3) := by decide +kernel
theorem e59_94 : decode (px_cd 59) 94 = .ok (.invokestatic 165, 3) := by decide +kernel
theorem e59_97 : decode (px_cd 59) 97 = .ok (.istore_n 1, 1) := by decide +kernel
theorem e59_98 : decode (px_cd 59) 98 = .ok (.iinc 3 1, 3) := by decide +kernel
theorem e59_101 : decode (px_cd 59) 101 = .ok (.goto (-18), 3) := by decide +kernel
theorem e59_104 : decode (px_cd 59) 104 = .ok (.iload_n 1, 1) := by decide +kernel
theorem e59_105 : decode (px_cd 59) 105 = .ok (.iconst (-1), 1) := by decide +kernel
theorem e59_106 : decode (px_cd 59) 106 = .ok (.ixor, 1) := by decide +kernel
theorem e59_107 : decode (px_cd 59) 107 = .ok (.ireturn, 1) := by decide +kernel
-- 63 Image_markByte
theorem e63_0 : decode (px_cd 63) 0 = .ok (.iload_n 1, 1) := by decide +kernel
theorem e63_1 : decode (px_cd 63) 1 = .ok (.ifCond .lt 12, 3) := by decide +kernel
theorem e63_4 : decode (px_cd 63) 4 = .ok (.iload_n 1, 1) := by decide +kernel
theorem e63_5 : decode (px_cd 63) 5 = .ok (.aload_n 0, 1) := by decide +kernel
theorem e63_6 : decode (px_cd 63) 6 = .ok (.getfield 28, 3) := by decide +kernel
theorem e63_9 : decode (px_cd 63) 9 = .ok (.arraylength, 1) := by decide +kernel
theorem e63_10 : decode (px_cd 63) 10 = .ok (.if_icmp .lt 7, 3) := by decide +kernel
theorem e63_13 : decode (px_cd 63) 13 = .ok (.iconst 0, 1) := by decide +kernel
theorem e63_14 : decode (px_cd 63) 14 = .ok (.goto 13, 3) := by decide +kernel
theorem e63_17 : decode (px_cd 63) 17 = .ok (.aload_n 0, 1) := by decide +kernel
theorem e63_18 : decode (px_cd 63) 18 = .ok (.getfield 28, 3) := by decide +kernel
theorem e63_21 : decode (px_cd 63) 21 = .ok (.iload_n 1, 1) := by decide +kernel
theorem e63_22 : decode (px_cd 63) 22 = .ok (.baload, 1) := by decide +kernel
theorem e63_23 : decode (px_cd 63) 23 = .ok (.sipush 255, 3) := by decide +kernel
theorem e63_26 : decode (px_cd 63) 26 = .ok (.iand, 1) := by decide +kernel
theorem e63_27 : decode (px_cd 63) 27 = .ok (.ireturn, 1) := by decide +kernel
-- 94 Image_setMarkByte
theorem e94_0 : decode (px_cd 94) 0 = .ok (.iload_n 1, 1) := by decide +kernel
theorem e94_1 : decode (px_cd 94) 1 = .ok (.ifCond .lt 20, 3) := by decide +kernel
theorem e94_4 : decode (px_cd 94) 4 = .ok (.iload_n 1, 1) := by decide +kernel
theorem e94_5 : decode (px_cd 94) 5 = .ok (.aload_n 0, 1) := by decide +kernel
theorem e94_6 : decode (px_cd 94) 6 = .ok (.getfield 28, 3) := by decide +kernel
theorem e94_9 : decode (px_cd 94) 9 = .ok (.arraylength, 1) := by decide +kernel
theorem e94_10 : decode (px_cd 94) 10 = .ok (.if_icmp .ge 11, 3) := by decide +kernel
theorem e94_13 : decode (px_cd 94) 13 = .ok (.aload_n 0, 1) := by decide +kernel
theorem e94_14 : decode (px_cd 94) 14 = .ok (.getfield 28, 3) := by decide +kernel
theorem e94_17 : decode (px_cd 94) 17 = .ok (.iload_n 1, 1) := by decide +kernel
theorem e94_18 : decode (px_cd 94) 18 = .ok (.iload_n 2, 1) := by decide +kernel
theorem e94_19 : decode (px_cd 94) 19 = .ok (.i2b, 1) := by decide +kernel
theorem e94_20 : decode (px_cd 94) 20 = .ok (.bastore, 1) := by decide +kernel
theorem e94_21 : decode (px_cd 94) 21 = .ok (.return_, 1) := by decide +kernel
-- 95 Image_becomeLike
theorem e95_0 : decode (px_cd 95) 0 = .ok (.iconst 0, 1) := by decide +kernel
theorem e95_1 : decode (px_cd 95) 1 = .ok (.istore_n 2, 1) := by decide +kernel
theorem e95_2 : decode (px_cd 95) 2 = .ok (.iload_n 2, 1) := by decide +kernel
theorem e95_3 : decode (px_cd 95) 3 = .ok (.iconst 3, 1) := by decide +kernel
theorem e95_4 : decode (px_cd 95) 4 = .ok (.if_icmp .ge 24, 3) := by decide +kernel
theorem e95_7 : decode (px_cd 95) 7 = .ok (.aload_n 0, 1) := by decide +kernel
theorem e95_8 : decode (px_cd 95) 8 = .ok (.getfield 11, 3) := by decide +kernel
theorem e95_11 : decode (px_cd 95) 11 = .ok (.iload_n 2, 1) := by decide +kernel
theorem e95_12 : decode (px_cd 95) 12 = .ok (.aaload, 1) := by decide +kernel
theorem e95_13 : decode (px_cd 95) 13 = .ok (.aload_n 1, 1) := by decide +kernel
theorem e95_14 : decode (px_cd 95) 14 = .ok (.getfield 11, 3) := by decide +kernel
theorem e95_17 : decode (px_cd 95) 17 = .ok (.iload_n 2, 1) := by decide +kernel
theorem e95_18 : decode (px_cd 95) 18 = .ok (.aaload, 1) := by decide +kernel
theorem e95_19 : decode (px_cd 95) 19 = .ok (.invokevirtual 48, 3) := by decide +kernel
theorem e95_22 : decode (px_cd 95) 22 = .ok (.iinc 2 1, 3) := by decide +kernel
theorem e95_25 : decode (px_cd 95) 25 = .ok (.goto (-23), 3) := by decide +kernel
theorem e95_28 : decode (px_cd 95) 28 = .ok (.aload_n 1, 1) := by decide +kernel
theorem e95_29 : decode (px_cd 95) 29 = .ok (.getfield 28, 3) := by decide +kernel
theorem e95_32 : decode (px_cd 95) 32 = .ok (.iconst 0, 1) := by decide +kernel
theorem e95_33 : decode (px_cd 95) 33 = .ok (.aload_n 0, 1) := by decide +kernel
theorem e95_34 : decode (px_cd 95) 34 = .ok (.getfield 28, 3) := by decide +kernel
theorem e95_37 : decode (px_cd 95) 37 = .ok (.iconst 0, 1) := by decide +kernel
theorem e95_38 : decode (px_cd 95) 38 = .ok (.aload_n 0, 1) := by decide +kernel
theorem e95_39 : decode (px_cd 95) 39 = .ok (.getfield 28, 3) := by decide +kernel
theorem e95_42 : decode (px_cd 95) 42 = .ok (.arraylength, 1) := by decide +kernel
theorem e95_43 : decode (px_cd 95) 43 = .ok (.invokestatic 52, 3) := by decide +kernel
theorem e95_46 : decode (px_cd 95) 46 = .ok (.aload_n 0, 1) := by decide +kernel
theorem e95_47 : decode (px_cd 95) 47 = .ok (.aload_n 1, 1) := by decide +kernel
theorem e95_48 : decode (px_cd 95) 48 = .ok (.getfield 45, 3) := by decide +kernel
theorem e95_51 : decode (px_cd 95) 51 = .ok (.putfield 45, 3) := by decide +kernel
theorem e95_54 : decode (px_cd 95) 54 = .ok (.aload_n 0, 1) := by decide +kernel
theorem e95_55 : decode (px_cd 95) 55 = .ok (.aload_n 1, 1) := by decide +kernel
theorem e95_56 : decode (px_cd 95) 56 = .ok (.getfield 32, 3) := by decide +kernel
theorem e95_59 : decode (px_cd 95) 59 = .ok (.putfield 32, 3) := by decide +kernel
theorem e95_62 : decode (px_cd 95) 62 = .ok (.return_, 1) := by decide +kernel
-- 103 Image_countMarks
theorem e103_0 : decode (px_cd 103) 0 = .ok (.iconst 0, 1) := by decide +kernel
theorem e103_1 : decode (px_cd 103) 1 = .ok (.istore_n 1, 1) := by decide +kernel
theorem e103_2 : decode (px_cd 103) 2 = .ok (.iconst 0, 1) := by decide +kernel
theorem e103_3 : decode (px_cd 103) 3 = .ok (.istore_n 2, 1) := by decide +kernel
theorem e103_4 : decode (px_cd 103) 4 = .ok (.iload_n 2, 1) := by decide +kernel
theorem e103_5 : decode (px_cd 103) 5 = .ok (.sipush 4096, 3) := by decide +kernel
theorem e103_8 : decode (px_cd 103) 8 = .ok (.if_icmp .ge 20, 3) := by decide +kernel
theorem e103_11 : decode (px_cd 103) 11 = .ok (.aload_n 0, 1) := by decide +kernel
theorem e103_12 : decode (px_cd 103) 12 = .ok (.iload_n 2, 1) := by decide +kernel
theorem e103_13 : decode (px_cd 103) 13 = .ok (.invokevirtual 88, 3) := by decide +kernel
theorem e103_16 : decode (px_cd 103) 16 = .ok (.ifCond .eq 6, 3) := by decide +kernel
theorem e103_19 : decode (px_cd 103) 19 = .ok (.iinc 1 1, 3) := by decide +kernel
theorem e103_22 : decode (px_cd 103) 22 = .ok (.iinc 2 2, 3) := by decide +kernel
theorem e103_25 : decode (px_cd 103) 25 = .ok (.goto (-21), 3) := by decide +kernel
theorem e103_28 : decode (px_cd 103) 28 = .ok (.iload_n 1, 1) := by decide +kernel
theorem e103_29 : decode (px_cd 103) 29 = .ok (.ireturn, 1) := by decide +kernel
-- 105 Image_memoryByte
theorem e105_0 : decode (px_cd 105) 0 = .ok (.aload_n 0, 1) := by decide +kernel
theorem e105_1 : decode (px_cd 105) 1 = .ok (.iload_n 1, 1) := by decide +kernel
theorem e105_2 : decode (px_cd 105) 2 = .ok (.invokevirtual 62, 3) := by decide +kernel
theorem e105_5 : decode (px_cd 105) 5 = .ok (.astore_n 2, 1) := by decide +kernel
theorem e105_6 : decode (px_cd 105) 6 = .ok (.aload_n 2, 1) := by decide +kernel
theorem e105_7 : decode (px_cd 105) 7 = .ok (.ifnonnull 7, 3) := by decide +kernel
theorem e105_10 : decode (px_cd 105) 10 = .ok (.iconst (-1), 1) := by decide +kernel
theorem e105_11 : decode (px_cd 105) 11 = .ok (.goto 8, 3) := by decide +kernel
theorem e105_14 : decode (px_cd 105) 14 = .ok (.aload_n 2, 1) := by decide +kernel
theorem e105_15 : decode (px_cd 105) 15 = .ok (.iload_n 1, 1) := by decide +kernel
theorem e105_16 : decode (px_cd 105) 16 = .ok (.invokevirtual 66, 3) := by decide +kernel
theorem e105_19 : decode (px_cd 105) 19 = .ok (.ireturn, 1) := by decide +kernel
-- 106 Image_segmentAround
theorem e106_0 : decode (px_cd 106) 0 = .ok (.aload_n 0, 1) := by decide +kernel
theorem e106_1 : decode (px_cd 106) 1 = .ok (.getfield 11, 3) := by decide +kernel
theorem e106_4 : decode (px_cd 106) 4 = .ok (.astore_n 2, 1) := by decide +kernel
theorem e106_5 : decode (px_cd 106) 5 = .ok (.aload_n 2, 1) := by decide +kernel
theorem e106_6 : decode (px_cd 106) 6 = .ok (.arraylength, 1) := by decide +kernel
theorem e106_7 : decode (px_cd 106) 7 = .ok (.istore_n 3, 1) := by decide +kernel
theorem e106_8 : decode (px_cd 106) 8 = .ok (.iconst 0, 1) := by decide +kernel
theorem e106_9 : decode (px_cd 106) 9 = .ok (.istore 4, 2) := by decide +kernel
theorem e106_11 : decode (px_cd 106) 11 = .ok (.iload 4, 2) := by decide +kernel
theorem e106_13 : decode (px_cd 106) 13 = .ok (.iload_n 3, 1) := by decide +kernel
theorem e106_14 : decode (px_cd 106) 14 = .ok (.if_icmp .ge 27, 3) := by decide +kernel
theorem e106_17 : decode (px_cd 106) 17 = .ok (.aload_n 2, 1) := by decide +kernel
theorem e106_18 : decode (px_cd 106) 18 = .ok (.iload 4, 2) := by decide +kernel
theorem e106_20 : decode (px_cd 106) 20 = .ok (.aaload, 1) := by decide +kernel
theorem e106_21 : decode (px_cd 106) 21 = .ok (.astore 5, 2) := by decide +kernel
theorem e106_23 : decode (px_cd 106) 23 = .ok (.aload 5, 2) := by decide +kernel
theorem e106_25 : decode (px_cd 106) 25 = .ok (.iload_n 1, 1) := by decide +kernel
theorem e106_26 : decode (px_cd 106) 26 = .ok (.invokevirtual 58, 3) := by decide +kernel
theorem e106_29 : decode (px_cd 106) 29 = .ok (.ifCond .eq 6, 3) := by decide +kernel
theorem e106_32 : decode (px_cd 106) 32 = .ok (.aload 5, 2) := by decide +kernel
theorem e106_34 : decode (px_cd 106) 34 = .ok (.areturn, 1) := by decide +kernel
theorem e106_35 : decode (px_cd 106) 35 = .ok (.iinc 4 1, 3) := by decide +kernel
theorem e106_38 : decode (px_cd 106) 38 = .ok (.goto (-27), 3) := by decide +kernel
theorem e106_41 : decode (px_cd 106) 41 = .ok (.aconst_null, 1) := by decide +kernel
theorem e106_42 : decode (px_cd 106) 42 = .ok (.areturn, 1) := by decide +kernel
-- 113 Image_lastMarkUpTo
theorem e113_0 : decode (px_cd 113) 0 = .ok (.aload_n 0, 1) := by decide +kernel
theorem e113_1 : decode (px_cd 113) 1 = .ok (.iload_n 1, 1) := by decide +kernel
theorem e113_2 : decode (px_cd 113) 2 = .ok (.invokevirtual 105, 3) := by decide +kernel
theorem e113_5 : decode (px_cd 113) 5 = .ok (.sipush 4095, 3) := by decide +kernel
theorem e113_8 : decode (px_cd 113) 8 = .ok (.invokestatic 108, 3) := by decide +kernel
theorem e113_11 : decode (px_cd 113) 11 = .ok (.istore_n 2, 1) := by decide +kernel
theorem e113_12 : decode (px_cd 113) 12 = .ok (.iload_n 2, 1) := by decide +kernel
theorem e113_13 : decode (px_cd 113) 13 = .ok (.istore_n 3, 1) := by decide +kernel
theorem e113_14 : decode (px_cd 113) 14 = .ok (.iload_n 3, 1) := by decide +kernel
theorem e113_15 : decode (px_cd 113) 15 = .ok (.ifCond .lt 27, 3) := by decide +kernel
theorem e113_18 : decode (px_cd 113) 18 = .ok (.aload_n 0, 1) := by decide +kernel
theorem e113_19 : decode (px_cd 113) 19 = .ok (.iload_n 3, 1) := by decide +kernel
theorem e113_20 : decode (px_cd 113) 20 = .ok (.invokevirtual 88, 3) := by decide +kernel
theorem e113_23 : decode (px_cd 113) 23 = .ok (.ifCond .eq 13, 3) := by decide +kernel
theorem e113_26 : decode (px_cd 113) 26 = .ok (.aload_n 0, 1) := by decide +kernel
theorem e113_27 : decode (px_cd 113) 27 = .ok (.getfield 24, 3) := by decide +kernel
theorem e113_30 : decode (px_cd 113) 30 = .ok (.getfield 102, 3) := by decide +kernel
theorem e113_33 : decode (px_cd 113) 33 = .ok (.iload_n 3, 1) := by decide +kernel
theorem e113_34 : decode (px_cd 113) 34 = .ok (.iadd, 1) := by decide +kernel
theorem e113_35 : decode (px_cd 113) 35 = .ok (.ireturn, 1) := by decide +kernel
theorem e113_36 : decode (px_cd 113) 36 = .ok (.iinc 3 (-1), 3) := by decide +kernel
theorem e113_39 : decode (px_cd 113) 39 = .ok (.goto (-25), 3) := by decide +kernel
theorem e113_42 : decode (px_cd 113) 42 = .ok (.iconst (-1), 1) := by decide +kernel
theorem e113_43 : decode (px_cd 113) 43 = .ok (.ireturn, 1) := by decide +kernel
