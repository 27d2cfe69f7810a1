/-! printed by wip/whole/gen3.py: what stands at each place of a method, and what the tables say there -/
-- 60 Sum_withNumber
theorem e60_0 : decode (px_cd 60) 0 = .ok (.iload_n 0, 1) := by decide +kernel
theorem e60_1 : decode (px_cd 60) 1 = .ok (.istore_n 2, 1) := by decide +kernel
theorem e60_2 : decode (px_cd 60) 2 = .ok (.iconst 0, 1) := by decide +kernel
theorem e60_3 : decode (px_cd 60) 3 = .ok (.istore_n 3, 1) := by decide +kernel
theorem e60_4 : decode (px_cd 60) 4 = .ok (.iload_n 3, 1) := by decide +kernel
theorem e60_5 : decode (px_cd 60) 5 = .ok (.iconst 4, 1) := by decide +kernel
theorem e60_6 : decode (px_cd 60) 6 = .ok (.if_icmp .ge 20, 3) := by decide +kernel
theorem e60_9 : decode (px_cd 60) 9 = .ok (.iload_n 2, 1) := by decide +kernel
theorem e60_10 : decode (px_cd 60) 10 = .ok (.iload_n 1, 1) := by decide +kernel
theorem e60_11 : decode (px_cd 60) 11 = .ok (.bipush 8, 2) := by decide +kernel
theorem e60_13 : decode (px_cd 60) 13 = .ok (.iload_n 3, 1) := by decide +kernel
theorem e60_14 : decode (px_cd 60) 14 = .ok (.imul, 1) := by decide +kernel
theorem e60_15 : decode (px_cd 60) 15 = .ok (.iushr, 1) := by decide +kernel
theorem e60_16 : decode (px_cd 60) 16 = .ok (.invokestatic 13, 3) := by decide +kernel
theorem e60_19 : decode (px_cd 60) 19 = .ok (.istore_n 2, 1) := by decide +kernel
theorem e60_20 : decode (px_cd 60) 20 = .ok (.iinc 3 1, 3) := by decide +kernel
theorem e60_23 : decode (px_cd 60) 23 = .ok (.goto (-19), 3) := by decide +kernel
theorem e60_26 : decode (px_cd 60) 26 = .ok (.iload_n 2, 1) := by decide +kernel
theorem e60_27 : decode (px_cd 60) 27 = .ok (.ireturn, 1) := by decide +kernel
-- 61 Sum_withByte
theorem e61_0 : decode (px_cd 61) 0 = .ok (.iload_n 0, 1) := by decide +kernel
theorem e61_1 : decode (px_cd 61) 1 = .ok (.iload_n 1, 1) := by decide +kernel
theorem e61_2 : decode (px_cd 61) 2 = .ok (.sipush 255, 3) := by decide +kernel
theorem e61_5 : decode (px_cd 61) 5 = .ok (.iand, 1) := by decide +kernel
theorem e61_6 : decode (px_cd 61) 6 = .ok (.ixor, 1) := by decide +kernel
theorem e61_7 : decode (px_cd 61) 7 = .ok (.istore_n 2, 1) := by decide +kernel
theorem e61_8 : decode (px_cd 61) 8 = .ok (.iload_n 2, 1) := by decide +kernel
theorem e61_9 : decode (px_cd 61) 9 = .ok (.iconst 4, 1) := by decide +kernel
theorem e61_10 : decode (px_cd 61) 10 = .ok (.iushr, 1) := by decide +kernel
theorem e61_11 : decode (px_cd 61) 11 = .ok (.getstatic 7, 3) := by decide +kernel
theorem e61_14 : decode (px_cd 61) 14 = .ok (.iload_n 2, 1) := by decide +kernel
theorem e61_15 : decode (px_cd 61) 15 = .ok (.bipush 15, 2) := by decide +kernel
theorem e61_17 : decode (px_cd 61) 17 = .ok (.iand, 1) := by decide +kernel
theorem e61_18 : decode (px_cd 61) 18 = .ok (.iaload, 1) := by decide +kernel
theorem e61_19 : decode (px_cd 61) 19 = .ok (.ixor, 1) := by decide +kernel
theorem e61_20 : decode (px_cd 61) 20 = .ok (.istore_n 2, 1) := by decide +kernel
theorem e61_21 : decode (px_cd 61) 21 = .ok (.iload_n 2, 1) := by decide +kernel
theorem e61_22 : decode (px_cd 61) 22 = .ok (.iconst 4, 1) := by decide +kernel
theorem e61_23 : decode (px_cd 61) 23 = .ok (.iushr, 1) := by decide +kernel
theorem e61_24 : decode (px_cd 61) 24 = .ok (.getstatic 7, 3) := by decide +kernel
theorem e61_27 : decode (px_cd 61) 27 = .ok (.iload_n 2, 1) := by decide +kernel
theorem e61_28 : decode (px_cd 61) 28 = .ok (.bipush 15, 2) := by decide +kernel
theorem e61_30 : decode (px_cd 61) 30 = .ok (.iand, 1) := by decide +kernel
theorem e61_31 : decode (px_cd 61) 31 = .ok (.iaload, 1) := by decide +kernel
theorem e61_32 : decode (px_cd 61) 32 = .ok (.ixor, 1) := by decide +kernel
theorem e61_33 : decode (px_cd 61) 33 = .ok (.ireturn, 1) := by decide +kernel
-- 62 Sum_withBytes
theorem e62_0 : decode (px_cd 62) 0 = .ok (.iload_n 0, 1) := by decide +kernel
theorem e62_1 : decode (px_cd 62) 1 = .ok (.istore_n 2, 1) := by decide +kernel
theorem e62_2 : decode (px_cd 62) 2 = .ok (.iconst 0, 1) := by decide +kernel
theorem e62_3 : decode (px_cd 62) 3 = .ok (.istore_n 3, 1) := by decide +kernel
theorem e62_4 : decode (px_cd 62) 4 = .ok (.iload_n 3, 1) := by decide +kernel
theorem e62_5 : decode (px_cd 62) 5 = .ok (.aload_n 1, 1) := by decide +kernel
theorem e62_6 : decode (px_cd 62) 6 = .ok (.getfield 17, 3) := by decide +kernel
theorem e62_9 : decode (px_cd 62) 9 = .ok (.if_icmp .ge 19, 3) := by decide +kernel
theorem e62_12 : decode (px_cd 62) 12 = .ok (.iload_n 2, 1) := by decide +kernel
theorem e62_13 : decode (px_cd 62) 13 = .ok (.aload_n 1, 1) := by decide +kernel
theorem e62_14 : decode (px_cd 62) 14 = .ok (.iload_n 3, 1) := by decide +kernel
theorem e62_15 : decode (px_cd 62) 15 = .ok (.invokevirtual 23, 3) := by decide +kernel
theorem e62_18 : decode (px_cd 62) 18 = .ok (.invokestatic 13, 3) := by decide +kernel
theorem e62_21 : decode (px_cd 62) 21 = .ok (.istore_n 2, 1) := by decide +kernel
theorem e62_22 : decode (px_cd 62) 22 = .ok (.iinc 3 1, 3) := by decide +kernel
theorem e62_25 : decode (px_cd 62) 25 = .ok (.goto (-21), 3) := by decide +kernel
theorem e62_28 : decode (px_cd 62) 28 = .ok (.iload_n 2, 1) := by decide +kernel
theorem e62_29 : decode (px_cd 62) 29 = .ok (.ireturn, 1) := by decide +kernel
