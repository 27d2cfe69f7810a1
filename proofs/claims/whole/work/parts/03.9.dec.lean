/-! printed by wip/whole/gen3.py: what stands at each place of a method, and what the tables say there -/
-- 10 Arrays_fill
theorem e10_0 : decode (px_cd 10) 0 = .ok (.iconst 0, 1) := by decide +kernel
theorem e10_1 : decode (px_cd 10) 1 = .ok (.istore_n 2, 1) := by decide +kernel
theorem e10_2 : decode (px_cd 10) 2 = .ok (.aload_n 0, 1) := by decide +kernel
theorem e10_3 : decode (px_cd 10) 3 = .ok (.arraylength, 1) := by decide +kernel
theorem e10_4 : decode (px_cd 10) 4 = .ok (.istore_n 3, 1) := by decide +kernel
theorem e10_5 : decode (px_cd 10) 5 = .ok (.iload_n 2, 1) := by decide +kernel
theorem e10_6 : decode (px_cd 10) 6 = .ok (.iload_n 3, 1) := by decide +kernel
theorem e10_7 : decode (px_cd 10) 7 = .ok (.if_icmp .ge 13, 3) := by decide +kernel
theorem e10_10 : decode (px_cd 10) 10 = .ok (.aload_n 0, 1) := by decide +kernel
theorem e10_11 : decode (px_cd 10) 11 = .ok (.iload_n 2, 1) := by decide +kernel
theorem e10_12 : decode (px_cd 10) 12 = .ok (.iload_n 1, 1) := by decide +kernel
theorem e10_13 : decode (px_cd 10) 13 = .ok (.bastore, 1) := by decide +kernel
theorem e10_14 : decode (px_cd 10) 14 = .ok (.iinc 2 1, 3) := by decide +kernel
theorem e10_17 : decode (px_cd 10) 17 = .ok (.goto (-12), 3) := by decide +kernel
theorem e10_20 : decode (px_cd 10) 20 = .ok (.return_, 1) := by decide +kernel
-- 20 Arrays_copyOf
theorem e20_0 : decode (px_cd 20) 0 = .ok (.iload_n 1, 1) := by decide +kernel
theorem e20_1 : decode (px_cd 20) 1 = .ok (.aload_n 0, 1) := by decide +kernel
theorem e20_2 : decode (px_cd 20) 2 = .ok (.arraylength, 1) := by decide +kernel
theorem e20_3 : decode (px_cd 20) 3 = .ok (.if_icmp .ne 11, 3) := by decide +kernel
theorem e20_6 : decode (px_cd 20) 6 = .ok (.aload_n 0, 1) := by decide +kernel
theorem e20_7 : decode (px_cd 20) 7 = .ok (.invokevirtual 310, 3) := by decide +kernel
theorem e20_10 : decode (px_cd 20) 10 = .ok (.checkcast 311, 3) := by decide +kernel
theorem e20_13 : decode (px_cd 20) 13 = .ok (.areturn, 1) := by decide +kernel
theorem e20_14 : decode (px_cd 20) 14 = .ok (.iload_n 1, 1) := by decide +kernel
theorem e20_15 : decode (px_cd 20) 15 = .ok (.newarray .byte, 2) := by decide +kernel
theorem e20_17 : decode (px_cd 20) 17 = .ok (.astore_n 2, 1) := by decide +kernel
theorem e20_18 : decode (px_cd 20) 18 = .ok (.aload_n 0, 1) := by decide +kernel
theorem e20_19 : decode (px_cd 20) 19 = .ok (.iconst 0, 1) := by decide +kernel
theorem e20_20 : decode (px_cd 20) 20 = .ok (.aload_n 2, 1) := by decide +kernel
theorem e20_21 : decode (px_cd 20) 21 = .ok (.iconst 0, 1) := by decide +kernel
theorem e20_22 : decode (px_cd 20) 22 = .ok (.aload_n 0, 1) := by decide +kernel
theorem e20_23 : decode (px_cd 20) 23 = .ok (.arraylength, 1) := by decide +kernel
theorem e20_24 : decode (px_cd 20) 24 = .ok (.iload_n 1, 1) := by decide +kernel
theorem e20_25 : decode (px_cd 20) 25 = .ok (.invokestatic 304, 3) := by decide +kernel
theorem e20_28 : decode (px_cd 20) 28 = .ok (.invokestatic 150, 3) := by decide +kernel
theorem e20_31 : decode (px_cd 20) 31 = .ok (.aload_n 2, 1) := by decide +kernel
theorem e20_32 : decode (px_cd 20) 32 = .ok (.areturn, 1) := by decide +kernel
