/-! printed by wip/whole/gen3.py: what stands at each place of a method, and what the tables say there -/
-- 2 Segment_init
theorem e2_0 : decode (px_cd 2) 0 = .ok (.aload_n 0, 1) := by decide +kernel
theorem e2_1 : decode (px_cd 2) 1 = .ok (.invokespecial 3, 3) := by decide +kernel
theorem e2_4 : decode (px_cd 2) 4 = .ok (.aload_n 0, 1) := by decide +kernel
theorem e2_5 : decode (px_cd 2) 5 = .ok (.iload_n 1, 1) := by decide +kernel
theorem e2_6 : decode (px_cd 2) 6 = .ok (.putfield 9, 3) := by decide +kernel
theorem e2_9 : decode (px_cd 2) 9 = .ok (.aload_n 0, 1) := by decide +kernel
theorem e2_10 : decode (px_cd 2) 10 = .ok (.new 15, 3) := by decide +kernel
theorem e2_13 : decode (px_cd 2) 13 = .ok (.dup, 1) := by decide +kernel
theorem e2_14 : decode (px_cd 2) 14 = .ok (.sipush 4096, 3) := by decide +kernel
theorem e2_17 : decode (px_cd 2) 17 = .ok (.invokespecial 17, 3) := by decide +kernel
theorem e2_20 : decode (px_cd 2) 20 = .ok (.putfield 20, 3) := by decide +kernel
theorem e2_23 : decode (px_cd 2) 23 = .ok (.return_, 1) := by decide +kernel
-- 8 Segment_leave
theorem e8_0 : decode (px_cd 8) 0 = .ok (.aload_n 0, 1) := by decide +kernel
theorem e8_1 : decode (px_cd 8) 1 = .ok (.iconst 0, 1) := by decide +kernel
theorem e8_2 : decode (px_cd 8) 2 = .ok (.putfield 24, 3) := by decide +kernel
theorem e8_5 : decode (px_cd 8) 5 = .ok (.aload_n 0, 1) := by decide +kernel
theorem e8_6 : decode (px_cd 8) 6 = .ok (.iconst 0, 1) := by decide +kernel
theorem e8_7 : decode (px_cd 8) 7 = .ok (.putfield 28, 3) := by decide +kernel
theorem e8_10 : decode (px_cd 8) 10 = .ok (.aload_n 0, 1) := by decide +kernel
theorem e8_11 : decode (px_cd 8) 11 = .ok (.iconst 0, 1) := by decide +kernel
theorem e8_12 : decode (px_cd 8) 12 = .ok (.putfield 31, 3) := by decide +kernel
theorem e8_15 : decode (px_cd 8) 15 = .ok (.aload_n 0, 1) := by decide +kernel
theorem e8_16 : decode (px_cd 8) 16 = .ok (.getfield 20, 3) := by decide +kernel
theorem e8_19 : decode (px_cd 8) 19 = .ok (.iconst 0, 1) := by decide +kernel
theorem e8_20 : decode (px_cd 8) 20 = .ok (.invokevirtual 34, 3) := by decide +kernel
theorem e8_23 : decode (px_cd 8) 23 = .ok (.pop, 1) := by decide +kernel
theorem e8_24 : decode (px_cd 8) 24 = .ok (.return_, 1) := by decide +kernel
-- 15 Segment_lieAt
theorem e15_0 : decode (px_cd 15) 0 = .ok (.aload_n 0, 1) := by decide +kernel
theorem e15_1 : decode (px_cd 15) 1 = .ok (.iconst 1, 1) := by decide +kernel
theorem e15_2 : decode (px_cd 15) 2 = .ok (.putfield 24, 3) := by decide +kernel
theorem e15_5 : decode (px_cd 15) 5 = .ok (.aload_n 0, 1) := by decide +kernel
theorem e15_6 : decode (px_cd 15) 6 = .ok (.iload_n 1, 1) := by decide +kernel
theorem e15_7 : decode (px_cd 15) 7 = .ok (.putfield 28, 3) := by decide +kernel
theorem e15_10 : decode (px_cd 15) 10 = .ok (.aload_n 0, 1) := by decide +kernel
theorem e15_11 : decode (px_cd 15) 11 = .ok (.iload_n 2, 1) := by decide +kernel
theorem e15_12 : decode (px_cd 15) 12 = .ok (.putfield 31, 3) := by decide +kernel
theorem e15_15 : decode (px_cd 15) 15 = .ok (.return_, 1) := by decide +kernel
-- 30 Segment_memoryEnd
theorem e30_0 : decode (px_cd 30) 0 = .ok (.aload_n 0, 1) := by decide +kernel
theorem e30_1 : decode (px_cd 30) 1 = .ok (.getfield 28, 3) := by decide +kernel
theorem e30_4 : decode (px_cd 30) 4 = .ok (.aload_n 0, 1) := by decide +kernel
theorem e30_5 : decode (px_cd 30) 5 = .ok (.invokevirtual 45, 3) := by decide +kernel
theorem e30_8 : decode (px_cd 30) 8 = .ok (.iadd, 1) := by decide +kernel
theorem e30_9 : decode (px_cd 30) 9 = .ok (.ireturn, 1) := by decide +kernel
-- 31 Segment_memorySize
theorem e31_0 : decode (px_cd 31) 0 = .ok (.aload_n 0, 1) := by decide +kernel
theorem e31_1 : decode (px_cd 31) 1 = .ok (.getfield 20, 3) := by decide +kernel
theorem e31_4 : decode (px_cd 31) 4 = .ok (.getfield 42, 3) := by decide +kernel
theorem e31_7 : decode (px_cd 31) 7 = .ok (.aload_n 0, 1) := by decide +kernel
theorem e31_8 : decode (px_cd 31) 8 = .ok (.getfield 31, 3) := by decide +kernel
theorem e31_11 : decode (px_cd 31) 11 = .ok (.iadd, 1) := by decide +kernel
theorem e31_12 : decode (px_cd 31) 12 = .ok (.ireturn, 1) := by decide +kernel
-- 33 Segment_meets
theorem e33_0 : decode (px_cd 33) 0 = .ok (.aload_n 0, 1) := by decide +kernel
theorem e33_1 : decode (px_cd 33) 1 = .ok (.getfield 24, 3) := by decide +kernel
theorem e33_4 : decode (px_cd 33) 4 = .ok (.ifCond .eq 39, 3) := by decide +kernel
theorem e33_7 : decode (px_cd 33) 7 = .ok (.aload_n 1, 1) := by decide +kernel
theorem e33_8 : decode (px_cd 33) 8 = .ok (.getfield 24, 3) := by decide +kernel
theorem e33_11 : decode (px_cd 33) 11 = .ok (.ifCond .eq 32, 3) := by decide +kernel
theorem e33_14 : decode (px_cd 33) 14 = .ok (.aload_n 0, 1) := by decide +kernel
theorem e33_15 : decode (px_cd 33) 15 = .ok (.getfield 28, 3) := by decide +kernel
theorem e33_18 : decode (px_cd 33) 18 = .ok (.aload_n 1, 1) := by decide +kernel
theorem e33_19 : decode (px_cd 33) 19 = .ok (.getfield 28, 3) := by decide +kernel
theorem e33_22 : decode (px_cd 33) 22 = .ok (.invokestatic 52, 3) := by decide +kernel
theorem e33_25 : decode (px_cd 33) 25 = .ok (.aload_n 0, 1) := by decide +kernel
theorem e33_26 : decode (px_cd 33) 26 = .ok (.invokevirtual 49, 3) := by decide +kernel
theorem e33_29 : decode (px_cd 33) 29 = .ok (.aload_n 1, 1) := by decide +kernel
theorem e33_30 : decode (px_cd 33) 30 = .ok (.invokevirtual 49, 3) := by decide +kernel
theorem e33_33 : decode (px_cd 33) 33 = .ok (.invokestatic 58, 3) := by decide +kernel
theorem e33_36 : decode (px_cd 33) 36 = .ok (.if_icmp .ge 7, 3) := by decide +kernel
theorem e33_39 : decode (px_cd 33) 39 = .ok (.iconst 1, 1) := by decide +kernel
theorem e33_40 : decode (px_cd 33) 40 = .ok (.goto 4, 3) := by decide +kernel
theorem e33_43 : decode (px_cd 33) 43 = .ok (.iconst 0, 1) := by decide +kernel
theorem e33_44 : decode (px_cd 33) 44 = .ok (.ireturn, 1) := by decide +kernel
-- 96 Segment_becomeLike
theorem e96_0 : decode (px_cd 96) 0 = .ok (.aload_n 0, 1) := by decide +kernel
theorem e96_1 : decode (px_cd 96) 1 = .ok (.aload_n 1, 1) := by decide +kernel
theorem e96_2 : decode (px_cd 96) 2 = .ok (.getfield 24, 3) := by decide +kernel
theorem e96_5 : decode (px_cd 96) 5 = .ok (.putfield 24, 3) := by decide +kernel
theorem e96_8 : decode (px_cd 96) 8 = .ok (.aload_n 0, 1) := by decide +kernel
theorem e96_9 : decode (px_cd 96) 9 = .ok (.aload_n 1, 1) := by decide +kernel
theorem e96_10 : decode (px_cd 96) 10 = .ok (.getfield 28, 3) := by decide +kernel
theorem e96_13 : decode (px_cd 96) 13 = .ok (.putfield 28, 3) := by decide +kernel
theorem e96_16 : decode (px_cd 96) 16 = .ok (.aload_n 0, 1) := by decide +kernel
theorem e96_17 : decode (px_cd 96) 17 = .ok (.aload_n 1, 1) := by decide +kernel
theorem e96_18 : decode (px_cd 96) 18 = .ok (.getfield 31, 3) := by decide +kernel
theorem e96_21 : decode (px_cd 96) 21 = .ok (.putfield 31, 3) := by decide +kernel
theorem e96_24 : decode (px_cd 96) 24 = .ok (.aload_n 0, 1) := by decide +kernel
theorem e96_25 : decode (px_cd 96) 25 = .ok (.getfield 20, 3) := by decide +kernel
theorem e96_28 : decode (px_cd 96) 28 = .ok (.aload_n 1, 1) := by decide +kernel
theorem e96_29 : decode (px_cd 96) 29 = .ok (.getfield 20, 3) := by decide +kernel
theorem e96_32 : decode (px_cd 96) 32 = .ok (.invokevirtual 38, 3) := by decide +kernel
theorem e96_35 : decode (px_cd 96) 35 = .ok (.return_, 1) := by decide +kernel
-- 101 Segment_numberAbout
theorem e101_0 : decode (px_cd 101) 0 = .ok (.iload_n 1, 1) := by decide +kernel
theorem e101_1 : decode (px_cd 101) 1 = .ok (.tableswitch 45 1 3 #[27, 32, 40], 27) := by decide +kernel
theorem e101_28 : decode (px_cd 101) 28 = .ok (.aload_n 0, 1) := by decide +kernel
theorem e101_29 : decode (px_cd 101) 29 = .ok (.getfield 28, 3) := by decide +kernel
theorem e101_32 : decode (px_cd 101) 32 = .ok (.ireturn, 1) := by decide +kernel
theorem e101_33 : decode (px_cd 101) 33 = .ok (.aload_n 0, 1) := by decide +kernel
theorem e101_34 : decode (px_cd 101) 34 = .ok (.getfield 20, 3) := by decide +kernel
theorem e101_37 : decode (px_cd 101) 37 = .ok (.getfield 42, 3) := by decide +kernel
theorem e101_40 : decode (px_cd 101) 40 = .ok (.ireturn, 1) := by decide +kernel
theorem e101_41 : decode (px_cd 101) 41 = .ok (.aload_n 0, 1) := by decide +kernel
theorem e101_42 : decode (px_cd 101) 42 = .ok (.getfield 31, 3) := by decide +kernel
theorem e101_45 : decode (px_cd 101) 45 = .ok (.ireturn, 1) := by decide +kernel
theorem e101_46 : decode (px_cd 101) 46 = .ok (.iconst (-1), 1) := by decide +kernel
theorem e101_47 : decode (px_cd 101) 47 = .ok (.ireturn, 1) := by decide +kernel
-- 107 Segment_isAround
theorem e107_0 : decode (px_cd 107) 0 = .ok (.aload_n 0, 1) := by decide +kernel
theorem e107_1 : decode (px_cd 107) 1 = .ok (.getfield 24, 3) := by decide +kernel
theorem e107_4 : decode (px_cd 107) 4 = .ok (.ifCond .eq 23, 3) := by decide +kernel
theorem e107_7 : decode (px_cd 107) 7 = .ok (.iload_n 1, 1) := by decide +kernel
theorem e107_8 : decode (px_cd 107) 8 = .ok (.aload_n 0, 1) := by decide +kernel
theorem e107_9 : decode (px_cd 107) 9 = .ok (.getfield 28, 3) := by decide +kernel
theorem e107_12 : decode (px_cd 107) 12 = .ok (.if_icmp .lt 15, 3) := by decide +kernel
theorem e107_15 : decode (px_cd 107) 15 = .ok (.iload_n 1, 1) := by decide +kernel
theorem e107_16 : decode (px_cd 107) 16 = .ok (.aload_n 0, 1) := by decide +kernel
theorem e107_17 : decode (px_cd 107) 17 = .ok (.invokevirtual 49, 3) := by decide +kernel
theorem e107_20 : decode (px_cd 107) 20 = .ok (.if_icmp .ge 7, 3) := by decide +kernel
theorem e107_23 : decode (px_cd 107) 23 = .ok (.iconst 1, 1) := by decide +kernel
theorem e107_24 : decode (px_cd 107) 24 = .ok (.goto 4, 3) := by decide +kernel
theorem e107_27 : decode (px_cd 107) 27 = .ok (.iconst 0, 1) := by decide +kernel
theorem e107_28 : decode (px_cd 107) 28 = .ok (.ireturn, 1) := by decide +kernel
-- 108 Segment_memoryByte
theorem e108_0 : decode (px_cd 108) 0 = .ok (.iload_n 1, 1) := by decide +kernel
theorem e108_1 : decode (px_cd 108) 1 = .ok (.aload_n 0, 1) := by decide +kernel
theorem e108_2 : decode (px_cd 108) 2 = .ok (.getfield 28, 3) := by decide +kernel
theorem e108_5 : decode (px_cd 108) 5 = .ok (.isub, 1) := by decide +kernel
theorem e108_6 : decode (px_cd 108) 6 = .ok (.istore_n 2, 1) := by decide +kernel
theorem e108_7 : decode (px_cd 108) 7 = .ok (.iload_n 2, 1) := by decide +kernel
theorem e108_8 : decode (px_cd 108) 8 = .ok (.aload_n 0, 1) := by decide +kernel
theorem e108_9 : decode (px_cd 108) 9 = .ok (.getfield 20, 3) := by decide +kernel
theorem e108_12 : decode (px_cd 108) 12 = .ok (.getfield 42, 3) := by decide +kernel
theorem e108_15 : decode (px_cd 108) 15 = .ok (.if_icmp .ge 14, 3) := by decide +kernel
theorem e108_18 : decode (px_cd 108) 18 = .ok (.aload_n 0, 1) := by decide +kernel
theorem e108_19 : decode (px_cd 108) 19 = .ok (.getfield 20, 3) := by decide +kernel
theorem e108_22 : decode (px_cd 108) 22 = .ok (.iload_n 2, 1) := by decide +kernel
theorem e108_23 : decode (px_cd 108) 23 = .ok (.invokevirtual 61, 3) := by decide +kernel
theorem e108_26 : decode (px_cd 108) 26 = .ok (.goto 4, 3) := by decide +kernel
theorem e108_29 : decode (px_cd 108) 29 = .ok (.iconst 0, 1) := by decide +kernel
theorem e108_30 : decode (px_cd 108) 30 = .ok (.ireturn, 1) := by decide +kernel
