/-! printed by wip/whole/gen3.py: what stands at each place of a method, and what the tables say there -/
-- 0 ImageFile_init
theorem e0_0 : decode (px_cd 0) 0 = .ok (.aload_n 0, 1) := by decide +kernel
theorem e0_1 : decode (px_cd 0) 1 = .ok (.invokespecial 1, 3) := by decide +kernel
theorem e0_4 : decode (px_cd 0) 4 = .ok (.aload_n 0, 1) := by decide +kernel
theorem e0_5 : decode (px_cd 0) 5 = .ok (.new 7, 3) := by decide +kernel
theorem e0_8 : decode (px_cd 0) 8 = .ok (.dup, 1) := by decide +kernel
theorem e0_9 : decode (px_cd 0) 9 = .ok (.invokespecial 9, 3) := by decide +kernel
theorem e0_12 : decode (px_cd 0) 12 = .ok (.putfield 10, 3) := by decide +kernel
theorem e0_15 : decode (px_cd 0) 15 = .ok (.aload_n 0, 1) := by decide +kernel
theorem e0_16 : decode (px_cd 0) 16 = .ok (.new 7, 3) := by decide +kernel
theorem e0_19 : decode (px_cd 0) 19 = .ok (.dup, 1) := by decide +kernel
theorem e0_20 : decode (px_cd 0) 20 = .ok (.invokespecial 9, 3) := by decide +kernel
theorem e0_23 : decode (px_cd 0) 23 = .ok (.putfield 16, 3) := by decide +kernel
theorem e0_26 : decode (px_cd 0) 26 = .ok (.aload_n 0, 1) := by decide +kernel
theorem e0_27 : decode (px_cd 0) 27 = .ok (.new 19, 3) := by decide +kernel
theorem e0_30 : decode (px_cd 0) 30 = .ok (.dup, 1) := by decide +kernel
theorem e0_31 : decode (px_cd 0) 31 = .ok (.sipush 16384, 3) := by decide +kernel
theorem e0_34 : decode (px_cd 0) 34 = .ok (.invokespecial 21, 3) := by decide +kernel
theorem e0_37 : decode (px_cd 0) 37 = .ok (.putfield 24, 3) := by decide +kernel
theorem e0_40 : decode (px_cd 0) 40 = .ok (.aload_n 0, 1) := by decide +kernel
theorem e0_41 : decode (px_cd 0) 41 = .ok (.new 28, 3) := by decide +kernel
theorem e0_44 : decode (px_cd 0) 44 = .ok (.dup, 1) := by decide +kernel
theorem e0_45 : decode (px_cd 0) 45 = .ok (.aload_n 0, 1) := by decide +kernel
theorem e0_46 : decode (px_cd 0) 46 = .ok (.getfield 24, 3) := by decide +kernel
theorem e0_49 : decode (px_cd 0) 49 = .ok (.invokespecial 30, 3) := by decide +kernel
theorem e0_52 : decode (px_cd 0) 52 = .ok (.putfield 33, 3) := by decide +kernel
theorem e0_55 : decode (px_cd 0) 55 = .ok (.aload_n 0, 1) := by decide +kernel
theorem e0_56 : decode (px_cd 0) 56 = .ok (.new 37, 3) := by decide +kernel
theorem e0_59 : decode (px_cd 0) 59 = .ok (.dup, 1) := by decide +kernel
theorem e0_60 : decode (px_cd 0) 60 = .ok (.aload_n 0, 1) := by decide +kernel
theorem e0_61 : decode (px_cd 0) 61 = .ok (.getfield 24, 3) := by decide +kernel
theorem e0_64 : decode (px_cd 0) 64 = .ok (.invokespecial 39, 3) := by decide +kernel
theorem e0_67 : decode (px_cd 0) 67 = .ok (.putfield 40, 3) := by decide +kernel
theorem e0_70 : decode (px_cd 0) 70 = .ok (.return_, 1) := by decide +kernel
-- 6 ImageFile_clear
theorem e6_0 : decode (px_cd 6) 0 = .ok (.aload_n 0, 1) := by decide +kernel
theorem e6_1 : decode (px_cd 6) 1 = .ok (.getfield 10, 3) := by decide +kernel
theorem e6_4 : decode (px_cd 6) 4 = .ok (.invokevirtual 44, 3) := by decide +kernel
theorem e6_7 : decode (px_cd 6) 7 = .ok (.return_, 1) := by decide +kernel
-- 11 ImageFile_entry
theorem e11_0 : decode (px_cd 11) 0 = .ok (.aload_n 0, 1) := by decide +kernel
theorem e11_1 : decode (px_cd 11) 1 = .ok (.getfield 10, 3) := by decide +kernel
theorem e11_4 : decode (px_cd 11) 4 = .ok (.iload_n 1, 1) := by decide +kernel
theorem e11_5 : decode (px_cd 11) 5 = .ok (.putfield 47, 3) := by decide +kernel
theorem e11_8 : decode (px_cd 11) 8 = .ok (.return_, 1) := by decide +kernel
-- 12 ImageFile_page
theorem e12_0 : decode (px_cd 12) 0 = .ok (.iload_n 1, 1) := by decide +kernel
theorem e12_1 : decode (px_cd 12) 1 = .ok (.ifCond .lt 9, 3) := by decide +kernel
theorem e12_4 : decode (px_cd 12) 4 = .ok (.iload_n 1, 1) := by decide +kernel
theorem e12_5 : decode (px_cd 12) 5 = .ok (.bipush 12, 2) := by decide +kernel
theorem e12_7 : decode (px_cd 12) 7 = .ok (.if_icmp .le 5, 3) := by decide +kernel
theorem e12_10 : decode (px_cd 12) 10 = .ok (.iconst 0, 1) := by decide +kernel
theorem e12_11 : decode (px_cd 12) 11 = .ok (.ireturn, 1) := by decide +kernel
theorem e12_12 : decode (px_cd 12) 12 = .ok (.aload_n 0, 1) := by decide +kernel
theorem e12_13 : decode (px_cd 12) 13 = .ok (.getfield 10, 3) := by decide +kernel
theorem e12_16 : decode (px_cd 12) 16 = .ok (.iconst 1, 1) := by decide +kernel
theorem e12_17 : decode (px_cd 12) 17 = .ok (.iload_n 1, 1) := by decide +kernel
theorem e12_18 : decode (px_cd 12) 18 = .ok (.ishl, 1) := by decide +kernel
theorem e12_19 : decode (px_cd 12) 19 = .ok (.putfield 51, 3) := by decide +kernel
theorem e12_22 : decode (px_cd 12) 22 = .ok (.iconst 1, 1) := by decide +kernel
theorem e12_23 : decode (px_cd 12) 23 = .ok (.ireturn, 1) := by decide +kernel
-- 13 ImageFile_segment
theorem e13_0 : decode (px_cd 13) 0 = .ok (.aload_n 0, 1) := by decide +kernel
theorem e13_1 : decode (px_cd 13) 1 = .ok (.getfield 10, 3) := by decide +kernel
theorem e13_4 : decode (px_cd 13) 4 = .ok (.iload_n 1, 1) := by decide +kernel
theorem e13_5 : decode (px_cd 13) 5 = .ok (.invokevirtual 54, 3) := by decide +kernel
theorem e13_8 : decode (px_cd 13) 8 = .ok (.astore 4, 2) := by decide +kernel
theorem e13_10 : decode (px_cd 13) 10 = .ok (.aload 4, 2) := by decide +kernel
theorem e13_12 : decode (px_cd 13) 12 = .ok (.ifnull 13, 3) := by decide +kernel
theorem e13_15 : decode (px_cd 13) 15 = .ok (.iload_n 2, 1) := by decide +kernel
theorem e13_16 : decode (px_cd 13) 16 = .ok (.ifCond .lt 9, 3) := by decide +kernel
theorem e13_19 : decode (px_cd 13) 19 = .ok (.iload_n 2, 1) := by decide +kernel
theorem e13_20 : decode (px_cd 13) 20 = .ok (.ldc 58, 2) := by decide +kernel
theorem e13_22 : decode (px_cd 13) 22 = .ok (.if_icmp .lt 5, 3) := by decide +kernel
theorem e13_25 : decode (px_cd 13) 25 = .ok (.iconst 0, 1) := by decide +kernel
theorem e13_26 : decode (px_cd 13) 26 = .ok (.ireturn, 1) := by decide +kernel
theorem e13_27 : decode (px_cd 13) 27 = .ok (.iload_n 3, 1) := by decide +kernel
theorem e13_28 : decode (px_cd 13) 28 = .ok (.ifCond .lt 18, 3) := by decide +kernel
theorem e13_31 : decode (px_cd 13) 31 = .ok (.iload_n 3, 1) := by decide +kernel
theorem e13_32 : decode (px_cd 13) 32 = .ok (.iload_n 1, 1) := by decide +kernel
theorem e13_33 : decode (px_cd 13) 33 = .ok (.iconst 2, 1) := by decide +kernel
theorem e13_34 : decode (px_cd 13) 34 = .ok (.if_icmp .ne 8, 3) := by decide +kernel
theorem e13_37 : decode (px_cd 13) 37 = .ok (.ldc 59, 2) := by decide +kernel
theorem e13_39 : decode (px_cd 13) 39 = .ok (.goto 4, 3) := by decide +kernel
theorem e13_42 : decode (px_cd 13) 42 = .ok (.iconst 0, 1) := by decide +kernel
theorem e13_43 : decode (px_cd 13) 43 = .ok (.if_icmp .le 5, 3) := by decide +kernel
theorem e13_46 : decode (px_cd 13) 46 = .ok (.iconst 0, 1) := by decide +kernel
theorem e13_47 : decode (px_cd 13) 47 = .ok (.ireturn, 1) := by decide +kernel
theorem e13_48 : decode (px_cd 13) 48 = .ok (.aload 4, 2) := by decide +kernel
theorem e13_50 : decode (px_cd 13) 50 = .ok (.iload_n 2, 1) := by decide +kernel
theorem e13_51 : decode (px_cd 13) 51 = .ok (.iload_n 3, 1) := by decide +kernel
theorem e13_52 : decode (px_cd 13) 52 = .ok (.invokevirtual 60, 3) := by decide +kernel
theorem e13_55 : decode (px_cd 13) 55 = .ok (.iconst 1, 1) := by decide +kernel
theorem e13_56 : decode (px_cd 13) 56 = .ok (.ireturn, 1) := by decide +kernel
-- 16 ImageFile_drop
theorem e16_0 : decode (px_cd 16) 0 = .ok (.aload_n 0, 1) := by decide +kernel
theorem e16_1 : decode (px_cd 16) 1 = .ok (.getfield 10, 3) := by decide +kernel
theorem e16_4 : decode (px_cd 16) 4 = .ok (.iload_n 1, 1) := by decide +kernel
theorem e16_5 : decode (px_cd 16) 5 = .ok (.invokevirtual 54, 3) := by decide +kernel
theorem e16_8 : decode (px_cd 16) 8 = .ok (.astore_n 2, 1) := by decide +kernel
theorem e16_9 : decode (px_cd 16) 9 = .ok (.aload_n 2, 1) := by decide +kernel
theorem e16_10 : decode (px_cd 16) 10 = .ok (.ifnull 10, 3) := by decide +kernel
theorem e16_13 : decode (px_cd 16) 13 = .ok (.aload_n 2, 1) := by decide +kernel
theorem e16_14 : decode (px_cd 16) 14 = .ok (.getfield 66, 3) := by decide +kernel
theorem e16_17 : decode (px_cd 16) 17 = .ok (.ifCond .ne 5, 3) := by decide +kernel
theorem e16_20 : decode (px_cd 16) 20 = .ok (.iconst 0, 1) := by decide +kernel
theorem e16_21 : decode (px_cd 16) 21 = .ok (.ireturn, 1) := by decide +kernel
theorem e16_22 : decode (px_cd 16) 22 = .ok (.aload_n 2, 1) := by decide +kernel
theorem e16_23 : decode (px_cd 16) 23 = .ok (.invokevirtual 70, 3) := by decide +kernel
theorem e16_26 : decode (px_cd 16) 26 = .ok (.iconst 1, 1) := by decide +kernel
theorem e16_27 : decode (px_cd 16) 27 = .ok (.ireturn, 1) := by decide +kernel
-- 17 ImageFile_put
theorem e17_0 : decode (px_cd 17) 0 = .ok (.aload_n 0, 1) := by decide +kernel
theorem e17_1 : decode (px_cd 17) 1 = .ok (.getfield 10, 3) := by decide +kernel
theorem e17_4 : decode (px_cd 17) 4 = .ok (.iload_n 1, 1) := by decide +kernel
theorem e17_5 : decode (px_cd 17) 5 = .ok (.invokevirtual 54, 3) := by decide +kernel
theorem e17_8 : decode (px_cd 17) 8 = .ok (.astore 5, 2) := by decide +kernel
theorem e17_10 : decode (px_cd 17) 10 = .ok (.aload 5, 2) := by decide +kernel
theorem e17_12 : decode (px_cd 17) 12 = .ok (.ifnull 28, 3) := by decide +kernel
theorem e17_15 : decode (px_cd 17) 15 = .ok (.aload 5, 2) := by decide +kernel
theorem e17_17 : decode (px_cd 17) 17 = .ok (.getfield 66, 3) := by decide +kernel
theorem e17_20 : decode (px_cd 17) 20 = .ok (.ifCond .eq 20, 3) := by decide +kernel
theorem e17_23 : decode (px_cd 17) 23 = .ok (.aload 5, 2) := by decide +kernel
theorem e17_25 : decode (px_cd 17) 25 = .ok (.getfield 73, 3) := by decide +kernel
theorem e17_28 : decode (px_cd 17) 28 = .ok (.iload_n 2, 1) := by decide +kernel
theorem e17_29 : decode (px_cd 17) 29 = .ok (.lload_n 3, 1) := by decide +kernel
theorem e17_30 : decode (px_cd 17) 30 = .ok (.invokevirtual 76, 3) := by decide +kernel
theorem e17_33 : decode (px_cd 17) 33 = .ok (.ifCond .eq 7, 3) := by decide +kernel
theorem e17_36 : decode (px_cd 17) 36 = .ok (.iconst 1, 1) := by decide +kernel
theorem e17_37 : decode (px_cd 17) 37 = .ok (.goto 4, 3) := by decide +kernel
theorem e17_40 : decode (px_cd 17) 40 = .ok (.iconst 0, 1) := by decide +kernel
theorem e17_41 : decode (px_cd 17) 41 = .ok (.ireturn, 1) := by decide +kernel
-- 21 ImageFile_mark
theorem e21_0 : decode (px_cd 21) 0 = .ok (.iload_n 1, 1) := by decide +kernel
theorem e21_1 : decode (px_cd 21) 1 = .ok (.invokestatic 80, 3) := by decide +kernel
theorem e21_4 : decode (px_cd 21) 4 = .ok (.ifCond .eq 15, 3) := by decide +kernel
theorem e21_7 : decode (px_cd 21) 7 = .ok (.aload_n 0, 1) := by decide +kernel
theorem e21_8 : decode (px_cd 21) 8 = .ok (.getfield 10, 3) := by decide +kernel
theorem e21_11 : decode (px_cd 21) 11 = .ok (.iload_n 1, 1) := by decide +kernel
theorem e21_12 : decode (px_cd 21) 12 = .ok (.invokevirtual 84, 3) := by decide +kernel
theorem e21_15 : decode (px_cd 21) 15 = .ok (.iload_n 2, 1) := by decide +kernel
theorem e21_16 : decode (px_cd 21) 16 = .ok (.if_icmp .ne 5, 3) := by decide +kernel
theorem e21_19 : decode (px_cd 21) 19 = .ok (.iconst 0, 1) := by decide +kernel
theorem e21_20 : decode (px_cd 21) 20 = .ok (.ireturn, 1) := by decide +kernel
theorem e21_21 : decode (px_cd 21) 21 = .ok (.aload_n 0, 1) := by decide +kernel
theorem e21_22 : decode (px_cd 21) 22 = .ok (.getfield 10, 3) := by decide +kernel
theorem e21_25 : decode (px_cd 21) 25 = .ok (.iload_n 1, 1) := by decide +kernel
theorem e21_26 : decode (px_cd 21) 26 = .ok (.invokevirtual 87, 3) := by decide +kernel
theorem e21_29 : decode (px_cd 21) 29 = .ok (.iconst 1, 1) := by decide +kernel
theorem e21_30 : decode (px_cd 21) 30 = .ok (.ireturn, 1) := by decide +kernel
-- 26 ImageFile_write
theorem e26_0 : decode (px_cd 26) 0 = .ok (.aload_n 0, 1) := by decide +kernel
theorem e26_1 : decode (px_cd 26) 1 = .ok (.getfield 10, 3) := by decide +kernel
theorem e26_4 : decode (px_cd 26) 4 = .ok (.invokevirtual 90, 3) := by decide +kernel
theorem e26_7 : decode (px_cd 26) 7 = .ok (.istore_n 1, 1) := by decide +kernel
theorem e26_8 : decode (px_cd 26) 8 = .ok (.iload_n 1, 1) := by decide +kernel
theorem e26_9 : decode (px_cd 26) 9 = .ok (.ifCond .eq 8, 3) := by decide +kernel
theorem e26_12 : decode (px_cd 26) 12 = .ok (.iload_n 1, 1) := by decide +kernel
theorem e26_13 : decode (px_cd 26) 13 = .ok (.ineg, 1) := by decide +kernel
theorem e26_14 : decode (px_cd 26) 14 = .ok (.goto 14, 3) := by decide +kernel
theorem e26_17 : decode (px_cd 26) 17 = .ok (.aload_n 0, 1) := by decide +kernel
theorem e26_18 : decode (px_cd 26) 18 = .ok (.getfield 33, 3) := by decide +kernel
theorem e26_21 : decode (px_cd 26) 21 = .ok (.aload_n 0, 1) := by decide +kernel
theorem e26_22 : decode (px_cd 26) 22 = .ok (.getfield 10, 3) := by decide +kernel
theorem e26_25 : decode (px_cd 26) 25 = .ok (.invokevirtual 94, 3) := by decide +kernel
theorem e26_28 : decode (px_cd 26) 28 = .ok (.ireturn, 1) := by decide +kernel
-- 64 ImageFile_size
theorem e64_0 : decode (px_cd 64) 0 = .ok (.aload_n 0, 1) := by decide +kernel
theorem e64_1 : decode (px_cd 64) 1 = .ok (.getfield 24, 3) := by decide +kernel
theorem e64_4 : decode (px_cd 64) 4 = .ok (.getfield 98, 3) := by decide +kernel
theorem e64_7 : decode (px_cd 64) 7 = .ok (.ireturn, 1) := by decide +kernel
-- 65 ImageFile_byteAt
theorem e65_0 : decode (px_cd 65) 0 = .ok (.aload_n 0, 1) := by decide +kernel
theorem e65_1 : decode (px_cd 65) 1 = .ok (.getfield 24, 3) := by decide +kernel
theorem e65_4 : decode (px_cd 65) 4 = .ok (.iload_n 1, 1) := by decide +kernel
theorem e65_5 : decode (px_cd 65) 5 = .ok (.invokevirtual 101, 3) := by decide +kernel
theorem e65_8 : decode (px_cd 65) 8 = .ok (.ireturn, 1) := by decide +kernel
-- 66 ImageFile_feed
theorem e66_0 : decode (px_cd 66) 0 = .ok (.aload_n 0, 1) := by decide +kernel
theorem e66_1 : decode (px_cd 66) 1 = .ok (.getfield 24, 3) := by decide +kernel
theorem e66_4 : decode (px_cd 66) 4 = .ok (.iload_n 1, 1) := by decide +kernel
theorem e66_5 : decode (px_cd 66) 5 = .ok (.lload_n 2, 1) := by decide +kernel
theorem e66_6 : decode (px_cd 66) 6 = .ok (.invokevirtual 76, 3) := by decide +kernel
theorem e66_9 : decode (px_cd 66) 9 = .ok (.ireturn, 1) := by decide +kernel
-- 67 ImageFile_cut
theorem e67_0 : decode (px_cd 67) 0 = .ok (.aload_n 0, 1) := by decide +kernel
theorem e67_1 : decode (px_cd 67) 1 = .ok (.getfield 24, 3) := by decide +kernel
theorem e67_4 : decode (px_cd 67) 4 = .ok (.iload_n 1, 1) := by decide +kernel
theorem e67_5 : decode (px_cd 67) 5 = .ok (.invokevirtual 105, 3) := by decide +kernel
theorem e67_8 : decode (px_cd 67) 8 = .ok (.ireturn, 1) := by decide +kernel
-- 68 ImageFile_spoil
theorem e68_0 : decode (px_cd 68) 0 = .ok (.aload_n 0, 1) := by decide +kernel
theorem e68_1 : decode (px_cd 68) 1 = .ok (.getfield 24, 3) := by decide +kernel
theorem e68_4 : decode (px_cd 68) 4 = .ok (.iload_n 1, 1) := by decide +kernel
theorem e68_5 : decode (px_cd 68) 5 = .ok (.invokevirtual 101, 3) := by decide +kernel
theorem e68_8 : decode (px_cd 68) 8 = .ok (.istore_n 3, 1) := by decide +kernel
theorem e68_9 : decode (px_cd 68) 9 = .ok (.aload_n 0, 1) := by decide +kernel
theorem e68_10 : decode (px_cd 68) 10 = .ok (.getfield 24, 3) := by decide +kernel
theorem e68_13 : decode (px_cd 68) 13 = .ok (.iload_n 1, 1) := by decide +kernel
theorem e68_14 : decode (px_cd 68) 14 = .ok (.iload_n 2, 1) := by decide +kernel
theorem e68_15 : decode (px_cd 68) 15 = .ok (.invokevirtual 108, 3) := by decide +kernel
theorem e68_18 : decode (px_cd 68) 18 = .ok (.iload_n 3, 1) := by decide +kernel
theorem e68_19 : decode (px_cd 68) 19 = .ok (.ireturn, 1) := by decide +kernel
-- 70 ImageFile_read
theorem e70_0 : decode (px_cd 70) 0 = .ok (.aload_n 0, 1) := by decide +kernel
theorem e70_1 : decode (px_cd 70) 1 = .ok (.getfield 40, 3) := by decide +kernel
theorem e70_4 : decode (px_cd 70) 4 = .ok (.invokevirtual 111, 3) := by decide +kernel
theorem e70_7 : decode (px_cd 70) 7 = .ok (.istore_n 1, 1) := by decide +kernel
theorem e70_8 : decode (px_cd 70) 8 = .ok (.iload_n 1, 1) := by decide +kernel
theorem e70_9 : decode (px_cd 70) 9 = .ok (.ifCond .ne 17, 3) := by decide +kernel
theorem e70_12 : decode (px_cd 70) 12 = .ok (.aload_n 0, 1) := by decide +kernel
theorem e70_13 : decode (px_cd 70) 13 = .ok (.getfield 16, 3) := by decide +kernel
theorem e70_16 : decode (px_cd 70) 16 = .ok (.aload_n 0, 1) := by decide +kernel
theorem e70_17 : decode (px_cd 70) 17 = .ok (.getfield 40, 3) := by decide +kernel
theorem e70_20 : decode (px_cd 70) 20 = .ok (.getfield 114, 3) := by decide +kernel
theorem e70_23 : decode (px_cd 70) 23 = .ok (.invokevirtual 117, 3) := by decide +kernel
theorem e70_26 : decode (px_cd 70) 26 = .ok (.iload_n 1, 1) := by decide +kernel
theorem e70_27 : decode (px_cd 70) 27 = .ok (.ireturn, 1) := by decide +kernel
-- 98 ImageFile_place
theorem e98_0 : decode (px_cd 98) 0 = .ok (.aload_n 0, 1) := by decide +kernel
theorem e98_1 : decode (px_cd 98) 1 = .ok (.getfield 40, 3) := by decide +kernel
theorem e98_4 : decode (px_cd 98) 4 = .ok (.getfield 121, 3) := by decide +kernel
theorem e98_7 : decode (px_cd 98) 7 = .ok (.ireturn, 1) := by decide +kernel
-- 99 ImageFile_keep
theorem e99_0 : decode (px_cd 99) 0 = .ok (.aload_n 0, 1) := by decide +kernel
theorem e99_1 : decode (px_cd 99) 1 = .ok (.getfield 10, 3) := by decide +kernel
theorem e99_4 : decode (px_cd 99) 4 = .ok (.aload_n 0, 1) := by decide +kernel
theorem e99_5 : decode (px_cd 99) 5 = .ok (.getfield 16, 3) := by decide +kernel
theorem e99_8 : decode (px_cd 99) 8 = .ok (.invokevirtual 117, 3) := by decide +kernel
theorem e99_11 : decode (px_cd 99) 11 = .ok (.return_, 1) := by decide +kernel
-- 100 ImageFile_about
theorem e100_0 : decode (px_cd 100) 0 = .ok (.aload_n 0, 1) := by decide +kernel
theorem e100_1 : decode (px_cd 100) 1 = .ok (.getfield 16, 3) := by decide +kernel
theorem e100_4 : decode (px_cd 100) 4 = .ok (.iload_n 1, 1) := by decide +kernel
theorem e100_5 : decode (px_cd 100) 5 = .ok (.invokevirtual 54, 3) := by decide +kernel
theorem e100_8 : decode (px_cd 100) 8 = .ok (.astore_n 3, 1) := by decide +kernel
theorem e100_9 : decode (px_cd 100) 9 = .ok (.aload_n 3, 1) := by decide +kernel
theorem e100_10 : decode (px_cd 100) 10 = .ok (.ifnonnull 5, 3) := by decide +kernel
theorem e100_13 : decode (px_cd 100) 13 = .ok (.iconst (-1), 1) := by decide +kernel
theorem e100_14 : decode (px_cd 100) 14 = .ok (.ireturn, 1) := by decide +kernel
theorem e100_15 : decode (px_cd 100) 15 = .ok (.iload_n 2, 1) := by decide +kernel
theorem e100_16 : decode (px_cd 100) 16 = .ok (.ifCond .ne 16, 3) := by decide +kernel
theorem e100_19 : decode (px_cd 100) 19 = .ok (.aload_n 3, 1) := by decide +kernel
theorem e100_20 : decode (px_cd 100) 20 = .ok (.getfield 66, 3) := by decide +kernel
theorem e100_23 : decode (px_cd 100) 23 = .ok (.ifCond .eq 7, 3) := by decide +kernel
theorem e100_26 : decode (px_cd 100) 26 = .ok (.iconst 1, 1) := by decide +kernel
theorem e100_27 : decode (px_cd 100) 27 = .ok (.goto 4, 3) := by decide +kernel
theorem e100_30 : decode (px_cd 100) 30 = .ok (.iconst 0, 1) := by decide +kernel
theorem e100_31 : decode (px_cd 100) 31 = .ok (.ireturn, 1) := by decide +kernel
theorem e100_32 : decode (px_cd 100) 32 = .ok (.aload_n 3, 1) := by decide +kernel
theorem e100_33 : decode (px_cd 100) 33 = .ok (.getfield 66, 3) := by decide +kernel
theorem e100_36 : decode (px_cd 100) 36 = .ok (.ifCond .eq 11, 3) := by decide +kernel
theorem e100_39 : decode (px_cd 100) 39 = .ok (.aload_n 3, 1) := by decide +kernel
theorem e100_40 : decode (px_cd 100) 40 = .ok (.iload_n 2, 1) := by decide +kernel
theorem e100_41 : decode (px_cd 100) 41 = .ok (.invokevirtual 124, 3) := by decide +kernel
theorem e100_44 : decode (px_cd 100) 44 = .ok (.goto 4, 3) := by decide +kernel
theorem e100_47 : decode (px_cd 100) 47 = .ok (.iconst (-1), 1) := by decide +kernel
theorem e100_48 : decode (px_cd 100) 48 = .ok (.ireturn, 1) := by decide +kernel
-- 102 ImageFile_told
theorem e102_0 : decode (px_cd 102) 0 = .ok (.iload_n 1, 1) := by decide +kernel
theorem e102_1 : decode (px_cd 102) 1 = .ok (.tableswitch 75 0 4 #[35, 43, 51, 59, 67], 35) := by decide +kernel
theorem e102_36 : decode (px_cd 102) 36 = .ok (.aload_n 0, 1) := by decide +kernel
theorem e102_37 : decode (px_cd 102) 37 = .ok (.getfield 16, 3) := by decide +kernel
theorem e102_40 : decode (px_cd 102) 40 = .ok (.getfield 47, 3) := by decide +kernel
theorem e102_43 : decode (px_cd 102) 43 = .ok (.ireturn, 1) := by decide +kernel
theorem e102_44 : decode (px_cd 102) 44 = .ok (.aload_n 0, 1) := by decide +kernel
theorem e102_45 : decode (px_cd 102) 45 = .ok (.getfield 16, 3) := by decide +kernel
theorem e102_48 : decode (px_cd 102) 48 = .ok (.getfield 51, 3) := by decide +kernel
theorem e102_51 : decode (px_cd 102) 51 = .ok (.ireturn, 1) := by decide +kernel
theorem e102_52 : decode (px_cd 102) 52 = .ok (.aload_n 0, 1) := by decide +kernel
theorem e102_53 : decode (px_cd 102) 53 = .ok (.getfield 16, 3) := by decide +kernel
theorem e102_56 : decode (px_cd 102) 56 = .ok (.invokevirtual 127, 3) := by decide +kernel
theorem e102_59 : decode (px_cd 102) 59 = .ok (.ireturn, 1) := by decide +kernel
theorem e102_60 : decode (px_cd 102) 60 = .ok (.aload_n 0, 1) := by decide +kernel
theorem e102_61 : decode (px_cd 102) 61 = .ok (.getfield 16, 3) := by decide +kernel
theorem e102_64 : decode (px_cd 102) 64 = .ok (.invokevirtual 130, 3) := by decide +kernel
theorem e102_67 : decode (px_cd 102) 67 = .ok (.ireturn, 1) := by decide +kernel
theorem e102_68 : decode (px_cd 102) 68 = .ok (.aload_n 0, 1) := by decide +kernel
theorem e102_69 : decode (px_cd 102) 69 = .ok (.getfield 16, 3) := by decide +kernel
theorem e102_72 : decode (px_cd 102) 72 = .ok (.invokevirtual 133, 3) := by decide +kernel
theorem e102_75 : decode (px_cd 102) 75 = .ok (.ireturn, 1) := by decide +kernel
theorem e102_76 : decode (px_cd 102) 76 = .ok (.iconst 0, 1) := by decide +kernel
theorem e102_77 : decode (px_cd 102) 77 = .ok (.ireturn, 1) := by decide +kernel
-- 104 ImageFile_byteIn
theorem e104_0 : decode (px_cd 104) 0 = .ok (.aload_n 0, 1) := by decide +kernel
theorem e104_1 : decode (px_cd 104) 1 = .ok (.getfield 16, 3) := by decide +kernel
theorem e104_4 : decode (px_cd 104) 4 = .ok (.iload_n 1, 1) := by decide +kernel
theorem e104_5 : decode (px_cd 104) 5 = .ok (.invokevirtual 136, 3) := by decide +kernel
theorem e104_8 : decode (px_cd 104) 8 = .ok (.ireturn, 1) := by decide +kernel
-- 109 ImageFile_wordIn
theorem e109_0 : decode (px_cd 109) 0 = .ok (.iconst 0, 1) := by decide +kernel
theorem e109_1 : decode (px_cd 109) 1 = .ok (.istore_n 2, 1) := by decide +kernel
theorem e109_2 : decode (px_cd 109) 2 = .ok (.iconst 0, 1) := by decide +kernel
theorem e109_3 : decode (px_cd 109) 3 = .ok (.istore_n 3, 1) := by decide +kernel
theorem e109_4 : decode (px_cd 109) 4 = .ok (.iload_n 3, 1) := by decide +kernel
theorem e109_5 : decode (px_cd 109) 5 = .ok (.iconst 4, 1) := by decide +kernel
theorem e109_6 : decode (px_cd 109) 6 = .ok (.if_icmp .ge 39, 3) := by decide +kernel
theorem e109_9 : decode (px_cd 109) 9 = .ok (.aload_n 0, 1) := by decide +kernel
theorem e109_10 : decode (px_cd 109) 10 = .ok (.getfield 16, 3) := by decide +kernel
theorem e109_13 : decode (px_cd 109) 13 = .ok (.iload_n 1, 1) := by decide +kernel
theorem e109_14 : decode (px_cd 109) 14 = .ok (.iload_n 3, 1) := by decide +kernel
theorem e109_15 : decode (px_cd 109) 15 = .ok (.iadd, 1) := by decide +kernel
theorem e109_16 : decode (px_cd 109) 16 = .ok (.invokevirtual 136, 3) := by decide +kernel
theorem e109_19 : decode (px_cd 109) 19 = .ok (.istore 4, 2) := by decide +kernel
theorem e109_21 : decode (px_cd 109) 21 = .ok (.iload 4, 2) := by decide +kernel
theorem e109_23 : decode (px_cd 109) 23 = .ok (.iconst (-1), 1) := by decide +kernel
theorem e109_24 : decode (px_cd 109) 24 = .ok (.if_icmp .ne 5, 3) := by decide +kernel
theorem e109_27 : decode (px_cd 109) 27 = .ok (.iconst (-1), 1) := by decide +kernel
theorem e109_28 : decode (px_cd 109) 28 = .ok (.ireturn, 1) := by decide +kernel
theorem e109_29 : decode (px_cd 109) 29 = .ok (.iload_n 2, 1) := by decide +kernel
theorem e109_30 : decode (px_cd 109) 30 = .ok (.iload 4, 2) := by decide +kernel
theorem e109_32 : decode (px_cd 109) 32 = .ok (.bipush 8, 2) := by decide +kernel
theorem e109_34 : decode (px_cd 109) 34 = .ok (.iload_n 3, 1) := by decide +kernel
theorem e109_35 : decode (px_cd 109) 35 = .ok (.imul, 1) := by decide +kernel
theorem e109_36 : decode (px_cd 109) 36 = .ok (.ishl, 1) := by decide +kernel
theorem e109_37 : decode (px_cd 109) 37 = .ok (.ior, 1) := by decide +kernel
theorem e109_38 : decode (px_cd 109) 38 = .ok (.istore_n 2, 1) := by decide +kernel
theorem e109_39 : decode (px_cd 109) 39 = .ok (.iinc 3 1, 3) := by decide +kernel
theorem e109_42 : decode (px_cd 109) 42 = .ok (.goto (-38), 3) := by decide +kernel
theorem e109_45 : decode (px_cd 109) 45 = .ok (.iload_n 2, 1) := by decide +kernel
theorem e109_46 : decode (px_cd 109) 46 = .ok (.ireturn, 1) := by decide +kernel
-- 110 ImageFile_rights
theorem e110_0 : decode (px_cd 110) 0 = .ok (.aload_n 0, 1) := by decide +kernel
theorem e110_1 : decode (px_cd 110) 1 = .ok (.getfield 16, 3) := by decide +kernel
theorem e110_4 : decode (px_cd 110) 4 = .ok (.iload_n 1, 1) := by decide +kernel
theorem e110_5 : decode (px_cd 110) 5 = .ok (.invokevirtual 139, 3) := by decide +kernel
theorem e110_8 : decode (px_cd 110) 8 = .ok (.astore_n 2, 1) := by decide +kernel
theorem e110_9 : decode (px_cd 110) 9 = .ok (.aload_n 2, 1) := by decide +kernel
theorem e110_10 : decode (px_cd 110) 10 = .ok (.ifnonnull 7, 3) := by decide +kernel
theorem e110_13 : decode (px_cd 110) 13 = .ok (.iconst 0, 1) := by decide +kernel
theorem e110_14 : decode (px_cd 110) 14 = .ok (.goto 7, 3) := by decide +kernel
theorem e110_17 : decode (px_cd 110) 17 = .ok (.aload_n 2, 1) := by decide +kernel
theorem e110_18 : decode (px_cd 110) 18 = .ok (.getfield 142, 3) := by decide +kernel
theorem e110_21 : decode (px_cd 110) 21 = .ok (.ireturn, 1) := by decide +kernel
-- 111 ImageFile_marked
theorem e111_0 : decode (px_cd 111) 0 = .ok (.aload_n 0, 1) := by decide +kernel
theorem e111_1 : decode (px_cd 111) 1 = .ok (.getfield 16, 3) := by decide +kernel
theorem e111_4 : decode (px_cd 111) 4 = .ok (.iload_n 1, 1) := by decide +kernel
theorem e111_5 : decode (px_cd 111) 5 = .ok (.invokevirtual 145, 3) := by decide +kernel
theorem e111_8 : decode (px_cd 111) 8 = .ok (.istore_n 2, 1) := by decide +kernel
theorem e111_9 : decode (px_cd 111) 9 = .ok (.aload_n 0, 1) := by decide +kernel
theorem e111_10 : decode (px_cd 111) 10 = .ok (.getfield 16, 3) := by decide +kernel
theorem e111_13 : decode (px_cd 111) 13 = .ok (.iload_n 2, 1) := by decide +kernel
theorem e111_14 : decode (px_cd 111) 14 = .ok (.invokevirtual 84, 3) := by decide +kernel
theorem e111_17 : decode (px_cd 111) 17 = .ok (.ifCond .eq 14, 3) := by decide +kernel
theorem e111_20 : decode (px_cd 111) 20 = .ok (.aload_n 0, 1) := by decide +kernel
theorem e111_21 : decode (px_cd 111) 21 = .ok (.getfield 16, 3) := by decide +kernel
theorem e111_24 : decode (px_cd 111) 24 = .ok (.iload_n 2, 1) := by decide +kernel
theorem e111_25 : decode (px_cd 111) 25 = .ok (.invokevirtual 148, 3) := by decide +kernel
theorem e111_28 : decode (px_cd 111) 28 = .ok (.goto 4, 3) := by decide +kernel
theorem e111_31 : decode (px_cd 111) 31 = .ok (.iconst 0, 1) := by decide +kernel
theorem e111_32 : decode (px_cd 111) 32 = .ok (.ireturn, 1) := by decide +kernel
-- 112 ImageFile_markBelow
theorem e112_0 : decode (px_cd 112) 0 = .ok (.aload_n 0, 1) := by decide +kernel
theorem e112_1 : decode (px_cd 112) 1 = .ok (.getfield 16, 3) := by decide +kernel
theorem e112_4 : decode (px_cd 112) 4 = .ok (.iload_n 1, 1) := by decide +kernel
theorem e112_5 : decode (px_cd 112) 5 = .ok (.invokevirtual 151, 3) := by decide +kernel
theorem e112_8 : decode (px_cd 112) 8 = .ok (.ireturn, 1) := by decide +kernel
