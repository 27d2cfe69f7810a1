/-! printed by wip/whole/gen3.py: what stands at each place of a method, and what the tables say there -/
-- 42 Layout_upToFour
theorem e42_0 : decode (px_cd 42) 0 = .ok (.iload_n 0, 1) := by decide +kernel
theorem e42_1 : decode (px_cd 42) 1 = .ok (.iconst 3, 1) := by decide +kernel
theorem e42_2 : decode (px_cd 42) 2 = .ok (.iadd, 1) := by decide +kernel
theorem e42_3 : decode (px_cd 42) 3 = .ok (.bipush (-4), 2) := by decide +kernel
theorem e42_5 : decode (px_cd 42) 5 = .ok (.iand, 1) := by decide +kernel
theorem e42_6 : decode (px_cd 42) 6 = .ok (.ireturn, 1) := by decide +kernel
-- 43 Layout_noteLength
theorem e43_0 : decode (px_cd 43) 0 = .ok (.bipush 28, 2) := by decide +kernel
theorem e43_2 : decode (px_cd 43) 2 = .ok (.aload_n 0, 1) := by decide +kernel
theorem e43_3 : decode (px_cd 43) 3 = .ok (.invokevirtual 9, 3) := by decide +kernel
theorem e43_6 : decode (px_cd 43) 6 = .ok (.invokestatic 15, 3) := by decide +kernel
theorem e43_9 : decode (px_cd 43) 9 = .ok (.iadd, 1) := by decide +kernel
theorem e43_10 : decode (px_cd 43) 10 = .ok (.ireturn, 1) := by decide +kernel
