/-! printed by wip/whole/gen3.py: the tables, row by row -/
theorem on_0 : px_on 0 = 7 := rfl
theorem mL_0 : px_mL 0 = 1 := rfl
theorem rt_0 : px_rt 0 = none := rfl
theorem dp_0 : px_dp 0 = 5 := rfl
theorem lc_0 : px_lc 0 = 104 := rfl
theorem nr_0 : px_nr 0 = true := rfl
theorem np_0 : px_np 0 = 0 := rfl
theorem kw_0 : (px_kw 0).1 = 2 := rfl
theorem yn_0 : (px_yn 0).name = "<init>" := rfl
theorem ltM_0 : 0 < px_nM := by decide
theorem fc_0_3 : px_fitc 0 3 = true := by decide +kernel
theorem fc_0_1 : px_fitc 0 1 = true := by decide +kernel
theorem fc_0_5 : px_fitc 0 5 = true := by decide +kernel
theorem fc_0_4 : px_fitc 0 4 = true := by decide +kernel
theorem on_1 : px_on 1 = 1 := rfl
theorem mL_1 : px_mL 1 = 2 := rfl
theorem rt_1 : px_rt 1 = none := rfl
theorem dp_1 : px_dp 1 = 3 := rfl
theorem lc_1 : px_lc 1 = 62 := rfl
theorem nr_1 : px_nr 1 = true := rfl
theorem np_1 : px_np 1 = 0 := rfl
theorem kw_1 : (px_kw 1).1 = 2 := rfl
theorem yn_1 : (px_yn 1).name = "<init>" := rfl
theorem ltM_1 : 1 < px_nM := by decide
theorem fc_1_2 : px_fitc 1 2 = true := by decide +kernel
theorem on_2 : px_on 2 = 4 := rfl
theorem mL_2 : px_mL 2 = 2 := rfl
theorem rt_2 : px_rt 2 = none := rfl
theorem dp_2 : px_dp 2 = 2 := rfl
theorem lc_2 : px_lc 2 = 41 := rfl
theorem nr_2 : px_nr 2 = true := rfl
theorem np_2 : px_np 2 = 1 := rfl
theorem kw_2 : (px_kw 2).1 = 2 := rfl
theorem yn_2 : (px_yn 2).name = "<init>" := rfl
theorem ltM_2 : 2 < px_nM := by decide
theorem fc_2_3 : px_fitc 2 3 = true := by decide +kernel
theorem on_3 : px_on 3 = 0 := rfl
theorem mL_3 : px_mL 3 = 2 := rfl
theorem rt_3 : px_rt 3 = none := rfl
theorem dp_3 : px_dp 3 = 1 := rfl
theorem lc_3 : px_lc 3 = 20 := rfl
theorem nr_3 : px_nr 3 = true := rfl
theorem np_3 : px_np 3 = 1 := rfl
theorem kw_3 : (px_kw 3).1 = 2 := rfl
theorem yn_3 : (px_yn 3).name = "<init>" := rfl
theorem ltM_3 : 3 < px_nM := by decide
theorem on_4 : px_on 4 = 6 := rfl
theorem mL_4 : px_mL 4 = 2 := rfl
theorem rt_4 : px_rt 4 = none := rfl
theorem dp_4 : px_dp 4 = 1 := rfl
theorem lc_4 : px_lc 4 = 20 := rfl
theorem nr_4 : px_nr 4 = true := rfl
theorem np_4 : px_np 4 = 1 := rfl
theorem kw_4 : (px_kw 4).1 = 2 := rfl
theorem yn_4 : (px_yn 4).name = "<init>" := rfl
theorem ltM_4 : 4 < px_nM := by decide
theorem on_5 : px_on 5 = 3 := rfl
theorem mL_5 : px_mL 5 = 2 := rfl
theorem rt_5 : px_rt 5 = none := rfl
theorem dp_5 : px_dp 5 = 4 := rfl
theorem lc_5 : px_lc 5 = 83 := rfl
theorem nr_5 : px_nr 5 = true := rfl
theorem np_5 : px_np 5 = 1 := rfl
theorem kw_5 : (px_kw 5).1 = 2 := rfl
theorem yn_5 : (px_yn 5).name = "<init>" := rfl
theorem ltM_5 : 5 < px_nM := by decide
theorem fc_5_1 : px_fitc 5 1 = true := by decide +kernel
theorem on_6 : px_on 6 = 7 := rfl
theorem mL_6 : px_mL 6 = 1 := rfl
theorem rt_6 : px_rt 6 = none := rfl
theorem dp_6 : px_dp 6 = 3 := rfl
theorem lc_6 : px_lc 6 = 65 := rfl
theorem nr_6 : px_nr 6 = true := rfl
theorem np_6 : px_np 6 = 0 := rfl
theorem kw_6 : (px_kw 6).1 = 1 := rfl
theorem yn_6 : (px_yn 6).name = "clear" := rfl
theorem ltM_6 : 6 < px_nM := by decide
theorem fc_6_7 : px_fitc 6 7 = true := by decide +kernel
theorem on_7 : px_on 7 = 1 := rfl
theorem mL_7 : px_mL 7 = 5 := rfl
theorem rt_7 : px_rt 7 = none := rfl
theorem dp_7 : px_dp 7 = 2 := rfl
theorem lc_7 : px_lc 7 = 41 := rfl
theorem nr_7 : px_nr 7 = true := rfl
theorem np_7 : px_np 7 = 0 := rfl
theorem kw_7 : (px_kw 7).1 = 1 := rfl
theorem yn_7 : (px_yn 7).name = "becomeEmpty" := rfl
theorem ltM_7 : 7 < px_nM := by decide
theorem fc_7_8 : px_fitc 7 8 = true := by decide +kernel
theorem fc_7_10 : px_fitc 7 10 = true := by decide +kernel
theorem on_8 : px_on 8 = 4 := rfl
theorem mL_8 : px_mL 8 = 1 := rfl
theorem rt_8 : px_rt 8 = none := rfl
theorem dp_8 : px_dp 8 = 1 := rfl
theorem lc_8 : px_lc 8 = 21 := rfl
theorem nr_8 : px_nr 8 = true := rfl
theorem np_8 : px_np 8 = 0 := rfl
theorem kw_8 : (px_kw 8).1 = 1 := rfl
theorem yn_8 : (px_yn 8).name = "leave" := rfl
theorem ltM_8 : 8 < px_nM := by decide
theorem fc_8_9 : px_fitc 8 9 = true := by decide +kernel
theorem on_9 : px_on 9 = 0 := rfl
theorem mL_9 : px_mL 9 = 2 := rfl
theorem rt_9 : px_rt 9 = some FieldType.boolean := rfl
theorem dp_9 : px_dp 9 = 0 := rfl
theorem lc_9 : px_lc 9 = 0 := rfl
theorem nr_9 : px_nr 9 = true := rfl
theorem np_9 : px_np 9 = 1 := rfl
theorem kw_9 : (px_kw 9).1 = 1 := rfl
theorem yn_9 : (px_yn 9).name = "shorten" := rfl
theorem ltM_9 : 9 < px_nM := by decide
theorem on_10 : px_on 10 = 9 := rfl
theorem mL_10 : px_mL 10 = 4 := rfl
theorem rt_10 : px_rt 10 = none := rfl
theorem dp_10 : px_dp 10 = 0 := rfl
theorem lc_10 : px_lc 10 = 0 := rfl
theorem nr_10 : px_nr 10 = true := rfl
theorem np_10 : px_np 10 = 2 := rfl
theorem kw_10 : (px_kw 10).1 = 0 := rfl
theorem yn_10 : (px_yn 10).name = "fill" := rfl
theorem ltM_10 : 10 < px_nM := by decide
theorem on_11 : px_on 11 = 7 := rfl
theorem mL_11 : px_mL 11 = 2 := rfl
theorem rt_11 : px_rt 11 = none := rfl
theorem dp_11 : px_dp 11 = 0 := rfl
theorem lc_11 : px_lc 11 = 0 := rfl
theorem nr_11 : px_nr 11 = true := rfl
theorem np_11 : px_np 11 = 1 := rfl
theorem kw_11 : (px_kw 11).1 = 1 := rfl
theorem yn_11 : (px_yn 11).name = "entry" := rfl
theorem ltM_11 : 11 < px_nM := by decide
theorem on_12 : px_on 12 = 7 := rfl
theorem mL_12 : px_mL 12 = 2 := rfl
theorem rt_12 : px_rt 12 = some FieldType.boolean := rfl
theorem dp_12 : px_dp 12 = 0 := rfl
theorem lc_12 : px_lc 12 = 0 := rfl
theorem nr_12 : px_nr 12 = true := rfl
theorem np_12 : px_np 12 = 1 := rfl
theorem kw_12 : (px_kw 12).1 = 1 := rfl
theorem yn_12 : (px_yn 12).name = "page" := rfl
theorem ltM_12 : 12 < px_nM := by decide
theorem on_13 : px_on 13 = 7 := rfl
theorem mL_13 : px_mL 13 = 5 := rfl
theorem rt_13 : px_rt 13 = some FieldType.boolean := rfl
theorem dp_13 : px_dp 13 = 1 := rfl
theorem lc_13 : px_lc 13 = 22 := rfl
theorem nr_13 : px_nr 13 = true := rfl
theorem np_13 : px_np 13 = 3 := rfl
theorem kw_13 : (px_kw 13).1 = 1 := rfl
theorem yn_13 : (px_yn 13).name = "segment" := rfl
theorem ltM_13 : 13 < px_nM := by decide
theorem fc_13_14 : px_fitc 13 14 = true := by decide +kernel
theorem fc_13_15 : px_fitc 13 15 = true := by decide +kernel
theorem on_14 : px_on 14 = 1 := rfl
theorem mL_14 : px_mL 14 = 2 := rfl
theorem rt_14 : px_rt 14 = some (FieldType.object "ImageFile$Segment") := rfl
theorem dp_14 : px_dp 14 = 0 := rfl
theorem lc_14 : px_lc 14 = 0 := rfl
theorem nr_14 : px_nr 14 = true := rfl
theorem np_14 : px_np 14 = 1 := rfl
theorem kw_14 : (px_kw 14).1 = 1 := rfl
theorem yn_14 : (px_yn 14).name = "segmentOrNull" := rfl
theorem ltM_14 : 14 < px_nM := by decide
theorem on_15 : px_on 15 = 4 := rfl
theorem mL_15 : px_mL 15 = 3 := rfl
theorem rt_15 : px_rt 15 = none := rfl
theorem dp_15 : px_dp 15 = 0 := rfl
theorem lc_15 : px_lc 15 = 0 := rfl
theorem nr_15 : px_nr 15 = true := rfl
theorem np_15 : px_np 15 = 2 := rfl
theorem kw_15 : (px_kw 15).1 = 1 := rfl
theorem yn_15 : (px_yn 15).name = "lieAt" := rfl
theorem ltM_15 : 15 < px_nM := by decide
theorem on_16 : px_on 16 = 7 := rfl
theorem mL_16 : px_mL 16 = 3 := rfl
theorem rt_16 : px_rt 16 = some FieldType.boolean := rfl
theorem dp_16 : px_dp 16 = 2 := rfl
theorem lc_16 : px_lc 16 = 41 := rfl
theorem nr_16 : px_nr 16 = true := rfl
theorem np_16 : px_np 16 = 1 := rfl
theorem kw_16 : (px_kw 16).1 = 1 := rfl
theorem yn_16 : (px_yn 16).name = "drop" := rfl
theorem ltM_16 : 16 < px_nM := by decide
theorem fc_16_14 : px_fitc 16 14 = true := by decide +kernel
theorem fc_16_8 : px_fitc 16 8 = true := by decide +kernel
theorem on_17 : px_on 17 = 7 := rfl
theorem mL_17 : px_mL 17 = 6 := rfl
theorem rt_17 : px_rt 17 = some FieldType.boolean := rfl
theorem dp_17 : px_dp 17 = 4 := rfl
theorem lc_17 : px_lc 17 = 94 := rfl
theorem nr_17 : px_nr 17 = false := rfl
theorem np_17 : px_np 17 = 3 := rfl
theorem kw_17 : (px_kw 17).1 = 1 := rfl
theorem yn_17 : (px_yn 17).name = "put" := rfl
theorem ltM_17 : 17 < px_nM := by decide
theorem fc_17_18 : px_fitc 17 18 = true := by decide +kernel
theorem fc_17_14 : px_fitc 17 14 = true := by decide +kernel
theorem on_18 : px_on 18 = 0 := rfl
theorem mL_18 : px_mL 18 = 5 := rfl
theorem rt_18 : px_rt 18 = some FieldType.boolean := rfl
theorem dp_18 : px_dp 18 = 3 := rfl
theorem lc_18 : px_lc 18 = 70 := rfl
theorem nr_18 : px_nr 18 = false := rfl
theorem np_18 : px_np 18 = 2 := rfl
theorem kw_18 : (px_kw 18).1 = 1 := rfl
theorem yn_18 : (px_yn 18).name = "addHighest" := rfl
theorem ltM_18 : 18 < px_nM := by decide
theorem fc_18_19 : px_fitc 18 19 = true := by decide +kernel
theorem on_19 : px_on 19 = 0 := rfl
theorem mL_19 : px_mL 19 = 3 := rfl
theorem rt_19 : px_rt 19 = some FieldType.boolean := rfl
theorem dp_19 : px_dp 19 = 2 := rfl
theorem lc_19 : px_lc 19 = 48 := rfl
theorem nr_19 : px_nr 19 = false := rfl
theorem np_19 : px_np 19 = 1 := rfl
theorem kw_19 : (px_kw 19).1 = 1 := rfl
theorem yn_19 : (px_yn 19).name = "makeRoom" := rfl
theorem ltM_19 : 19 < px_nM := by decide
theorem fc_19_20 : px_fitc 19 20 = true := by decide +kernel
theorem on_20 : px_on 20 = 9 := rfl
theorem mL_20 : px_mL 20 = 3 := rfl
theorem rt_20 : px_rt 20 = some (FieldType.array FieldType.byte) := rfl
theorem dp_20 : px_dp 20 = 1 := rfl
theorem lc_20 : px_lc 20 = 26 := rfl
theorem nr_20 : px_nr 20 = true := rfl
theorem np_20 : px_np 20 = 2 := rfl
theorem kw_20 : (px_kw 20).1 = 0 := rfl
theorem yn_20 : (px_yn 20).name = "copyOf" := rfl
theorem ltM_20 : 20 < px_nM := by decide
theorem on_21 : px_on 21 = 7 := rfl
theorem mL_21 : px_mL 21 = 3 := rfl
theorem rt_21 : px_rt 21 = some FieldType.boolean := rfl
theorem dp_21 : px_dp 21 = 2 := rfl
theorem lc_21 : px_lc 21 = 41 := rfl
theorem nr_21 : px_nr 21 = true := rfl
theorem np_21 : px_np 21 = 2 := rfl
theorem kw_21 : (px_kw 21).1 = 1 := rfl
theorem yn_21 : (px_yn 21).name = "mark" := rfl
theorem ltM_21 : 21 < px_nM := by decide
theorem fc_21_22 : px_fitc 21 22 = true := by decide +kernel
theorem fc_21_23 : px_fitc 21 23 = true := by decide +kernel
theorem fc_21_25 : px_fitc 21 25 = true := by decide +kernel
theorem on_22 : px_on 22 = 1 := rfl
theorem mL_22 : px_mL 22 = 1 := rfl
theorem rt_22 : px_rt 22 = some FieldType.boolean := rfl
theorem dp_22 : px_dp 22 = 0 := rfl
theorem lc_22 : px_lc 22 = 0 := rfl
theorem nr_22 : px_nr 22 = true := rfl
theorem np_22 : px_np 22 = 1 := rfl
theorem kw_22 : (px_kw 22).1 = 0 := rfl
theorem yn_22 : (px_yn 22).name = "canHaveMark" := rfl
theorem ltM_22 : 22 < px_nM := by decide
theorem on_23 : px_on 23 = 1 := rfl
theorem mL_23 : px_mL 23 = 2 := rfl
theorem rt_23 : px_rt 23 = some FieldType.boolean := rfl
theorem dp_23 : px_dp 23 = 1 := rfl
theorem lc_23 : px_lc 23 = 20 := rfl
theorem nr_23 : px_nr 23 = true := rfl
theorem np_23 : px_np 23 = 1 := rfl
theorem kw_23 : (px_kw 23).1 = 1 := rfl
theorem yn_23 : (px_yn 23).name = "hasMark" := rfl
theorem ltM_23 : 23 < px_nM := by decide
theorem fc_23_22 : px_fitc 23 22 = true := by decide +kernel
theorem fc_23_24 : px_fitc 23 24 = true := by decide +kernel
theorem on_24 : px_on 24 = 1 := rfl
theorem mL_24 : px_mL 24 = 1 := rfl
theorem rt_24 : px_rt 24 = some FieldType.int := rfl
theorem dp_24 : px_dp 24 = 0 := rfl
theorem lc_24 : px_lc 24 = 0 := rfl
theorem nr_24 : px_nr 24 = true := rfl
theorem np_24 : px_np 24 = 1 := rfl
theorem kw_24 : (px_kw 24).1 = 0 := rfl
theorem yn_24 : (px_yn 24).name = "markBit" := rfl
theorem ltM_24 : 24 < px_nM := by decide
theorem on_25 : px_on 25 = 1 := rfl
theorem mL_25 : px_mL 25 = 2 := rfl
theorem rt_25 : px_rt 25 = none := rfl
theorem dp_25 : px_dp 25 = 1 := rfl
theorem lc_25 : px_lc 25 = 20 := rfl
theorem nr_25 : px_nr 25 = true := rfl
theorem np_25 : px_np 25 = 1 := rfl
theorem kw_25 : (px_kw 25).1 = 1 := rfl
theorem yn_25 : (px_yn 25).name = "turnMark" := rfl
theorem ltM_25 : 25 < px_nM := by decide
theorem fc_25_22 : px_fitc 25 22 = true := by decide +kernel
theorem fc_25_24 : px_fitc 25 24 = true := by decide +kernel
theorem on_26 : px_on 26 = 7 := rfl
theorem mL_26 : px_mL 26 = 2 := rfl
theorem rt_26 : px_rt 26 = some FieldType.int := rfl
theorem dp_26 : px_dp 26 = 8 := rfl
theorem lc_26 : px_lc 26 = 183 := rfl
theorem nr_26 : px_nr 26 = false := rfl
theorem np_26 : px_np 26 = 0 := rfl
theorem kw_26 : (px_kw 26).1 = 1 := rfl
theorem yn_26 : (px_yn 26).name = "write" := rfl
theorem ltM_26 : 26 < px_nM := by decide
theorem fc_26_27 : px_fitc 26 27 = true := by decide +kernel
theorem fc_26_40 : px_fitc 26 40 = true := by decide +kernel
theorem on_27 : px_on 27 = 1 := rfl
theorem mL_27 : px_mL 27 = 1 := rfl
theorem rt_27 : px_rt 27 = some FieldType.int := rfl
theorem dp_27 : px_dp 27 = 4 := rfl
theorem lc_27 : px_lc 27 = 86 := rfl
theorem nr_27 : px_nr 27 = true := rfl
theorem np_27 : px_np 27 = 0 := rfl
theorem kw_27 : (px_kw 27).1 = 1 := rfl
theorem yn_27 : (px_yn 27).name = "faultOfGood" := rfl
theorem ltM_27 : 27 < px_nM := by decide
theorem fc_27_38 : px_fitc 27 38 = true := by decide +kernel
theorem fc_27_34 : px_fitc 27 34 = true := by decide +kernel
theorem fc_27_29 : px_fitc 27 29 = true := by decide +kernel
theorem fc_27_32 : px_fitc 27 32 = true := by decide +kernel
theorem fc_27_28 : px_fitc 27 28 = true := by decide +kernel
theorem on_28 : px_on 28 = 1 := rfl
theorem mL_28 : px_mL 28 = 1 := rfl
theorem rt_28 : px_rt 28 = some FieldType.boolean := rfl
theorem dp_28 : px_dp 28 = 0 := rfl
theorem lc_28 : px_lc 28 = 0 := rfl
theorem nr_28 : px_nr 28 = true := rfl
theorem np_28 : px_np 28 = 0 := rfl
theorem kw_28 : (px_kw 28).1 = 1 := rfl
theorem yn_28 : (px_yn 28).name = "hasWholeText" := rfl
theorem ltM_28 : 28 < px_nM := by decide
theorem on_29 : px_on 29 = 1 := rfl
theorem mL_29 : px_mL 29 = 2 := rfl
theorem rt_29 : px_rt 29 = some FieldType.int := rfl
theorem dp_29 : px_dp 29 = 2 := rfl
theorem lc_29 : px_lc 29 = 40 := rfl
theorem nr_29 : px_nr 29 = true := rfl
theorem np_29 : px_np 29 = 0 := rfl
theorem kw_29 : (px_kw 29).1 = 1 := rfl
theorem yn_29 : (px_yn 29).name = "firstBeyondMemory" := rfl
theorem ltM_29 : 29 < px_nM := by decide
theorem fc_29_30 : px_fitc 29 30 = true := by decide +kernel
theorem on_30 : px_on 30 = 4 := rfl
theorem mL_30 : px_mL 30 = 1 := rfl
theorem rt_30 : px_rt 30 = some FieldType.int := rfl
theorem dp_30 : px_dp 30 = 1 := rfl
theorem lc_30 : px_lc 30 = 20 := rfl
theorem nr_30 : px_nr 30 = true := rfl
theorem np_30 : px_np 30 = 0 := rfl
theorem kw_30 : (px_kw 30).1 = 1 := rfl
theorem yn_30 : (px_yn 30).name = "memoryEnd" := rfl
theorem ltM_30 : 30 < px_nM := by decide
theorem fc_30_31 : px_fitc 30 31 = true := by decide +kernel
theorem on_31 : px_on 31 = 4 := rfl
theorem mL_31 : px_mL 31 = 1 := rfl
theorem rt_31 : px_rt 31 = some FieldType.int := rfl
theorem dp_31 : px_dp 31 = 0 := rfl
theorem lc_31 : px_lc 31 = 0 := rfl
theorem nr_31 : px_nr 31 = true := rfl
theorem np_31 : px_np 31 = 0 := rfl
theorem kw_31 : (px_kw 31).1 = 1 := rfl
theorem yn_31 : (px_yn 31).name = "memorySize" := rfl
theorem ltM_31 : 31 < px_nM := by decide
theorem on_32 : px_on 32 = 1 := rfl
theorem mL_32 : px_mL 32 = 2 := rfl
theorem rt_32 : px_rt 32 = some FieldType.int := rfl
theorem dp_32 : px_dp 32 = 3 := rfl
theorem lc_32 : px_lc 32 = 61 := rfl
theorem nr_32 : px_nr 32 = true := rfl
theorem np_32 : px_np 32 = 0 := rfl
theorem kw_32 : (px_kw 32).1 = 1 := rfl
theorem yn_32 : (px_yn 32).name = "firstMeetingPair" := rfl
theorem ltM_32 : 32 < px_nM := by decide
theorem fc_32_33 : px_fitc 32 33 = true := by decide +kernel
theorem on_33 : px_on 33 = 4 := rfl
theorem mL_33 : px_mL 33 = 2 := rfl
theorem rt_33 : px_rt 33 = some FieldType.boolean := rfl
theorem dp_33 : px_dp 33 = 2 := rfl
theorem lc_33 : px_lc 33 = 40 := rfl
theorem nr_33 : px_nr 33 = true := rfl
theorem np_33 : px_np 33 = 1 := rfl
theorem kw_33 : (px_kw 33).1 = 1 := rfl
theorem yn_33 : (px_yn 33).name = "meets" := rfl
theorem ltM_33 : 33 < px_nM := by decide
theorem fc_33_30 : px_fitc 33 30 = true := by decide +kernel
theorem on_34 : px_on 34 = 1 := rfl
theorem mL_34 : px_mL 34 = 2 := rfl
theorem rt_34 : px_rt 34 = some FieldType.int := rfl
theorem dp_34 : px_dp 34 = 3 := rfl
theorem lc_34 : px_lc 34 = 65 := rfl
theorem nr_34 : px_nr 34 = true := rfl
theorem np_34 : px_np 34 = 0 := rfl
theorem kw_34 : (px_kw 34).1 = 1 := rfl
theorem yn_34 : (px_yn 34).name = "firstBadMark" := rfl
theorem ltM_34 : 34 < px_nM := by decide
theorem fc_34_23 : px_fitc 34 23 = true := by decide +kernel
theorem fc_34_35 : px_fitc 34 35 = true := by decide +kernel
theorem on_35 : px_on 35 = 1 := rfl
theorem mL_35 : px_mL 35 = 4 := rfl
theorem rt_35 : px_rt 35 = some FieldType.boolean := rfl
theorem dp_35 : px_dp 35 = 2 := rfl
theorem lc_35 : px_lc 35 = 42 := rfl
theorem nr_35 : px_nr 35 = true := rfl
theorem np_35 : px_np 35 = 1 := rfl
theorem kw_35 : (px_kw 35).1 = 1 := rfl
theorem yn_35 : (px_yn 35).name = "instructionFits" := rfl
theorem ltM_35 : 35 < px_nM := by decide
theorem fc_35_23 : px_fitc 35 23 = true := by decide +kernel
theorem fc_35_36 : px_fitc 35 36 = true := by decide +kernel
theorem on_36 : px_on 36 = 1 := rfl
theorem mL_36 : px_mL 36 = 2 := rfl
theorem rt_36 : px_rt 36 = some FieldType.int := rfl
theorem dp_36 : px_dp 36 = 1 := rfl
theorem lc_36 : px_lc 36 = 21 := rfl
theorem nr_36 : px_nr 36 = true := rfl
theorem np_36 : px_np 36 = 1 := rfl
theorem kw_36 : (px_kw 36).1 = 1 := rfl
theorem yn_36 : (px_yn 36).name = "instructionLength" := rfl
theorem ltM_36 : 36 < px_nM := by decide
theorem fc_36_37 : px_fitc 36 37 = true := by decide +kernel
theorem on_37 : px_on 37 = 0 := rfl
theorem mL_37 : px_mL 37 = 2 := rfl
theorem rt_37 : px_rt 37 = some FieldType.int := rfl
theorem dp_37 : px_dp 37 = 0 := rfl
theorem lc_37 : px_lc 37 = 0 := rfl
theorem nr_37 : px_nr 37 = true := rfl
theorem np_37 : px_np 37 = 1 := rfl
theorem kw_37 : (px_kw 37).1 = 1 := rfl
theorem yn_37 : (px_yn 37).name = "at" := rfl
theorem ltM_37 : 37 < px_nM := by decide
theorem on_38 : px_on 38 = 1 := rfl
theorem mL_38 : px_mL 38 = 1 := rfl
theorem rt_38 : px_rt 38 = some FieldType.boolean := rfl
theorem dp_38 : px_dp 38 = 2 := rfl
theorem lc_38 : px_lc 38 = 41 := rfl
theorem nr_38 : px_nr 38 = true := rfl
theorem np_38 : px_np 38 = 0 := rfl
theorem kw_38 : (px_kw 38).1 = 1 := rfl
theorem yn_38 : (px_yn 38).name = "entryHasMark" := rfl
theorem ltM_38 : 38 < px_nM := by decide
theorem fc_38_23 : px_fitc 38 23 = true := by decide +kernel
theorem fc_38_39 : px_fitc 38 39 = true := by decide +kernel
theorem on_39 : px_on 39 = 1 := rfl
theorem mL_39 : px_mL 39 = 2 := rfl
theorem rt_39 : px_rt 39 = some FieldType.int := rfl
theorem dp_39 : px_dp 39 = 0 := rfl
theorem lc_39 : px_lc 39 = 0 := rfl
theorem nr_39 : px_nr 39 = true := rfl
theorem np_39 : px_np 39 = 1 := rfl
theorem kw_39 : (px_kw 39).1 = 1 := rfl
theorem yn_39 : (px_yn 39).name = "offsetOf" := rfl
theorem ltM_39 : 39 < px_nM := by decide
theorem on_40 : px_on 40 = 6 := rfl
theorem mL_40 : px_mL 40 = 3 := rfl
theorem rt_40 : px_rt 40 = some FieldType.int := rfl
theorem dp_40 : px_dp 40 = 7 := rfl
theorem lc_40 : px_lc 40 = 161 := rfl
theorem nr_40 : px_nr 40 = false := rfl
theorem np_40 : px_np 40 = 1 := rfl
theorem kw_40 : (px_kw 40).1 = 1 := rfl
theorem yn_40 : (px_yn 40).name = "writeOut" := rfl
theorem ltM_40 : 40 < px_nM := by decide
theorem fc_40_52 : px_fitc 40 52 = true := by decide +kernel
theorem fc_40_9 : px_fitc 40 9 = true := by decide +kernel
theorem fc_40_43 : px_fitc 40 43 = true := by decide +kernel
theorem fc_40_45 : px_fitc 40 45 = true := by decide +kernel
theorem fc_40_58 : px_fitc 40 58 = true := by decide +kernel
theorem fc_40_56 : px_fitc 40 56 = true := by decide +kernel
theorem fc_40_53 : px_fitc 40 53 = true := by decide +kernel
theorem fc_40_41 : px_fitc 40 41 = true := by decide +kernel
theorem on_41 : px_on 41 = 6 := rfl
theorem mL_41 : px_mL 41 = 6 := rfl
theorem rt_41 : px_rt 41 = none := rfl
theorem dp_41 : px_dp 41 = 1 := rfl
theorem lc_41 : px_lc 41 = 20 := rfl
theorem nr_41 : px_nr 41 = true := rfl
theorem np_41 : px_np 41 = 1 := rfl
theorem kw_41 : (px_kw 41).1 = 1 := rfl
theorem yn_41 : (px_yn 41).name = "layOut" := rfl
theorem ltM_41 : 41 < px_nM := by decide
theorem fc_41_42 : px_fitc 41 42 = true := by decide +kernel
theorem on_42 : px_on 42 = 2 := rfl
theorem mL_42 : px_mL 42 = 1 := rfl
theorem rt_42 : px_rt 42 = some FieldType.int := rfl
theorem dp_42 : px_dp 42 = 0 := rfl
theorem lc_42 : px_lc 42 = 0 := rfl
theorem nr_42 : px_nr 42 = true := rfl
theorem np_42 : px_np 42 = 1 := rfl
theorem kw_42 : (px_kw 42).1 = 0 := rfl
theorem yn_42 : (px_yn 42).name = "upToFour" := rfl
theorem ltM_42 : 42 < px_nM := by decide
theorem on_43 : px_on 43 = 2 := rfl
theorem mL_43 : px_mL 43 = 1 := rfl
theorem rt_43 : px_rt 43 = some FieldType.int := rfl
theorem dp_43 : px_dp 43 = 1 := rfl
theorem lc_43 : px_lc 43 = 20 := rfl
theorem nr_43 : px_nr 43 = true := rfl
theorem np_43 : px_np 43 = 1 := rfl
theorem kw_43 : (px_kw 43).1 = 0 := rfl
theorem yn_43 : (px_yn 43).name = "noteLength" := rfl
theorem ltM_43 : 43 < px_nM := by decide
theorem fc_43_44 : px_fitc 43 44 = true := by decide +kernel
theorem fc_43_42 : px_fitc 43 42 = true := by decide +kernel
theorem on_44 : px_on 44 = 1 := rfl
theorem mL_44 : px_mL 44 = 1 := rfl
theorem rt_44 : px_rt 44 = some FieldType.int := rfl
theorem dp_44 : px_dp 44 = 0 := rfl
theorem lc_44 : px_lc 44 = 0 := rfl
theorem nr_44 : px_nr 44 = true := rfl
theorem np_44 : px_np 44 = 0 := rfl
theorem kw_44 : (px_kw 44).1 = 1 := rfl
theorem yn_44 : (px_yn 44).name = "markByteCount" := rfl
theorem ltM_44 : 44 < px_nM := by decide
theorem on_45 : px_on 45 = 6 := rfl
theorem mL_45 : px_mL 45 = 6 := rfl
theorem rt_45 : px_rt 45 = none := rfl
theorem dp_45 : px_dp 45 = 5 := rfl
theorem lc_45 : px_lc 45 = 114 := rfl
theorem nr_45 : px_nr 45 = false := rfl
theorem np_45 : px_np 45 = 1 := rfl
theorem kw_45 : (px_kw 45).1 = 1 := rfl
theorem yn_45 : (px_yn 45).name = "addHeader" := rfl
theorem ltM_45 : 45 < px_nM := by decide
theorem fc_45_46 : px_fitc 45 46 = true := by decide +kernel
theorem fc_45_48 : px_fitc 45 48 = true := by decide +kernel
theorem fc_45_49 : px_fitc 45 49 = true := by decide +kernel
theorem fc_45_52 : px_fitc 45 52 = true := by decide +kernel
theorem fc_45_50 : px_fitc 45 50 = true := by decide +kernel
theorem on_46 : px_on 46 = 0 := rfl
theorem mL_46 : px_mL 46 = 2 := rfl
theorem rt_46 : px_rt 46 = none := rfl
theorem dp_46 : px_dp 46 = 4 := rfl
theorem lc_46 : px_lc 46 = 93 := rfl
theorem nr_46 : px_nr 46 = false := rfl
theorem np_46 : px_np 46 = 1 := rfl
theorem kw_46 : (px_kw 46).1 = 1 := rfl
theorem yn_46 : (px_yn 46).name = "addByte" := rfl
theorem ltM_46 : 46 < px_nM := by decide
theorem fc_46_47 : px_fitc 46 47 = true := by decide +kernel
theorem on_47 : px_on 47 = 0 := rfl
theorem mL_47 : px_mL 47 = 4 := rfl
theorem rt_47 : px_rt 47 = none := rfl
theorem dp_47 : px_dp 47 = 3 := rfl
theorem lc_47 : px_lc 47 = 70 := rfl
theorem nr_47 : px_nr 47 = false := rfl
theorem np_47 : px_np 47 = 2 := rfl
theorem kw_47 : (px_kw 47).1 = 1 := rfl
theorem yn_47 : (px_yn 47).name = "addNumber" := rfl
theorem ltM_47 : 47 < px_nM := by decide
theorem fc_47_19 : px_fitc 47 19 = true := by decide +kernel
theorem on_48 : px_on 48 = 0 := rfl
theorem mL_48 : px_mL 48 = 2 := rfl
theorem rt_48 : px_rt 48 = none := rfl
theorem dp_48 : px_dp 48 = 4 := rfl
theorem lc_48 : px_lc 48 = 93 := rfl
theorem nr_48 : px_nr 48 = false := rfl
theorem np_48 : px_np 48 = 1 := rfl
theorem kw_48 : (px_kw 48).1 = 1 := rfl
theorem yn_48 : (px_yn 48).name = "addU2" := rfl
theorem ltM_48 : 48 < px_nM := by decide
theorem fc_48_47 : px_fitc 48 47 = true := by decide +kernel
theorem on_49 : px_on 49 = 0 := rfl
theorem mL_49 : px_mL 49 = 2 := rfl
theorem rt_49 : px_rt 49 = none := rfl
theorem dp_49 : px_dp 49 = 4 := rfl
theorem lc_49 : px_lc 49 = 93 := rfl
theorem nr_49 : px_nr 49 = false := rfl
theorem np_49 : px_np 49 = 1 := rfl
theorem kw_49 : (px_kw 49).1 = 1 := rfl
theorem yn_49 : (px_yn 49).name = "addU4" := rfl
theorem ltM_49 : 49 < px_nM := by decide
theorem fc_49_47 : px_fitc 49 47 = true := by decide +kernel
theorem on_50 : px_on 50 = 1 := rfl
theorem mL_50 : px_mL 50 = 1 := rfl
theorem rt_50 : px_rt 50 = some FieldType.int := rfl
theorem dp_50 : px_dp 50 = 3 := rfl
theorem lc_50 : px_lc 50 = 64 := rfl
theorem nr_50 : px_nr 50 = true := rfl
theorem np_50 : px_np 50 = 0 := rfl
theorem kw_50 : (px_kw 50).1 = 1 := rfl
theorem yn_50 : (px_yn 50).name = "flags" := rfl
theorem ltM_50 : 50 < px_nM := by decide
theorem fc_50_51 : px_fitc 50 51 = true := by decide +kernel
theorem on_51 : px_on 51 = 1 := rfl
theorem mL_51 : px_mL 51 = 3 := rfl
theorem rt_51 : px_rt 51 = some FieldType.int := rfl
theorem dp_51 : px_dp 51 = 2 := rfl
theorem lc_51 : px_lc 51 = 42 := rfl
theorem nr_51 : px_nr 51 = true := rfl
theorem np_51 : px_np 51 = 0 := rfl
theorem kw_51 : (px_kw 51).1 = 1 := rfl
theorem yn_51 : (px_yn 51).name = "countShortMarks" := rfl
theorem ltM_51 : 51 < px_nM := by decide
theorem fc_51_23 : px_fitc 51 23 = true := by decide +kernel
theorem fc_51_36 : px_fitc 51 36 = true := by decide +kernel
theorem on_52 : px_on 52 = 0 := rfl
theorem mL_52 : px_mL 52 = 3 := rfl
theorem rt_52 : px_rt 52 = none := rfl
theorem dp_52 : px_dp 52 = 3 := rfl
theorem lc_52 : px_lc 52 = 70 := rfl
theorem nr_52 : px_nr 52 = false := rfl
theorem np_52 : px_np 52 = 1 := rfl
theorem kw_52 : (px_kw 52).1 = 1 := rfl
theorem yn_52 : (px_yn 52).name = "addZerosTo" := rfl
theorem ltM_52 : 52 < px_nM := by decide
theorem fc_52_19 : px_fitc 52 19 = true := by decide +kernel
theorem on_53 : px_on 53 = 6 := rfl
theorem mL_53 : px_mL 53 = 4 := rfl
theorem rt_53 : px_rt 53 = none := rfl
theorem dp_53 : px_dp 53 = 6 := rfl
theorem lc_53 : px_lc 53 = 138 := rfl
theorem nr_53 : px_nr 53 = false := rfl
theorem np_53 : px_np 53 = 1 := rfl
theorem kw_53 : (px_kw 53).1 = 1 := rfl
theorem yn_53 : (px_yn 53).name = "addTable" := rfl
theorem ltM_53 : 53 < px_nM := by decide
theorem fc_53_43 : px_fitc 53 43 = true := by decide +kernel
theorem fc_53_31 : px_fitc 53 31 = true := by decide +kernel
theorem fc_53_55 : px_fitc 53 55 = true := by decide +kernel
theorem fc_53_54 : px_fitc 53 54 = true := by decide +kernel
theorem on_54 : px_on 54 = 6 := rfl
theorem mL_54 : px_mL 54 = 4 := rfl
theorem rt_54 : px_rt 54 = none := rfl
theorem dp_54 : px_dp 54 = 5 := rfl
theorem lc_54 : px_lc 54 = 114 := rfl
theorem nr_54 : px_nr 54 = false := rfl
theorem np_54 : px_np 54 = 3 := rfl
theorem kw_54 : (px_kw 54).1 = 1 := rfl
theorem yn_54 : (px_yn 54).name = "addRowStart" := rfl
theorem ltM_54 : 54 < px_nM := by decide
theorem fc_54_49 : px_fitc 54 49 = true := by decide +kernel
theorem on_55 : px_on 55 = 6 := rfl
theorem mL_55 : px_mL 55 = 5 := rfl
theorem rt_55 : px_rt 55 = none := rfl
theorem dp_55 : px_dp 55 = 5 := rfl
theorem lc_55 : px_lc 55 = 114 := rfl
theorem nr_55 : px_nr 55 = false := rfl
theorem np_55 : px_np 55 = 4 := rfl
theorem kw_55 : (px_kw 55).1 = 1 := rfl
theorem yn_55 : (px_yn 55).name = "addRowEnd" := rfl
theorem ltM_55 : 55 < px_nM := by decide
theorem fc_55_49 : px_fitc 55 49 = true := by decide +kernel
theorem on_56 : px_on 56 = 6 := rfl
theorem mL_56 : px_mL 56 = 4 := rfl
theorem rt_56 : px_rt 56 = none := rfl
theorem dp_56 : px_dp 56 = 4 := rfl
theorem lc_56 : px_lc 56 = 93 := rfl
theorem nr_56 : px_nr 56 = false := rfl
theorem np_56 : px_np 56 = 1 := rfl
theorem kw_56 : (px_kw 56).1 = 1 := rfl
theorem yn_56 : (px_yn 56).name = "addSegments" := rfl
theorem ltM_56 : 56 < px_nM := by decide
theorem fc_56_57 : px_fitc 56 57 = true := by decide +kernel
theorem fc_56_52 : px_fitc 56 52 = true := by decide +kernel
theorem on_57 : px_on 57 = 0 := rfl
theorem mL_57 : px_mL 57 = 4 := rfl
theorem rt_57 : px_rt 57 = none := rfl
theorem dp_57 : px_dp 57 = 3 := rfl
theorem lc_57 : px_lc 57 = 70 := rfl
theorem nr_57 : px_nr 57 = false := rfl
theorem np_57 : px_np 57 = 3 := rfl
theorem kw_57 : (px_kw 57).1 = 1 := rfl
theorem yn_57 : (px_yn 57).name = "addPart" := rfl
theorem ltM_57 : 57 < px_nM := by decide
theorem fc_57_19 : px_fitc 57 19 = true := by decide +kernel
theorem on_58 : px_on 58 = 6 := rfl
theorem mL_58 : px_mL 58 = 8 := rfl
theorem rt_58 : px_rt 58 = none := rfl
theorem dp_58 : px_dp 58 = 5 := rfl
theorem lc_58 : px_lc 58 = 114 := rfl
theorem nr_58 : px_nr 58 = false := rfl
theorem np_58 : px_np 58 = 1 := rfl
theorem kw_58 : (px_kw 58).1 = 1 := rfl
theorem yn_58 : (px_yn 58).name = "addNote" := rfl
theorem ltM_58 : 58 < px_nM := by decide
theorem fc_58_46 : px_fitc 58 46 = true := by decide +kernel
theorem fc_58_49 : px_fitc 58 49 = true := by decide +kernel
theorem fc_58_52 : px_fitc 58 52 = true := by decide +kernel
theorem fc_58_63 : px_fitc 58 63 = true := by decide +kernel
theorem fc_58_44 : px_fitc 58 44 = true := by decide +kernel
theorem fc_58_59 : px_fitc 58 59 = true := by decide +kernel
theorem fc_58_43 : px_fitc 58 43 = true := by decide +kernel
theorem on_59 : px_on 59 = 1 := rfl
theorem mL_59 : px_mL 59 = 6 := rfl
theorem rt_59 : px_rt 59 = some FieldType.int := rfl
theorem dp_59 : px_dp 59 = 2 := rfl
theorem lc_59 : px_lc 59 = 45 := rfl
theorem nr_59 : px_nr 59 = true := rfl
theorem np_59 : px_np 59 = 0 := rfl
theorem kw_59 : (px_kw 59).1 = 1 := rfl
theorem yn_59 : (px_yn 59).name = "sum" := rfl
theorem ltM_59 : 59 < px_nM := by decide
theorem fc_59_63 : px_fitc 59 63 = true := by decide +kernel
theorem fc_59_44 : px_fitc 59 44 = true := by decide +kernel
theorem fc_59_61 : px_fitc 59 61 = true := by decide +kernel
theorem fc_59_62 : px_fitc 59 62 = true := by decide +kernel
theorem fc_59_60 : px_fitc 59 60 = true := by decide +kernel
theorem on_60 : px_on 60 = 5 := rfl
theorem mL_60 : px_mL 60 = 4 := rfl
theorem rt_60 : px_rt 60 = some FieldType.int := rfl
theorem dp_60 : px_dp 60 = 1 := rfl
theorem lc_60 : px_lc 60 = 22 := rfl
theorem nr_60 : px_nr 60 = true := rfl
theorem np_60 : px_np 60 = 2 := rfl
theorem kw_60 : (px_kw 60).1 = 0 := rfl
theorem yn_60 : (px_yn 60).name = "withNumber" := rfl
theorem ltM_60 : 60 < px_nM := by decide
theorem fc_60_61 : px_fitc 60 61 = true := by decide +kernel
theorem on_61 : px_on 61 = 5 := rfl
theorem mL_61 : px_mL 61 = 3 := rfl
theorem rt_61 : px_rt 61 = some FieldType.int := rfl
theorem dp_61 : px_dp 61 = 0 := rfl
theorem lc_61 : px_lc 61 = 0 := rfl
theorem nr_61 : px_nr 61 = true := rfl
theorem np_61 : px_np 61 = 2 := rfl
theorem kw_61 : (px_kw 61).1 = 0 := rfl
theorem yn_61 : (px_yn 61).name = "withByte" := rfl
theorem ltM_61 : 61 < px_nM := by decide
theorem on_62 : px_on 62 = 5 := rfl
theorem mL_62 : px_mL 62 = 4 := rfl
theorem rt_62 : px_rt 62 = some FieldType.int := rfl
theorem dp_62 : px_dp 62 = 1 := rfl
theorem lc_62 : px_lc 62 = 22 := rfl
theorem nr_62 : px_nr 62 = true := rfl
theorem np_62 : px_np 62 = 2 := rfl
theorem kw_62 : (px_kw 62).1 = 0 := rfl
theorem yn_62 : (px_yn 62).name = "withBytes" := rfl
theorem ltM_62 : 62 < px_nM := by decide
theorem fc_62_37 : px_fitc 62 37 = true := by decide +kernel
theorem fc_62_61 : px_fitc 62 61 = true := by decide +kernel
theorem on_63 : px_on 63 = 1 := rfl
theorem mL_63 : px_mL 63 = 2 := rfl
theorem rt_63 : px_rt 63 = some FieldType.int := rfl
theorem dp_63 : px_dp 63 = 0 := rfl
theorem lc_63 : px_lc 63 = 0 := rfl
theorem nr_63 : px_nr 63 = true := rfl
theorem np_63 : px_np 63 = 1 := rfl
theorem kw_63 : (px_kw 63).1 = 1 := rfl
theorem yn_63 : (px_yn 63).name = "markByte" := rfl
theorem ltM_63 : 63 < px_nM := by decide
theorem on_64 : px_on 64 = 7 := rfl
theorem mL_64 : px_mL 64 = 1 := rfl
theorem rt_64 : px_rt 64 = some FieldType.int := rfl
theorem dp_64 : px_dp 64 = 0 := rfl
theorem lc_64 : px_lc 64 = 0 := rfl
theorem nr_64 : px_nr 64 = true := rfl
theorem np_64 : px_np 64 = 0 := rfl
theorem kw_64 : (px_kw 64).1 = 1 := rfl
theorem yn_64 : (px_yn 64).name = "size" := rfl
theorem ltM_64 : 64 < px_nM := by decide
theorem on_65 : px_on 65 = 7 := rfl
theorem mL_65 : px_mL 65 = 2 := rfl
theorem rt_65 : px_rt 65 = some FieldType.int := rfl
theorem dp_65 : px_dp 65 = 1 := rfl
theorem lc_65 : px_lc 65 = 21 := rfl
theorem nr_65 : px_nr 65 = true := rfl
theorem np_65 : px_np 65 = 1 := rfl
theorem kw_65 : (px_kw 65).1 = 1 := rfl
theorem yn_65 : (px_yn 65).name = "byteAt" := rfl
theorem ltM_65 : 65 < px_nM := by decide
theorem fc_65_37 : px_fitc 65 37 = true := by decide +kernel
theorem on_66 : px_on 66 = 7 := rfl
theorem mL_66 : px_mL 66 = 4 := rfl
theorem rt_66 : px_rt 66 = some FieldType.boolean := rfl
theorem dp_66 : px_dp 66 = 4 := rfl
theorem lc_66 : px_lc 66 = 94 := rfl
theorem nr_66 : px_nr 66 = false := rfl
theorem np_66 : px_np 66 = 2 := rfl
theorem kw_66 : (px_kw 66).1 = 1 := rfl
theorem yn_66 : (px_yn 66).name = "feed" := rfl
theorem ltM_66 : 66 < px_nM := by decide
theorem fc_66_18 : px_fitc 66 18 = true := by decide +kernel
theorem on_67 : px_on 67 = 7 := rfl
theorem mL_67 : px_mL 67 = 2 := rfl
theorem rt_67 : px_rt 67 = some FieldType.boolean := rfl
theorem dp_67 : px_dp 67 = 1 := rfl
theorem lc_67 : px_lc 67 = 21 := rfl
theorem nr_67 : px_nr 67 = true := rfl
theorem np_67 : px_np 67 = 1 := rfl
theorem kw_67 : (px_kw 67).1 = 1 := rfl
theorem yn_67 : (px_yn 67).name = "cut" := rfl
theorem ltM_67 : 67 < px_nM := by decide
theorem fc_67_9 : px_fitc 67 9 = true := by decide +kernel
theorem on_68 : px_on 68 = 7 := rfl
theorem mL_68 : px_mL 68 = 4 := rfl
theorem rt_68 : px_rt 68 = some FieldType.int := rfl
theorem dp_68 : px_dp 68 = 1 := rfl
theorem lc_68 : px_lc 68 = 22 := rfl
theorem nr_68 : px_nr 68 = true := rfl
theorem np_68 : px_np 68 = 2 := rfl
theorem kw_68 : (px_kw 68).1 = 1 := rfl
theorem yn_68 : (px_yn 68).name = "spoil" := rfl
theorem ltM_68 : 68 < px_nM := by decide
theorem fc_68_37 : px_fitc 68 37 = true := by decide +kernel
theorem fc_68_69 : px_fitc 68 69 = true := by decide +kernel
theorem on_69 : px_on 69 = 0 := rfl
theorem mL_69 : px_mL 69 = 3 := rfl
theorem rt_69 : px_rt 69 = none := rfl
theorem dp_69 : px_dp 69 = 0 := rfl
theorem lc_69 : px_lc 69 = 0 := rfl
theorem nr_69 : px_nr 69 = true := rfl
theorem np_69 : px_np 69 = 2 := rfl
theorem kw_69 : (px_kw 69).1 = 1 := rfl
theorem yn_69 : (px_yn 69).name = "change" := rfl
theorem ltM_69 : 69 < px_nM := by decide
theorem on_70 : px_on 70 = 7 := rfl
theorem mL_70 : px_mL 70 = 2 := rfl
theorem rt_70 : px_rt 70 = some FieldType.int := rfl
theorem dp_70 : px_dp 70 = 8 := rfl
theorem lc_70 : px_lc 70 = 188 := rfl
theorem nr_70 : px_nr 70 = false := rfl
theorem np_70 : px_np 70 = 0 := rfl
theorem kw_70 : (px_kw 70).1 = 1 := rfl
theorem yn_70 : (px_yn 70).name = "read" := rfl
theorem ltM_70 : 70 < px_nM := by decide
theorem fc_70_95 : px_fitc 70 95 = true := by decide +kernel
theorem fc_70_71 : px_fitc 70 71 = true := by decide +kernel
theorem on_71 : px_on 71 = 3 := rfl
theorem mL_71 : px_mL 71 = 2 := rfl
theorem rt_71 : px_rt 71 = some FieldType.int := rfl
theorem dp_71 : px_dp 71 = 7 := rfl
theorem lc_71 : px_lc 71 = 167 := rfl
theorem nr_71 : px_nr 71 = false := rfl
theorem np_71 : px_np 71 = 0 := rfl
theorem kw_71 : (px_kw 71).1 = 1 := rfl
theorem yn_71 : (px_yn 71).name = "examine" := rfl
theorem ltM_71 : 71 < px_nM := by decide
theorem fc_71_7 : px_fitc 71 7 = true := by decide +kernel
theorem fc_71_72 : px_fitc 71 72 = true := by decide +kernel
theorem fc_71_93 : px_fitc 71 93 = true := by decide +kernel
theorem fc_71_89 : px_fitc 71 89 = true := by decide +kernel
theorem fc_71_90 : px_fitc 71 90 = true := by decide +kernel
theorem fc_71_76 : px_fitc 71 76 = true := by decide +kernel
theorem fc_71_79 : px_fitc 71 79 = true := by decide +kernel
theorem on_72 : px_on 72 = 3 := rfl
theorem mL_72 : px_mL 72 = 2 := rfl
theorem rt_72 : px_rt 72 = some FieldType.int := rfl
theorem dp_72 : px_dp 72 = 2 := rfl
theorem lc_72 : px_lc 72 = 42 := rfl
theorem nr_72 : px_nr 72 = true := rfl
theorem np_72 : px_np 72 = 0 := rfl
theorem kw_72 : (px_kw 72).1 = 1 := rfl
theorem yn_72 : (px_yn 72).name = "headFault" := rfl
theorem ltM_72 : 72 < px_nM := by decide
theorem fc_72_37 : px_fitc 72 37 = true := by decide +kernel
theorem fc_72_75 : px_fitc 72 75 = true := by decide +kernel
theorem fc_72_73 : px_fitc 72 73 = true := by decide +kernel
theorem fc_72_74 : px_fitc 72 74 = true := by decide +kernel
theorem on_73 : px_on 73 = 3 := rfl
theorem mL_73 : px_mL 73 = 3 := rfl
theorem rt_73 : px_rt 73 = some FieldType.int := rfl
theorem dp_73 : px_dp 73 = 0 := rfl
theorem lc_73 : px_lc 73 = 0 := rfl
theorem nr_73 : px_nr 73 = true := rfl
theorem np_73 : px_np 73 = 2 := rfl
theorem kw_73 : (px_kw 73).1 = 1 := rfl
theorem yn_73 : (px_yn 73).name = "faultAt" := rfl
theorem ltM_73 : 73 < px_nM := by decide
theorem on_74 : px_on 74 = 3 := rfl
theorem mL_74 : px_mL 74 = 1 := rfl
theorem rt_74 : px_rt 74 = some FieldType.int := rfl
theorem dp_74 : px_dp 74 = 0 := rfl
theorem lc_74 : px_lc 74 = 0 := rfl
theorem nr_74 : px_nr 74 = true := rfl
theorem np_74 : px_np 74 = 1 := rfl
theorem kw_74 : (px_kw 74).1 = 0 := rfl
theorem yn_74 : (px_yn 74).name = "faultOfHeadByte" := rfl
theorem ltM_74 : 74 < px_nM := by decide
theorem on_75 : px_on 75 = 0 := rfl
theorem mL_75 : px_mL 75 = 2 := rfl
theorem rt_75 : px_rt 75 = some FieldType.int := rfl
theorem dp_75 : px_dp 75 = 1 := rfl
theorem lc_75 : px_lc 75 = 21 := rfl
theorem nr_75 : px_nr 75 = true := rfl
theorem np_75 : px_np 75 = 1 := rfl
theorem kw_75 : (px_kw 75).1 = 1 := rfl
theorem yn_75 : (px_yn 75).name = "u2" := rfl
theorem ltM_75 : 75 < px_nM := by decide
theorem fc_75_37 : px_fitc 75 37 = true := by decide +kernel
theorem on_76 : px_on 76 = 3 := rfl
theorem mL_76 : px_mL 76 = 4 := rfl
theorem rt_76 : px_rt 76 = some FieldType.int := rfl
theorem dp_76 : px_dp 76 = 3 := rfl
theorem lc_76 : px_lc 76 = 63 := rfl
theorem nr_76 : px_nr 76 = true := rfl
theorem np_76 : px_np 76 = 0 := rfl
theorem kw_76 : (px_kw 76).1 = 1 := rfl
theorem yn_76 : (px_yn 76).name = "numbersFault" := rfl
theorem ltM_76 : 76 < px_nM := by decide
theorem fc_76_75 : px_fitc 76 75 = true := by decide +kernel
theorem fc_76_78 : px_fitc 76 78 = true := by decide +kernel
theorem fc_76_73 : px_fitc 76 73 = true := by decide +kernel
theorem fc_76_77 : px_fitc 76 77 = true := by decide +kernel
theorem on_77 : px_on 77 = 3 := rfl
theorem mL_77 : px_mL 77 = 2 := rfl
theorem rt_77 : px_rt 77 = some FieldType.int := rfl
theorem dp_77 : px_dp 77 = 2 := rfl
theorem lc_77 : px_lc 77 = 42 := rfl
theorem nr_77 : px_nr 77 = true := rfl
theorem np_77 : px_np 77 = 0 := rfl
theorem kw_77 : (px_kw 77).1 = 1 := rfl
theorem yn_77 : (px_yn 77).name = "firstWrongNumber" := rfl
theorem ltM_77 : 77 < px_nM := by decide
theorem fc_77_75 : px_fitc 77 75 = true := by decide +kernel
theorem fc_77_78 : px_fitc 77 78 = true := by decide +kernel
theorem on_78 : px_on 78 = 0 := rfl
theorem mL_78 : px_mL 78 = 2 := rfl
theorem rt_78 : px_rt 78 = some FieldType.long := rfl
theorem dp_78 : px_dp 78 = 1 := rfl
theorem lc_78 : px_lc 78 = 21 := rfl
theorem nr_78 : px_nr 78 = true := rfl
theorem np_78 : px_np 78 = 1 := rfl
theorem kw_78 : (px_kw 78).1 = 1 := rfl
theorem yn_78 : (px_yn 78).name = "u4" := rfl
theorem ltM_78 : 78 < px_nM := by decide
theorem fc_78_37 : px_fitc 78 37 = true := by decide +kernel
theorem on_79 : px_on 79 = 3 := rfl
theorem mL_79 : px_mL 79 = 3 := rfl
theorem rt_79 : px_rt 79 = some FieldType.int := rfl
theorem dp_79 : px_dp 79 = 6 := rfl
theorem lc_79 : px_lc 79 = 145 := rfl
theorem nr_79 : px_nr 79 = false := rfl
theorem np_79 : px_np 79 = 0 := rfl
theorem kw_79 : (px_kw 79).1 = 1 := rfl
theorem yn_79 : (px_yn 79).name = "tableFault" := rfl
theorem ltM_79 : 79 < px_nM := by decide
theorem fc_79_80 : px_fitc 79 80 = true := by decide +kernel
theorem on_80 : px_on 80 = 3 := rfl
theorem mL_80 : px_mL 80 = 9 := rfl
theorem rt_80 : px_rt 80 = some FieldType.int := rfl
theorem dp_80 : px_dp 80 = 5 := rfl
theorem lc_80 : px_lc 80 = 117 := rfl
theorem nr_80 : px_nr 80 = false := rfl
theorem np_80 : px_np 80 = 1 := rfl
theorem kw_80 : (px_kw 80).1 = 1 := rfl
theorem yn_80 : (px_yn 80).name = "rowFault" := rfl
theorem ltM_80 : 80 < px_nM := by decide
theorem fc_80_78 : px_fitc 80 78 = true := by decide +kernel
theorem fc_80_73 : px_fitc 80 73 = true := by decide +kernel
theorem fc_80_81 : px_fitc 80 81 = true := by decide +kernel
theorem fc_80_83 : px_fitc 80 83 = true := by decide +kernel
theorem fc_80_85 : px_fitc 80 85 = true := by decide +kernel
theorem fc_80_87 : px_fitc 80 87 = true := by decide +kernel
theorem fc_80_88 : px_fitc 80 88 = true := by decide +kernel
theorem on_81 : px_on 81 = 3 := rfl
theorem mL_81 : px_mL 81 = 2 := rfl
theorem rt_81 : px_rt 81 = some FieldType.int := rfl
theorem dp_81 : px_dp 81 = 2 := rfl
theorem lc_81 : px_lc 81 = 42 := rfl
theorem nr_81 : px_nr 81 = true := rfl
theorem np_81 : px_np 81 = 1 := rfl
theorem kw_81 : (px_kw 81).1 = 1 := rfl
theorem yn_81 : (px_yn 81).name = "noteRowFault" := rfl
theorem ltM_81 : 81 < px_nM := by decide
theorem fc_81_78 : px_fitc 81 78 = true := by decide +kernel
theorem fc_81_73 : px_fitc 81 73 = true := by decide +kernel
theorem fc_81_82 : px_fitc 81 82 = true := by decide +kernel
theorem on_82 : px_on 82 = 3 := rfl
theorem mL_82 : px_mL 82 = 2 := rfl
theorem rt_82 : px_rt 82 = some FieldType.boolean := rfl
theorem dp_82 : px_dp 82 = 0 := rfl
theorem lc_82 : px_lc 82 = 0 := rfl
theorem nr_82 : px_nr 82 = true := rfl
theorem np_82 : px_np 82 = 1 := rfl
theorem kw_82 : (px_kw 82).1 = 0 := rfl
theorem yn_82 : (px_yn 82).name = "isPage" := rfl
theorem ltM_82 : 82 < px_nM := by decide
theorem on_83 : px_on 83 = 3 := rfl
theorem mL_83 : px_mL 83 = 11 := rfl
theorem rt_83 : px_rt 83 = some FieldType.int := rfl
theorem dp_83 : px_dp 83 = 2 := rfl
theorem lc_83 : px_lc 83 = 42 := rfl
theorem nr_83 : px_nr 83 = true := rfl
theorem np_83 : px_np 83 = 1 := rfl
theorem kw_83 : (px_kw 83).1 = 1 := rfl
theorem yn_83 : (px_yn 83).name = "segmentRowFault" := rfl
theorem ltM_83 : 83 < px_nM := by decide
theorem fc_83_78 : px_fitc 83 78 = true := by decide +kernel
theorem fc_83_14 : px_fitc 83 14 = true := by decide +kernel
theorem fc_83_73 : px_fitc 83 73 = true := by decide +kernel
theorem fc_83_82 : px_fitc 83 82 = true := by decide +kernel
theorem fc_83_84 : px_fitc 83 84 = true := by decide +kernel
theorem on_84 : px_on 84 = 3 := rfl
theorem mL_84 : px_mL 84 = 3 := rfl
theorem rt_84 : px_rt 84 = some FieldType.int := rfl
theorem dp_84 : px_dp 84 = 0 := rfl
theorem lc_84 : px_lc 84 = 0 := rfl
theorem nr_84 : px_nr 84 = true := rfl
theorem np_84 : px_np 84 = 1 := rfl
theorem kw_84 : (px_kw 84).1 = 0 := rfl
theorem yn_84 : (px_yn 84).name = "segmentWith" := rfl
theorem ltM_84 : 84 < px_nM := by decide
theorem on_85 : px_on 85 = 3 := rfl
theorem mL_85 : px_mL 85 = 11 := rfl
theorem rt_85 : px_rt 85 = some FieldType.boolean := rfl
theorem dp_85 : px_dp 85 = 2 := rfl
theorem lc_85 : px_lc 85 = 50 := rfl
theorem nr_85 : px_nr 85 = true := rfl
theorem np_85 : px_np 85 = 1 := rfl
theorem kw_85 : (px_kw 85).1 = 1 := rfl
theorem yn_85 : (px_yn 85).name = "sharesBytes" := rfl
theorem ltM_85 : 85 < px_nM := by decide
theorem fc_85_78 : px_fitc 85 78 = true := by decide +kernel
theorem fc_85_86 : px_fitc 85 86 = true := by decide +kernel
theorem on_86 : px_on 86 = 3 := rfl
theorem mL_86 : px_mL 86 = 8 := rfl
theorem rt_86 : px_rt 86 = some FieldType.boolean := rfl
theorem dp_86 : px_dp 86 = 1 := rfl
theorem lc_86 : px_lc 86 = 23 := rfl
theorem nr_86 : px_nr 86 = true := rfl
theorem np_86 : px_np 86 = 4 := rfl
theorem kw_86 : (px_kw 86).1 = 0 := rfl
theorem yn_86 : (px_yn 86).name = "meet" := rfl
theorem ltM_86 : 86 < px_nM := by decide
theorem on_87 : px_on 87 = 3 := rfl
theorem mL_87 : px_mL 87 = 2 := rfl
theorem rt_87 : px_rt 87 = none := rfl
theorem dp_87 : px_dp 87 = 2 := rfl
theorem lc_87 : px_lc 87 = 42 := rfl
theorem nr_87 : px_nr 87 = true := rfl
theorem np_87 : px_np 87 = 1 := rfl
theorem kw_87 : (px_kw 87).1 = 1 := rfl
theorem yn_87 : (px_yn 87).name = "takeNote" := rfl
theorem ltM_87 : 87 < px_nM := by decide
theorem fc_87_78 : px_fitc 87 78 = true := by decide +kernel
theorem on_88 : px_on 88 = 3 := rfl
theorem mL_88 : px_mL 88 = 5 := rfl
theorem rt_88 : px_rt 88 = none := rfl
theorem dp_88 : px_dp 88 = 4 := rfl
theorem lc_88 : px_lc 88 = 93 := rfl
theorem nr_88 : px_nr 88 = false := rfl
theorem np_88 : px_np 88 = 1 := rfl
theorem kw_88 : (px_kw 88).1 = 1 := rfl
theorem yn_88 : (px_yn 88).name = "takeSegment" := rfl
theorem ltM_88 : 88 < px_nM := by decide
theorem fc_88_57 : px_fitc 88 57 = true := by decide +kernel
theorem fc_88_78 : px_fitc 88 78 = true := by decide +kernel
theorem fc_88_14 : px_fitc 88 14 = true := by decide +kernel
theorem fc_88_84 : px_fitc 88 84 = true := by decide +kernel
theorem fc_88_15 : px_fitc 88 15 = true := by decide +kernel
theorem on_89 : px_on 89 = 3 := rfl
theorem mL_89 : px_mL 89 = 4 := rfl
theorem rt_89 : px_rt 89 = some FieldType.int := rfl
theorem dp_89 : px_dp 89 = 4 := rfl
theorem lc_89 : px_lc 89 = 82 := rfl
theorem nr_89 : px_nr 89 = true := rfl
theorem np_89 : px_np 89 = 0 := rfl
theorem kw_89 : (px_kw 89).1 = 1 := rfl
theorem yn_89 : (px_yn 89).name = "memoryFault" := rfl
theorem ltM_89 : 89 < px_nM := by decide
theorem fc_89_29 : px_fitc 89 29 = true := by decide +kernel
theorem fc_89_32 : px_fitc 89 32 = true := by decide +kernel
theorem fc_89_28 : px_fitc 89 28 = true := by decide +kernel
theorem fc_89_73 : px_fitc 89 73 = true := by decide +kernel
theorem on_90 : px_on 90 = 3 := rfl
theorem mL_90 : px_mL 90 = 2 := rfl
theorem rt_90 : px_rt 90 = some FieldType.int := rfl
theorem dp_90 : px_dp 90 = 3 := rfl
theorem lc_90 : px_lc 90 = 63 := rfl
theorem nr_90 : px_nr 90 = true := rfl
theorem np_90 : px_np 90 = 0 := rfl
theorem kw_90 : (px_kw 90).1 = 1 := rfl
theorem yn_90 : (px_yn 90).name = "noteFault" := rfl
theorem ltM_90 : 90 < px_nM := by decide
theorem fc_90_43 : px_fitc 90 43 = true := by decide +kernel
theorem fc_90_73 : px_fitc 90 73 = true := by decide +kernel
theorem fc_90_91 : px_fitc 90 91 = true := by decide +kernel
theorem fc_90_92 : px_fitc 90 92 = true := by decide +kernel
theorem on_91 : px_on 91 = 3 := rfl
theorem mL_91 : px_mL 91 = 2 := rfl
theorem rt_91 : px_rt 91 = some FieldType.int := rfl
theorem dp_91 : px_dp 91 = 2 := rfl
theorem lc_91 : px_lc 91 = 42 := rfl
theorem nr_91 : px_nr 91 = true := rfl
theorem np_91 : px_np 91 = 0 := rfl
theorem kw_91 : (px_kw 91).1 = 1 := rfl
theorem yn_91 : (px_yn 91).name = "firstWrongInNote" := rfl
theorem ltM_91 : 91 < px_nM := by decide
theorem fc_91_37 : px_fitc 91 37 = true := by decide +kernel
theorem fc_91_78 : px_fitc 91 78 = true := by decide +kernel
theorem on_92 : px_on 92 = 3 := rfl
theorem mL_92 : px_mL 92 = 5 := rfl
theorem rt_92 : px_rt 92 = some FieldType.int := rfl
theorem dp_92 : px_dp 92 = 1 := rfl
theorem lc_92 : px_lc 92 = 22 := rfl
theorem nr_92 : px_nr 92 = true := rfl
theorem np_92 : px_np 92 = 0 := rfl
theorem kw_92 : (px_kw 92).1 = 1 := rfl
theorem yn_92 : (px_yn 92).name = "restFault" := rfl
theorem ltM_92 : 92 < px_nM := by decide
theorem fc_92_37 : px_fitc 92 37 = true := by decide +kernel
theorem fc_92_44 : px_fitc 92 44 = true := by decide +kernel
theorem fc_92_73 : px_fitc 92 73 = true := by decide +kernel
theorem on_93 : px_on 93 = 3 := rfl
theorem mL_93 : px_mL 93 = 3 := rfl
theorem rt_93 : px_rt 93 = some FieldType.int := rfl
theorem dp_93 : px_dp 93 = 4 := rfl
theorem lc_93 : px_lc 93 = 86 := rfl
theorem nr_93 : px_nr 93 = true := rfl
theorem np_93 : px_np 93 = 0 := rfl
theorem kw_93 : (px_kw 93).1 = 1 := rfl
theorem yn_93 : (px_yn 93).name = "marksFault" := rfl
theorem ltM_93 : 93 < px_nM := by decide
theorem fc_93_37 : px_fitc 93 37 = true := by decide +kernel
theorem fc_93_78 : px_fitc 93 78 = true := by decide +kernel
theorem fc_93_38 : px_fitc 93 38 = true := by decide +kernel
theorem fc_93_34 : px_fitc 93 34 = true := by decide +kernel
theorem fc_93_50 : px_fitc 93 50 = true := by decide +kernel
theorem fc_93_44 : px_fitc 93 44 = true := by decide +kernel
theorem fc_93_94 : px_fitc 93 94 = true := by decide +kernel
theorem fc_93_59 : px_fitc 93 59 = true := by decide +kernel
theorem fc_93_73 : px_fitc 93 73 = true := by decide +kernel
theorem on_94 : px_on 94 = 1 := rfl
theorem mL_94 : px_mL 94 = 3 := rfl
theorem rt_94 : px_rt 94 = none := rfl
theorem dp_94 : px_dp 94 = 0 := rfl
theorem lc_94 : px_lc 94 = 0 := rfl
theorem nr_94 : px_nr 94 = true := rfl
theorem np_94 : px_np 94 = 2 := rfl
theorem kw_94 : (px_kw 94).1 = 1 := rfl
theorem yn_94 : (px_yn 94).name = "setMarkByte" := rfl
theorem ltM_94 : 94 < px_nM := by decide
theorem on_95 : px_on 95 = 1 := rfl
theorem mL_95 : px_mL 95 = 3 := rfl
theorem rt_95 : px_rt 95 = none := rfl
theorem dp_95 : px_dp 95 = 6 := rfl
theorem lc_95 : px_lc 95 = 135 := rfl
theorem nr_95 : px_nr 95 = false := rfl
theorem np_95 : px_np 95 = 1 := rfl
theorem kw_95 : (px_kw 95).1 = 1 := rfl
theorem yn_95 : (px_yn 95).name = "becomeLike" := rfl
theorem ltM_95 : 95 < px_nM := by decide
theorem fc_95_96 : px_fitc 95 96 = true := by decide +kernel
theorem on_96 : px_on 96 = 4 := rfl
theorem mL_96 : px_mL 96 = 2 := rfl
theorem rt_96 : px_rt 96 = none := rfl
theorem dp_96 : px_dp 96 = 5 := rfl
theorem lc_96 : px_lc 96 = 114 := rfl
theorem nr_96 : px_nr 96 = false := rfl
theorem np_96 : px_np 96 = 1 := rfl
theorem kw_96 : (px_kw 96).1 = 1 := rfl
theorem yn_96 : (px_yn 96).name = "becomeLike" := rfl
theorem ltM_96 : 96 < px_nM := by decide
theorem fc_96_97 : px_fitc 96 97 = true := by decide +kernel
theorem on_97 : px_on 97 = 0 := rfl
theorem mL_97 : px_mL 97 = 2 := rfl
theorem rt_97 : px_rt 97 = none := rfl
theorem dp_97 : px_dp 97 = 4 := rfl
theorem lc_97 : px_lc 97 = 93 := rfl
theorem nr_97 : px_nr 97 = false := rfl
theorem np_97 : px_np 97 = 1 := rfl
theorem kw_97 : (px_kw 97).1 = 1 := rfl
theorem yn_97 : (px_yn 97).name = "becomeLike" := rfl
theorem ltM_97 : 97 < px_nM := by decide
theorem fc_97_57 : px_fitc 97 57 = true := by decide +kernel
theorem on_98 : px_on 98 = 7 := rfl
theorem mL_98 : px_mL 98 = 1 := rfl
theorem rt_98 : px_rt 98 = some FieldType.int := rfl
theorem dp_98 : px_dp 98 = 0 := rfl
theorem lc_98 : px_lc 98 = 0 := rfl
theorem nr_98 : px_nr 98 = true := rfl
theorem np_98 : px_np 98 = 0 := rfl
theorem kw_98 : (px_kw 98).1 = 1 := rfl
theorem yn_98 : (px_yn 98).name = "place" := rfl
theorem ltM_98 : 98 < px_nM := by decide
theorem on_99 : px_on 99 = 7 := rfl
theorem mL_99 : px_mL 99 = 1 := rfl
theorem rt_99 : px_rt 99 = none := rfl
theorem dp_99 : px_dp 99 = 7 := rfl
theorem lc_99 : px_lc 99 = 157 := rfl
theorem nr_99 : px_nr 99 = false := rfl
theorem np_99 : px_np 99 = 0 := rfl
theorem kw_99 : (px_kw 99).1 = 1 := rfl
theorem yn_99 : (px_yn 99).name = "keep" := rfl
theorem ltM_99 : 99 < px_nM := by decide
theorem fc_99_95 : px_fitc 99 95 = true := by decide +kernel
theorem on_100 : px_on 100 = 7 := rfl
theorem mL_100 : px_mL 100 = 4 := rfl
theorem rt_100 : px_rt 100 = some FieldType.int := rfl
theorem dp_100 : px_dp 100 = 1 := rfl
theorem lc_100 : px_lc 100 = 21 := rfl
theorem nr_100 : px_nr 100 = true := rfl
theorem np_100 : px_np 100 = 2 := rfl
theorem kw_100 : (px_kw 100).1 = 1 := rfl
theorem yn_100 : (px_yn 100).name = "about" := rfl
theorem ltM_100 : 100 < px_nM := by decide
theorem fc_100_14 : px_fitc 100 14 = true := by decide +kernel
theorem fc_100_101 : px_fitc 100 101 = true := by decide +kernel
theorem on_101 : px_on 101 = 4 := rfl
theorem mL_101 : px_mL 101 = 2 := rfl
theorem rt_101 : px_rt 101 = some FieldType.int := rfl
theorem dp_101 : px_dp 101 = 0 := rfl
theorem lc_101 : px_lc 101 = 0 := rfl
theorem nr_101 : px_nr 101 = true := rfl
theorem np_101 : px_np 101 = 1 := rfl
theorem kw_101 : (px_kw 101).1 = 1 := rfl
theorem yn_101 : (px_yn 101).name = "numberAbout" := rfl
theorem ltM_101 : 101 < px_nM := by decide
theorem on_102 : px_on 102 = 7 := rfl
theorem mL_102 : px_mL 102 = 2 := rfl
theorem rt_102 : px_rt 102 = some FieldType.int := rfl
theorem dp_102 : px_dp 102 = 3 := rfl
theorem lc_102 : px_lc 102 = 70 := rfl
theorem nr_102 : px_nr 102 = true := rfl
theorem np_102 : px_np 102 = 1 := rfl
theorem kw_102 : (px_kw 102).1 = 1 := rfl
theorem yn_102 : (px_yn 102).name = "told" := rfl
theorem ltM_102 : 102 < px_nM := by decide
theorem fc_102_103 : px_fitc 102 103 = true := by decide +kernel
theorem fc_102_51 : px_fitc 102 51 = true := by decide +kernel
theorem fc_102_59 : px_fitc 102 59 = true := by decide +kernel
theorem on_103 : px_on 103 = 1 := rfl
theorem mL_103 : px_mL 103 = 3 := rfl
theorem rt_103 : px_rt 103 = some FieldType.int := rfl
theorem dp_103 : px_dp 103 = 2 := rfl
theorem lc_103 : px_lc 103 = 41 := rfl
theorem nr_103 : px_nr 103 = true := rfl
theorem np_103 : px_np 103 = 0 := rfl
theorem kw_103 : (px_kw 103).1 = 1 := rfl
theorem yn_103 : (px_yn 103).name = "countMarks" := rfl
theorem ltM_103 : 103 < px_nM := by decide
theorem fc_103_23 : px_fitc 103 23 = true := by decide +kernel
theorem on_104 : px_on 104 = 7 := rfl
theorem mL_104 : px_mL 104 = 2 := rfl
theorem rt_104 : px_rt 104 = some FieldType.int := rfl
theorem dp_104 : px_dp 104 = 5 := rfl
theorem lc_104 : px_lc 104 = 108 := rfl
theorem nr_104 : px_nr 104 = true := rfl
theorem np_104 : px_np 104 = 1 := rfl
theorem kw_104 : (px_kw 104).1 = 1 := rfl
theorem yn_104 : (px_yn 104).name = "byteIn" := rfl
theorem ltM_104 : 104 < px_nM := by decide
theorem fc_104_105 : px_fitc 104 105 = true := by decide +kernel
theorem on_105 : px_on 105 = 1 := rfl
theorem mL_105 : px_mL 105 = 3 := rfl
theorem rt_105 : px_rt 105 = some FieldType.int := rfl
theorem dp_105 : px_dp 105 = 4 := rfl
theorem lc_105 : px_lc 105 = 86 := rfl
theorem nr_105 : px_nr 105 = true := rfl
theorem np_105 : px_np 105 = 1 := rfl
theorem kw_105 : (px_kw 105).1 = 1 := rfl
theorem yn_105 : (px_yn 105).name = "memoryByte" := rfl
theorem ltM_105 : 105 < px_nM := by decide
theorem fc_105_106 : px_fitc 105 106 = true := by decide +kernel
theorem fc_105_108 : px_fitc 105 108 = true := by decide +kernel
theorem on_106 : px_on 106 = 1 := rfl
theorem mL_106 : px_mL 106 = 6 := rfl
theorem rt_106 : px_rt 106 = some (FieldType.object "ImageFile$Segment") := rfl
theorem dp_106 : px_dp 106 = 3 := rfl
theorem lc_106 : px_lc 106 = 61 := rfl
theorem nr_106 : px_nr 106 = true := rfl
theorem np_106 : px_np 106 = 1 := rfl
theorem kw_106 : (px_kw 106).1 = 1 := rfl
theorem yn_106 : (px_yn 106).name = "segmentAround" := rfl
theorem ltM_106 : 106 < px_nM := by decide
theorem fc_106_107 : px_fitc 106 107 = true := by decide +kernel
theorem on_107 : px_on 107 = 4 := rfl
theorem mL_107 : px_mL 107 = 2 := rfl
theorem rt_107 : px_rt 107 = some FieldType.boolean := rfl
theorem dp_107 : px_dp 107 = 2 := rfl
theorem lc_107 : px_lc 107 = 40 := rfl
theorem nr_107 : px_nr 107 = true := rfl
theorem np_107 : px_np 107 = 1 := rfl
theorem kw_107 : (px_kw 107).1 = 1 := rfl
theorem yn_107 : (px_yn 107).name = "isAround" := rfl
theorem ltM_107 : 107 < px_nM := by decide
theorem fc_107_30 : px_fitc 107 30 = true := by decide +kernel
theorem on_108 : px_on 108 = 4 := rfl
theorem mL_108 : px_mL 108 = 3 := rfl
theorem rt_108 : px_rt 108 = some FieldType.int := rfl
theorem dp_108 : px_dp 108 = 1 := rfl
theorem lc_108 : px_lc 108 = 21 := rfl
theorem nr_108 : px_nr 108 = true := rfl
theorem np_108 : px_np 108 = 1 := rfl
theorem kw_108 : (px_kw 108).1 = 1 := rfl
theorem yn_108 : (px_yn 108).name = "memoryByte" := rfl
theorem ltM_108 : 108 < px_nM := by decide
theorem fc_108_37 : px_fitc 108 37 = true := by decide +kernel
theorem on_109 : px_on 109 = 7 := rfl
theorem mL_109 : px_mL 109 = 5 := rfl
theorem rt_109 : px_rt 109 = some FieldType.int := rfl
theorem dp_109 : px_dp 109 = 5 := rfl
theorem lc_109 : px_lc 109 = 108 := rfl
theorem nr_109 : px_nr 109 = true := rfl
theorem np_109 : px_np 109 = 1 := rfl
theorem kw_109 : (px_kw 109).1 = 1 := rfl
theorem yn_109 : (px_yn 109).name = "wordIn" := rfl
theorem ltM_109 : 109 < px_nM := by decide
theorem fc_109_105 : px_fitc 109 105 = true := by decide +kernel
theorem on_110 : px_on 110 = 7 := rfl
theorem mL_110 : px_mL 110 = 3 := rfl
theorem rt_110 : px_rt 110 = some FieldType.int := rfl
theorem dp_110 : px_dp 110 = 4 := rfl
theorem lc_110 : px_lc 110 = 86 := rfl
theorem nr_110 : px_nr 110 = true := rfl
theorem np_110 : px_np 110 = 1 := rfl
theorem kw_110 : (px_kw 110).1 = 1 := rfl
theorem yn_110 : (px_yn 110).name = "rights" := rfl
theorem ltM_110 : 110 < px_nM := by decide
theorem fc_110_106 : px_fitc 110 106 = true := by decide +kernel
theorem on_111 : px_on 111 = 7 := rfl
theorem mL_111 : px_mL 111 = 3 := rfl
theorem rt_111 : px_rt 111 = some FieldType.int := rfl
theorem dp_111 : px_dp 111 = 2 := rfl
theorem lc_111 : px_lc 111 = 42 := rfl
theorem nr_111 : px_nr 111 = true := rfl
theorem np_111 : px_np 111 = 1 := rfl
theorem kw_111 : (px_kw 111).1 = 1 := rfl
theorem yn_111 : (px_yn 111).name = "marked" := rfl
theorem ltM_111 : 111 < px_nM := by decide
theorem fc_111_23 : px_fitc 111 23 = true := by decide +kernel
theorem fc_111_36 : px_fitc 111 36 = true := by decide +kernel
theorem fc_111_39 : px_fitc 111 39 = true := by decide +kernel
theorem on_112 : px_on 112 = 7 := rfl
theorem mL_112 : px_mL 112 = 2 := rfl
theorem rt_112 : px_rt 112 = some FieldType.int := rfl
theorem dp_112 : px_dp 112 = 3 := rfl
theorem lc_112 : px_lc 112 = 64 := rfl
theorem nr_112 : px_nr 112 = true := rfl
theorem np_112 : px_np 112 = 1 := rfl
theorem kw_112 : (px_kw 112).1 = 1 := rfl
theorem yn_112 : (px_yn 112).name = "markBelow" := rfl
theorem ltM_112 : 112 < px_nM := by decide
theorem fc_112_113 : px_fitc 112 113 = true := by decide +kernel
theorem on_113 : px_on 113 = 1 := rfl
theorem mL_113 : px_mL 113 = 4 := rfl
theorem rt_113 : px_rt 113 = some FieldType.int := rfl
theorem dp_113 : px_dp 113 = 2 := rfl
theorem lc_113 : px_lc 113 = 41 := rfl
theorem nr_113 : px_nr 113 = true := rfl
theorem np_113 : px_np 113 = 1 := rfl
theorem kw_113 : (px_kw 113).1 = 1 := rfl
theorem yn_113 : (px_yn 113).name = "lastMarkUpTo" := rfl
theorem ltM_113 : 113 < px_nM := by decide
theorem fc_113_23 : px_fitc 113 23 = true := by decide +kernel
theorem fc_113_39 : px_fitc 113 39 = true := by decide +kernel
theorem on_114 : px_on 114 = 8 := rfl
theorem mL_114 : px_mL 114 = 1 := rfl
theorem rt_114 : px_rt 114 = none := rfl
theorem dp_114 : px_dp 114 = 1 := rfl
theorem lc_114 : px_lc 114 = 20 := rfl
theorem nr_114 : px_nr 114 = true := rfl
theorem np_114 : px_np 114 = 0 := rfl
theorem kw_114 : (px_kw 114).1 = 2 := rfl
theorem yn_114 : (px_yn 114).name = "<init>" := rfl
theorem ltM_114 : 114 < px_nM := by decide
theorem on_115 : px_on 115 = 8 := rfl
theorem mL_115 : px_mL 115 = 2 := rfl
theorem rt_115 : px_rt 115 = none := rfl
theorem dp_115 : px_dp 115 = 0 := rfl
theorem lc_115 : px_lc 115 = 0 := rfl
theorem nr_115 : px_nr 115 = true := rfl
theorem np_115 : px_np 115 = 0 := rfl
theorem kw_115 : (px_kw 115).1 = 1 := rfl
theorem yn_115 : (px_yn 115).name = "clear" := rfl
theorem ltM_115 : 115 < px_nM := by decide
theorem on_116 : px_on 116 = 8 := rfl
theorem mL_116 : px_mL 116 = 2 := rfl
theorem rt_116 : px_rt 116 = none := rfl
theorem dp_116 : px_dp 116 = 0 := rfl
theorem lc_116 : px_lc 116 = 0 := rfl
theorem nr_116 : px_nr 116 = true := rfl
theorem np_116 : px_np 116 = 1 := rfl
theorem kw_116 : (px_kw 116).1 = 1 := rfl
theorem yn_116 : (px_yn 116).name = "entry" := rfl
theorem ltM_116 : 116 < px_nM := by decide
theorem on_117 : px_on 117 = 8 := rfl
theorem mL_117 : px_mL 117 = 2 := rfl
theorem rt_117 : px_rt 117 = some FieldType.boolean := rfl
theorem dp_117 : px_dp 117 = 0 := rfl
theorem lc_117 : px_lc 117 = 0 := rfl
theorem nr_117 : px_nr 117 = true := rfl
theorem np_117 : px_np 117 = 1 := rfl
theorem kw_117 : (px_kw 117).1 = 1 := rfl
theorem yn_117 : (px_yn 117).name = "page" := rfl
theorem ltM_117 : 117 < px_nM := by decide
theorem on_118 : px_on 118 = 8 := rfl
theorem mL_118 : px_mL 118 = 4 := rfl
theorem rt_118 : px_rt 118 = some FieldType.boolean := rfl
theorem dp_118 : px_dp 118 = 1 := rfl
theorem lc_118 : px_lc 118 = 20 := rfl
theorem nr_118 : px_nr 118 = true := rfl
theorem np_118 : px_np 118 = 3 := rfl
theorem kw_118 : (px_kw 118).1 = 1 := rfl
theorem yn_118 : (px_yn 118).name = "segment" := rfl
theorem ltM_118 : 118 < px_nM := by decide
theorem fc_118_119 : px_fitc 118 119 = true := by decide +kernel
theorem on_119 : px_on 119 = 8 := rfl
theorem mL_119 : px_mL 119 = 1 := rfl
theorem rt_119 : px_rt 119 = some FieldType.boolean := rfl
theorem dp_119 : px_dp 119 = 0 := rfl
theorem lc_119 : px_lc 119 = 0 := rfl
theorem nr_119 : px_nr 119 = true := rfl
theorem np_119 : px_np 119 = 1 := rfl
theorem kw_119 : (px_kw 119).1 = 0 := rfl
theorem yn_119 : (px_yn 119).name = "isSegment" := rfl
theorem ltM_119 : 119 < px_nM := by decide
theorem on_120 : px_on 120 = 8 := rfl
theorem mL_120 : px_mL 120 = 2 := rfl
theorem rt_120 : px_rt 120 = some FieldType.boolean := rfl
theorem dp_120 : px_dp 120 = 1 := rfl
theorem lc_120 : px_lc 120 = 20 := rfl
theorem nr_120 : px_nr 120 = true := rfl
theorem np_120 : px_np 120 = 1 := rfl
theorem kw_120 : (px_kw 120).1 = 1 := rfl
theorem yn_120 : (px_yn 120).name = "drop" := rfl
theorem ltM_120 : 120 < px_nM := by decide
theorem fc_120_119 : px_fitc 120 119 = true := by decide +kernel
theorem on_121 : px_on 121 = 8 := rfl
theorem mL_121 : px_mL 121 = 6 := rfl
theorem rt_121 : px_rt 121 = some FieldType.boolean := rfl
theorem dp_121 : px_dp 121 = 1 := rfl
theorem lc_121 : px_lc 121 = 22 := rfl
theorem nr_121 : px_nr 121 = true := rfl
theorem np_121 : px_np 121 = 3 := rfl
theorem kw_121 : (px_kw 121).1 = 1 := rfl
theorem yn_121 : (px_yn 121).name = "put" := rfl
theorem ltM_121 : 121 < px_nM := by decide
theorem fc_121_122 : px_fitc 121 122 = true := by decide +kernel
theorem fc_121_119 : px_fitc 121 119 = true := by decide +kernel
theorem on_122 : px_on 122 = 8 := rfl
theorem mL_122 : px_mL 122 = 3 := rfl
theorem rt_122 : px_rt 122 = some FieldType.int := rfl
theorem dp_122 : px_dp 122 = 0 := rfl
theorem lc_122 : px_lc 122 = 0 := rfl
theorem nr_122 : px_nr 122 = true := rfl
theorem np_122 : px_np 122 = 2 := rfl
theorem kw_122 : (px_kw 122).1 = 0 := rfl
theorem yn_122 : (px_yn 122).name = "byteOf" := rfl
theorem ltM_122 : 122 < px_nM := by decide
theorem on_123 : px_on 123 = 8 := rfl
theorem mL_123 : px_mL 123 = 3 := rfl
theorem rt_123 : px_rt 123 = some FieldType.boolean := rfl
theorem dp_123 : px_dp 123 = 0 := rfl
theorem lc_123 : px_lc 123 = 0 := rfl
theorem nr_123 : px_nr 123 = true := rfl
theorem np_123 : px_np 123 = 2 := rfl
theorem kw_123 : (px_kw 123).1 = 1 := rfl
theorem yn_123 : (px_yn 123).name = "mark" := rfl
theorem ltM_123 : 123 < px_nM := by decide
theorem on_124 : px_on 124 = 8 := rfl
theorem mL_124 : px_mL 124 = 8 := rfl
theorem rt_124 : px_rt 124 = some FieldType.int := rfl
theorem dp_124 : px_dp 124 = 5 := rfl
theorem lc_124 : px_lc 124 = 111 := rfl
theorem nr_124 : px_nr 124 = true := rfl
theorem np_124 : px_np 124 = 0 := rfl
theorem kw_124 : (px_kw 124).1 = 1 := rfl
theorem yn_124 : (px_yn 124).name = "write" := rfl
theorem ltM_124 : 124 < px_nM := by decide
theorem fc_124_125 : px_fitc 124 125 = true := by decide +kernel
theorem fc_124_143 : px_fitc 124 143 = true := by decide +kernel
theorem fc_124_134 : px_fitc 124 134 = true := by decide +kernel
theorem fc_124_138 : px_fitc 124 138 = true := by decide +kernel
theorem fc_124_137 : px_fitc 124 137 = true := by decide +kernel
theorem fc_124_140 : px_fitc 124 140 = true := by decide +kernel
theorem fc_124_133 : px_fitc 124 133 = true := by decide +kernel
theorem fc_124_136 : px_fitc 124 136 = true := by decide +kernel
theorem fc_124_135 : px_fitc 124 135 = true := by decide +kernel
theorem fc_124_139 : px_fitc 124 139 = true := by decide +kernel
theorem on_125 : px_on 125 = 8 := rfl
theorem mL_125 : px_mL 125 = 4 := rfl
theorem rt_125 : px_rt 125 = some FieldType.int := rfl
theorem dp_125 : px_dp 125 = 4 := rfl
theorem lc_125 : px_lc 125 = 88 := rfl
theorem nr_125 : px_nr 125 = true := rfl
theorem np_125 : px_np 125 = 1 := rfl
theorem kw_125 : (px_kw 125).1 = 1 := rfl
theorem yn_125 : (px_yn 125).name = "bad" := rfl
theorem ltM_125 : 125 < px_nM := by decide
theorem fc_125_126 : px_fitc 125 126 = true := by decide +kernel
theorem fc_125_132 : px_fitc 125 132 = true := by decide +kernel
theorem fc_125_127 : px_fitc 125 127 = true := by decide +kernel
theorem fc_125_128 : px_fitc 125 128 = true := by decide +kernel
theorem on_126 : px_on 126 = 8 := rfl
theorem mL_126 : px_mL 126 = 2 := rfl
theorem rt_126 : px_rt 126 = some FieldType.int := rfl
theorem dp_126 : px_dp 126 = 0 := rfl
theorem lc_126 : px_lc 126 = 0 := rfl
theorem nr_126 : px_nr 126 = true := rfl
theorem np_126 : px_np 126 = 1 := rfl
theorem kw_126 : (px_kw 126).1 = 1 := rfl
theorem yn_126 : (px_yn 126).name = "endOf" := rfl
theorem ltM_126 : 126 < px_nM := by decide
theorem on_127 : px_on 127 = 8 := rfl
theorem mL_127 : px_mL 127 = 3 := rfl
theorem rt_127 : px_rt 127 = some FieldType.boolean := rfl
theorem dp_127 : px_dp 127 = 1 := rfl
theorem lc_127 : px_lc 127 = 21 := rfl
theorem nr_127 : px_nr 127 = true := rfl
theorem np_127 : px_np 127 = 2 := rfl
theorem kw_127 : (px_kw 127).1 = 1 := rfl
theorem yn_127 : (px_yn 127).name = "meets" := rfl
theorem ltM_127 : 127 < px_nM := by decide
theorem fc_127_126 : px_fitc 127 126 = true := by decide +kernel
theorem on_128 : px_on 128 = 8 := rfl
theorem mL_128 : px_mL 128 = 3 := rfl
theorem rt_128 : px_rt 128 = some FieldType.int := rfl
theorem dp_128 : px_dp 128 = 3 := rfl
theorem lc_128 : px_lc 128 = 66 := rfl
theorem nr_128 : px_nr 128 = true := rfl
theorem np_128 : px_np 128 = 1 := rfl
theorem kw_128 : (px_kw 128).1 = 1 := rfl
theorem yn_128 : (px_yn 128).name = "wrongMark" := rfl
theorem ltM_128 : 128 < px_nM := by decide
theorem fc_128_129 : px_fitc 128 129 = true := by decide +kernel
theorem on_129 : px_on 129 = 8 := rfl
theorem mL_129 : px_mL 129 = 5 := rfl
theorem rt_129 : px_rt 129 = some FieldType.boolean := rfl
theorem dp_129 : px_dp 129 = 2 := rfl
theorem lc_129 : px_lc 129 = 42 := rfl
theorem nr_129 : px_nr 129 = true := rfl
theorem np_129 : px_np 129 = 2 := rfl
theorem kw_129 : (px_kw 129).1 = 1 := rfl
theorem yn_129 : (px_yn 129).name = "isRight" := rfl
theorem ltM_129 : 129 < px_nM := by decide
theorem fc_129_130 : px_fitc 129 130 = true := by decide +kernel
theorem on_130 : px_on 130 = 8 := rfl
theorem mL_130 : px_mL 130 = 3 := rfl
theorem rt_130 : px_rt 130 = some FieldType.int := rfl
theorem dp_130 : px_dp 130 = 1 := rfl
theorem lc_130 : px_lc 130 = 20 := rfl
theorem nr_130 : px_nr 130 = true := rfl
theorem np_130 : px_np 130 = 2 := rfl
theorem kw_130 : (px_kw 130).1 = 1 := rfl
theorem yn_130 : (px_yn 130).name = "sizeOfMark" := rfl
theorem ltM_130 : 130 < px_nM := by decide
theorem fc_130_131 : px_fitc 130 131 = true := by decide +kernel
theorem on_131 : px_on 131 = 8 := rfl
theorem mL_131 : px_mL 131 = 1 := rfl
theorem rt_131 : px_rt 131 = some FieldType.boolean := rfl
theorem dp_131 : px_dp 131 = 0 := rfl
theorem lc_131 : px_lc 131 = 0 := rfl
theorem nr_131 : px_nr 131 = true := rfl
theorem np_131 : px_np 131 = 1 := rfl
theorem kw_131 : (px_kw 131).1 = 0 := rfl
theorem yn_131 : (px_yn 131).name = "isShort" := rfl
theorem ltM_131 : 131 < px_nM := by decide
theorem on_132 : px_on 132 = 8 := rfl
theorem mL_132 : px_mL 132 = 4 := rfl
theorem rt_132 : px_rt 132 = some FieldType.boolean := rfl
theorem dp_132 : px_dp 132 = 0 := rfl
theorem lc_132 : px_lc 132 = 0 := rfl
theorem nr_132 : px_nr 132 = true := rfl
theorem np_132 : px_np 132 = 2 := rfl
theorem kw_132 : (px_kw 132).1 = 1 := rfl
theorem yn_132 : (px_yn 132).name = "isMarkAt" := rfl
theorem ltM_132 : 132 < px_nM := by decide
theorem on_133 : px_on 133 = 8 := rfl
theorem mL_133 : px_mL 133 = 1 := rfl
theorem rt_133 : px_rt 133 = some FieldType.int := rfl
theorem dp_133 : px_dp 133 = 0 := rfl
theorem lc_133 : px_lc 133 = 0 := rfl
theorem nr_133 : px_nr 133 = true := rfl
theorem np_133 : px_np 133 = 1 := rfl
theorem kw_133 : (px_kw 133).1 = 0 := rfl
theorem yn_133 : (px_yn 133).name = "upTo4" := rfl
theorem ltM_133 : 133 < px_nM := by decide
theorem on_134 : px_on 134 = 8 := rfl
theorem mL_134 : px_mL 134 = 2 := rfl
theorem rt_134 : px_rt 134 = some FieldType.int := rfl
theorem dp_134 : px_dp 134 = 0 := rfl
theorem lc_134 : px_lc 134 = 0 := rfl
theorem nr_134 : px_nr 134 = true := rfl
theorem np_134 : px_np 134 = 1 := rfl
theorem kw_134 : (px_kw 134).1 = 1 := rfl
theorem yn_134 : (px_yn 134).name = "markBytes" := rfl
theorem ltM_134 : 134 < px_nM := by decide
theorem on_135 : px_on 135 = 8 := rfl
theorem mL_135 : px_mL 135 = 3 := rfl
theorem rt_135 : px_rt 135 = none := rfl
theorem dp_135 : px_dp 135 = 1 := rfl
theorem lc_135 : px_lc 135 = 22 := rfl
theorem nr_135 : px_nr 135 = true := rfl
theorem np_135 : px_np 135 = 2 := rfl
theorem kw_135 : (px_kw 135).1 = 1 := rfl
theorem yn_135 : (px_yn 135).name = "write4" := rfl
theorem ltM_135 : 135 < px_nM := by decide
theorem fc_135_136 : px_fitc 135 136 = true := by decide +kernel
theorem on_136 : px_on 136 = 8 := rfl
theorem mL_136 : px_mL 136 = 3 := rfl
theorem rt_136 : px_rt 136 = none := rfl
theorem dp_136 : px_dp 136 = 0 := rfl
theorem lc_136 : px_lc 136 = 0 := rfl
theorem nr_136 : px_nr 136 = true := rfl
theorem np_136 : px_np 136 = 2 := rfl
theorem kw_136 : (px_kw 136).1 = 1 := rfl
theorem yn_136 : (px_yn 136).name = "write2" := rfl
theorem ltM_136 : 136 < px_nM := by decide
theorem on_137 : px_on 137 = 8 := rfl
theorem mL_137 : px_mL 137 = 4 := rfl
theorem rt_137 : px_rt 137 = some FieldType.int := rfl
theorem dp_137 : px_dp 137 = 2 := rfl
theorem lc_137 : px_lc 137 = 42 := rfl
theorem nr_137 : px_nr 137 = true := rfl
theorem np_137 : px_np 137 = 1 := rfl
theorem kw_137 : (px_kw 137).1 = 1 := rfl
theorem yn_137 : (px_yn 137).name = "shortsIn" := rfl
theorem ltM_137 : 137 < px_nM := by decide
theorem fc_137_130 : px_fitc 137 130 = true := by decide +kernel
theorem on_138 : px_on 138 = 8 := rfl
theorem mL_138 : px_mL 138 = 1 := rfl
theorem rt_138 : px_rt 138 = some FieldType.int := rfl
theorem dp_138 : px_dp 138 = 0 := rfl
theorem lc_138 : px_lc 138 = 0 := rfl
theorem nr_138 : px_nr 138 = true := rfl
theorem np_138 : px_np 138 = 1 := rfl
theorem kw_138 : (px_kw 138).1 = 0 := rfl
theorem yn_138 : (px_yn 138).name = "rightsOf" := rfl
theorem ltM_138 : 138 < px_nM := by decide
theorem on_139 : px_on 139 = 8 := rfl
theorem mL_139 : px_mL 139 = 9 := rfl
theorem rt_139 : px_rt 139 = none := rfl
theorem dp_139 : px_dp 139 = 2 := rfl
theorem lc_139 : px_lc 139 = 44 := rfl
theorem nr_139 : px_nr 139 = true := rfl
theorem np_139 : px_np 139 = 8 := rfl
theorem kw_139 : (px_kw 139).1 = 1 := rfl
theorem yn_139 : (px_yn 139).name = "writeRow" := rfl
theorem ltM_139 : 139 < px_nM := by decide
theorem fc_139_135 : px_fitc 139 135 = true := by decide +kernel
theorem on_140 : px_on 140 = 8 := rfl
theorem mL_140 : px_mL 140 = 4 := rfl
theorem rt_140 : px_rt 140 = some FieldType.int := rfl
theorem dp_140 : px_dp 140 = 2 := rfl
theorem lc_140 : px_lc 140 = 45 := rfl
theorem nr_140 : px_nr 140 = true := rfl
theorem np_140 : px_np 140 = 1 := rfl
theorem kw_140 : (px_kw 140).1 = 1 := rfl
theorem yn_140 : (px_yn 140).name = "sumOf" := rfl
theorem ltM_140 : 140 < px_nM := by decide
theorem fc_140_142 : px_fitc 140 142 = true := by decide +kernel
theorem fc_140_141 : px_fitc 140 141 = true := by decide +kernel
theorem fc_140_143 : px_fitc 140 143 = true := by decide +kernel
theorem fc_140_134 : px_fitc 140 134 = true := by decide +kernel
theorem on_141 : px_on 141 = 8 := rfl
theorem mL_141 : px_mL 141 = 3 := rfl
theorem rt_141 : px_rt 141 = none := rfl
theorem dp_141 : px_dp 141 = 1 := rfl
theorem lc_141 : px_lc 141 = 23 := rfl
theorem nr_141 : px_nr 141 = true := rfl
theorem np_141 : px_np 141 = 1 := rfl
theorem kw_141 : (px_kw 141).1 = 1 := rfl
theorem yn_141 : (px_yn 141).name = "addNumber" := rfl
theorem ltM_141 : 141 < px_nM := by decide
theorem fc_141_142 : px_fitc 141 142 = true := by decide +kernel
theorem on_142 : px_on 142 = 8 := rfl
theorem mL_142 : px_mL 142 = 4 := rfl
theorem rt_142 : px_rt 142 = none := rfl
theorem dp_142 : px_dp 142 = 0 := rfl
theorem lc_142 : px_lc 142 = 0 := rfl
theorem nr_142 : px_nr 142 = true := rfl
theorem np_142 : px_np 142 = 1 := rfl
theorem kw_142 : (px_kw 142).1 = 1 := rfl
theorem yn_142 : (px_yn 142).name = "addByte" := rfl
theorem ltM_142 : 142 < px_nM := by decide
theorem on_143 : px_on 143 = 8 := rfl
theorem mL_143 : px_mL 143 = 5 := rfl
theorem rt_143 : px_rt 143 = some FieldType.int := rfl
theorem dp_143 : px_dp 143 = 0 := rfl
theorem lc_143 : px_lc 143 = 0 := rfl
theorem nr_143 : px_nr 143 = true := rfl
theorem np_143 : px_np 143 = 2 := rfl
theorem kw_143 : (px_kw 143).1 = 1 := rfl
theorem yn_143 : (px_yn 143).name = "markByte" := rfl
theorem ltM_143 : 143 < px_nM := by decide
theorem on_144 : px_on 144 = 8 := rfl
theorem mL_144 : px_mL 144 = 1 := rfl
theorem rt_144 : px_rt 144 = some FieldType.int := rfl
theorem dp_144 : px_dp 144 = 0 := rfl
theorem lc_144 : px_lc 144 = 0 := rfl
theorem nr_144 : px_nr 144 = true := rfl
theorem np_144 : px_np 144 = 0 := rfl
theorem kw_144 : (px_kw 144).1 = 1 := rfl
theorem yn_144 : (px_yn 144).name = "size" := rfl
theorem ltM_144 : 144 < px_nM := by decide
theorem on_145 : px_on 145 = 8 := rfl
theorem mL_145 : px_mL 145 = 2 := rfl
theorem rt_145 : px_rt 145 = some FieldType.int := rfl
theorem dp_145 : px_dp 145 = 0 := rfl
theorem lc_145 : px_lc 145 = 0 := rfl
theorem nr_145 : px_nr 145 = true := rfl
theorem np_145 : px_np 145 = 1 := rfl
theorem kw_145 : (px_kw 145).1 = 1 := rfl
theorem yn_145 : (px_yn 145).name = "byteAt" := rfl
theorem ltM_145 : 145 < px_nM := by decide
theorem on_146 : px_on 146 = 8 := rfl
theorem mL_146 : px_mL 146 = 5 := rfl
theorem rt_146 : px_rt 146 = some FieldType.boolean := rfl
theorem dp_146 : px_dp 146 = 1 := rfl
theorem lc_146 : px_lc 146 = 22 := rfl
theorem nr_146 : px_nr 146 = true := rfl
theorem np_146 : px_np 146 = 2 := rfl
theorem kw_146 : (px_kw 146).1 = 1 := rfl
theorem yn_146 : (px_yn 146).name = "feed" := rfl
theorem ltM_146 : 146 < px_nM := by decide
theorem fc_146_122 : px_fitc 146 122 = true := by decide +kernel
theorem on_147 : px_on 147 = 8 := rfl
theorem mL_147 : px_mL 147 = 2 := rfl
theorem rt_147 : px_rt 147 = some FieldType.boolean := rfl
theorem dp_147 : px_dp 147 = 0 := rfl
theorem lc_147 : px_lc 147 = 0 := rfl
theorem nr_147 : px_nr 147 = true := rfl
theorem np_147 : px_np 147 = 1 := rfl
theorem kw_147 : (px_kw 147).1 = 1 := rfl
theorem yn_147 : (px_yn 147).name = "cut" := rfl
theorem ltM_147 : 147 < px_nM := by decide
theorem on_148 : px_on 148 = 8 := rfl
theorem mL_148 : px_mL 148 = 4 := rfl
theorem rt_148 : px_rt 148 = some FieldType.int := rfl
theorem dp_148 : px_dp 148 = 0 := rfl
theorem lc_148 : px_lc 148 = 0 := rfl
theorem nr_148 : px_nr 148 = true := rfl
theorem np_148 : px_np 148 = 2 := rfl
theorem kw_148 : (px_kw 148).1 = 1 := rfl
theorem yn_148 : (px_yn 148).name = "spoil" := rfl
theorem ltM_148 : 148 < px_nM := by decide
theorem on_149 : px_on 149 = 8 := rfl
theorem mL_149 : px_mL 149 = 5 := rfl
theorem rt_149 : px_rt 149 = some FieldType.int := rfl
theorem dp_149 : px_dp 149 = 7 := rfl
theorem lc_149 : px_lc 149 = 152 := rfl
theorem nr_149 : px_nr 149 = true := rfl
theorem np_149 : px_np 149 = 0 := rfl
theorem kw_149 : (px_kw 149).1 = 1 := rfl
theorem yn_149 : (px_yn 149).name = "read" := rfl
theorem ltM_149 : 149 < px_nM := by decide
theorem fc_149_150 : px_fitc 149 150 = true := by decide +kernel
theorem fc_149_159 : px_fitc 149 159 = true := by decide +kernel
theorem fc_149_166 : px_fitc 149 166 = true := by decide +kernel
theorem fc_149_168 : px_fitc 149 168 = true := by decide +kernel
theorem fc_149_165 : px_fitc 149 165 = true := by decide +kernel
theorem fc_149_155 : px_fitc 149 155 = true := by decide +kernel
theorem fc_149_153 : px_fitc 149 153 = true := by decide +kernel
theorem fc_149_154 : px_fitc 149 154 = true := by decide +kernel
theorem on_150 : px_on 150 = 8 := rfl
theorem mL_150 : px_mL 150 = 4 := rfl
theorem rt_150 : px_rt 150 = some FieldType.int := rfl
theorem dp_150 : px_dp 150 = 2 := rfl
theorem lc_150 : px_lc 150 = 42 := rfl
theorem nr_150 : px_nr 150 = true := rfl
theorem np_150 : px_np 150 = 0 := rfl
theorem kw_150 : (px_kw 150).1 = 1 := rfl
theorem yn_150 : (px_yn 150).name = "headFault" := rfl
theorem ltM_150 : 150 < px_nM := by decide
theorem fc_150_151 : px_fitc 150 151 = true := by decide +kernel
theorem fc_150_152 : px_fitc 150 152 = true := by decide +kernel
theorem fc_150_153 : px_fitc 150 153 = true := by decide +kernel
theorem on_151 : px_on 151 = 8 := rfl
theorem mL_151 : px_mL 151 = 3 := rfl
theorem rt_151 : px_rt 151 = some FieldType.int := rfl
theorem dp_151 : px_dp 151 = 0 := rfl
theorem lc_151 : px_lc 151 = 0 := rfl
theorem nr_151 : px_nr 151 = true := rfl
theorem np_151 : px_np 151 = 2 := rfl
theorem kw_151 : (px_kw 151).1 = 1 := rfl
theorem yn_151 : (px_yn 151).name = "fault" := rfl
theorem ltM_151 : 151 < px_nM := by decide
theorem on_152 : px_on 152 = 8 := rfl
theorem mL_152 : px_mL 152 = 2 := rfl
theorem rt_152 : px_rt 152 = some FieldType.int := rfl
theorem dp_152 : px_dp 152 = 0 := rfl
theorem lc_152 : px_lc 152 = 0 := rfl
theorem nr_152 : px_nr 152 = true := rfl
theorem np_152 : px_np 152 = 1 := rfl
theorem kw_152 : (px_kw 152).1 = 1 := rfl
theorem yn_152 : (px_yn 152).name = "read2" := rfl
theorem ltM_152 : 152 < px_nM := by decide
theorem on_153 : px_on 153 = 8 := rfl
theorem mL_153 : px_mL 153 = 2 := rfl
theorem rt_153 : px_rt 153 = some FieldType.long := rfl
theorem dp_153 : px_dp 153 = 1 := rfl
theorem lc_153 : px_lc 153 = 21 := rfl
theorem nr_153 : px_nr 153 = true := rfl
theorem np_153 : px_np 153 = 1 := rfl
theorem kw_153 : (px_kw 153).1 = 1 := rfl
theorem yn_153 : (px_yn 153).name = "read4" := rfl
theorem ltM_153 : 153 < px_nM := by decide
theorem fc_153_152 : px_fitc 153 152 = true := by decide +kernel
theorem on_154 : px_on 154 = 8 := rfl
theorem mL_154 : px_mL 154 = 19 := rfl
theorem rt_154 : px_rt 154 = some FieldType.int := rfl
theorem dp_154 : px_dp 154 = 4 := rfl
theorem lc_154 : px_lc 154 = 87 := rfl
theorem nr_154 : px_nr 154 = true := rfl
theorem np_154 : px_np 154 = 1 := rfl
theorem kw_154 : (px_kw 154).1 = 1 := rfl
theorem yn_154 : (px_yn 154).name = "rowFault" := rfl
theorem ltM_154 : 154 < px_nM := by decide
theorem fc_154_151 : px_fitc 154 151 = true := by decide +kernel
theorem fc_154_157 : px_fitc 154 157 = true := by decide +kernel
theorem fc_154_155 : px_fitc 154 155 = true := by decide +kernel
theorem fc_154_158 : px_fitc 154 158 = true := by decide +kernel
theorem fc_154_156 : px_fitc 154 156 = true := by decide +kernel
theorem on_155 : px_on 155 = 8 := rfl
theorem mL_155 : px_mL 155 = 3 := rfl
theorem rt_155 : px_rt 155 = some FieldType.long := rfl
theorem dp_155 : px_dp 155 = 2 := rfl
theorem lc_155 : px_lc 155 = 42 := rfl
theorem nr_155 : px_nr 155 = true := rfl
theorem np_155 : px_np 155 = 2 := rfl
theorem kw_155 : (px_kw 155).1 = 1 := rfl
theorem yn_155 : (px_yn 155).name = "number" := rfl
theorem ltM_155 : 155 < px_nM := by decide
theorem fc_155_153 : px_fitc 155 153 = true := by decide +kernel
theorem fc_155_156 : px_fitc 155 156 = true := by decide +kernel
theorem on_156 : px_on 156 = 8 := rfl
theorem mL_156 : px_mL 156 = 3 := rfl
theorem rt_156 : px_rt 156 = some FieldType.int := rfl
theorem dp_156 : px_dp 156 = 0 := rfl
theorem lc_156 : px_lc 156 = 0 := rfl
theorem nr_156 : px_nr 156 = true := rfl
theorem np_156 : px_np 156 = 2 := rfl
theorem kw_156 : (px_kw 156).1 = 1 := rfl
theorem yn_156 : (px_yn 156).name = "spot" := rfl
theorem ltM_156 : 156 < px_nM := by decide
theorem on_157 : px_on 157 = 8 := rfl
theorem mL_157 : px_mL 157 = 5 := rfl
theorem rt_157 : px_rt 157 = some FieldType.boolean := rfl
theorem dp_157 : px_dp 157 = 0 := rfl
theorem lc_157 : px_lc 157 = 0 := rfl
theorem nr_157 : px_nr 157 = true := rfl
theorem np_157 : px_np 157 = 1 := rfl
theorem kw_157 : (px_kw 157).1 = 0 := rfl
theorem yn_157 : (px_yn 157).name = "isPower" := rfl
theorem ltM_157 : 157 < px_nM := by decide
theorem on_158 : px_on 158 = 8 := rfl
theorem mL_158 : px_mL 158 = 4 := rfl
theorem rt_158 : px_rt 158 = some FieldType.int := rfl
theorem dp_158 : px_dp 158 = 3 := rfl
theorem lc_158 : px_lc 158 = 64 := rfl
theorem nr_158 : px_nr 158 = true := rfl
theorem np_158 : px_np 158 = 1 := rfl
theorem kw_158 : (px_kw 158).1 = 1 := rfl
theorem yn_158 : (px_yn 158).name = "sortOf" := rfl
theorem ltM_158 : 158 < px_nM := by decide
theorem fc_158_155 : px_fitc 158 155 = true := by decide +kernel
theorem on_159 : px_on 159 = 8 := rfl
theorem mL_159 : px_mL 159 = 3 := rfl
theorem rt_159 : px_rt 159 = some FieldType.int := rfl
theorem dp_159 : px_dp 159 = 6 := rfl
theorem lc_159 : px_lc 159 = 130 := rfl
theorem nr_159 : px_nr 159 = true := rfl
theorem np_159 : px_np 159 = 0 := rfl
theorem kw_159 : (px_kw 159).1 = 1 := rfl
theorem yn_159 : (px_yn 159).name = "imageFault" := rfl
theorem ltM_159 : 159 < px_nM := by decide
theorem fc_159_160 : px_fitc 159 160 = true := by decide +kernel
theorem fc_159_151 : px_fitc 159 151 = true := by decide +kernel
theorem fc_159_161 : px_fitc 159 161 = true := by decide +kernel
theorem fc_159_163 : px_fitc 159 163 = true := by decide +kernel
theorem fc_159_155 : px_fitc 159 155 = true := by decide +kernel
theorem fc_159_156 : px_fitc 159 156 = true := by decide +kernel
theorem on_160 : px_on 160 = 8 := rfl
theorem mL_160 : px_mL 160 = 2 := rfl
theorem rt_160 : px_rt 160 = some FieldType.long := rfl
theorem dp_160 : px_dp 160 = 3 := rfl
theorem lc_160 : px_lc 160 = 64 := rfl
theorem nr_160 : px_nr 160 = true := rfl
theorem np_160 : px_np 160 = 1 := rfl
theorem kw_160 : (px_kw 160).1 = 1 := rfl
theorem yn_160 : (px_yn 160).name = "endIn" := rfl
theorem ltM_160 : 160 < px_nM := by decide
theorem fc_160_155 : px_fitc 160 155 = true := by decide +kernel
theorem on_161 : px_on 161 = 8 := rfl
theorem mL_161 : px_mL 161 = 4 := rfl
theorem rt_161 : px_rt 161 = some FieldType.int := rfl
theorem dp_161 : px_dp 161 = 5 := rfl
theorem lc_161 : px_lc 161 = 107 := rfl
theorem nr_161 : px_nr 161 = true := rfl
theorem np_161 : px_np 161 = 2 := rfl
theorem kw_161 : (px_kw 161).1 = 1 := rfl
theorem yn_161 : (px_yn 161).name = "meetFault" := rfl
theorem ltM_161 : 161 < px_nM := by decide
theorem fc_161_151 : px_fitc 161 151 = true := by decide +kernel
theorem fc_161_162 : px_fitc 161 162 = true := by decide +kernel
theorem fc_161_156 : px_fitc 161 156 = true := by decide +kernel
theorem on_162 : px_on 162 = 8 := rfl
theorem mL_162 : px_mL 162 = 3 := rfl
theorem rt_162 : px_rt 162 = some FieldType.boolean := rfl
theorem dp_162 : px_dp 162 = 4 := rfl
theorem lc_162 : px_lc 162 = 85 := rfl
theorem nr_162 : px_nr 162 = true := rfl
theorem np_162 : px_np 162 = 2 := rfl
theorem kw_162 : (px_kw 162).1 = 1 := rfl
theorem yn_162 : (px_yn 162).name = "meetsIn" := rfl
theorem ltM_162 : 162 < px_nM := by decide
theorem fc_162_160 : px_fitc 162 160 = true := by decide +kernel
theorem fc_162_155 : px_fitc 162 155 = true := by decide +kernel
theorem on_163 : px_on 163 = 8 := rfl
theorem mL_163 : px_mL 163 = 8 := rfl
theorem rt_163 : px_rt 163 = some FieldType.int := rfl
theorem dp_163 : px_dp 163 = 2 := rfl
theorem lc_163 : px_lc 163 = 42 := rfl
theorem nr_163 : px_nr 163 = true := rfl
theorem np_163 : px_np 163 = 3 := rfl
theorem kw_163 : (px_kw 163).1 = 1 := rfl
theorem yn_163 : (px_yn 163).name = "noteFault" := rfl
theorem ltM_163 : 163 < px_nM := by decide
theorem fc_163_151 : px_fitc 163 151 = true := by decide +kernel
theorem fc_163_164 : px_fitc 163 164 = true := by decide +kernel
theorem fc_163_153 : px_fitc 163 153 = true := by decide +kernel
theorem fc_163_156 : px_fitc 163 156 = true := by decide +kernel
theorem fc_163_133 : px_fitc 163 133 = true := by decide +kernel
theorem on_164 : px_on 164 = 8 := rfl
theorem mL_164 : px_mL 164 = 1 := rfl
theorem rt_164 : px_rt 164 = some FieldType.int := rfl
theorem dp_164 : px_dp 164 = 0 := rfl
theorem lc_164 : px_lc 164 = 0 := rfl
theorem nr_164 : px_nr 164 = true := rfl
theorem np_164 : px_np 164 = 1 := rfl
theorem kw_164 : (px_kw 164).1 = 0 := rfl
theorem yn_164 : (px_yn 164).name = "nameByte" := rfl
theorem ltM_164 : 164 < px_nM := by decide
theorem on_165 : px_on 165 = 8 := rfl
theorem mL_165 : px_mL 165 = 5 := rfl
theorem rt_165 : px_rt 165 = some FieldType.int := rfl
theorem dp_165 : px_dp 165 = 4 := rfl
theorem lc_165 : px_lc 165 = 85 := rfl
theorem nr_165 : px_nr 165 = true := rfl
theorem np_165 : px_np 165 = 0 := rfl
theorem kw_165 : (px_kw 165).1 = 1 := rfl
theorem yn_165 : (px_yn 165).name = "markFaults" := rfl
theorem ltM_165 : 165 < px_nM := by decide
theorem fc_165_151 : px_fitc 165 151 = true := by decide +kernel
theorem fc_165_166 : px_fitc 165 166 = true := by decide +kernel
theorem fc_165_167 : px_fitc 165 167 = true := by decide +kernel
theorem fc_165_155 : px_fitc 165 155 = true := by decide +kernel
theorem fc_165_153 : px_fitc 165 153 = true := by decide +kernel
theorem on_166 : px_on 166 = 8 := rfl
theorem mL_166 : px_mL 166 = 2 := rfl
theorem rt_166 : px_rt 166 = some FieldType.boolean := rfl
theorem dp_166 : px_dp 166 = 3 := rfl
theorem lc_166 : px_lc 166 = 64 := rfl
theorem nr_166 : px_nr 166 = true := rfl
theorem np_166 : px_np 166 = 1 := rfl
theorem kw_166 : (px_kw 166).1 = 1 := rfl
theorem yn_166 : (px_yn 166).name = "isMarkIn" := rfl
theorem ltM_166 : 166 < px_nM := by decide
theorem fc_166_155 : px_fitc 166 155 = true := by decide +kernel
theorem on_167 : px_on 167 = 8 := rfl
theorem mL_167 : px_mL 167 = 2 := rfl
theorem rt_167 : px_rt 167 = some FieldType.boolean := rfl
theorem dp_167 : px_dp 167 = 3 := rfl
theorem lc_167 : px_lc 167 = 64 := rfl
theorem nr_167 : px_nr 167 = true := rfl
theorem np_167 : px_np 167 = 1 := rfl
theorem kw_167 : (px_kw 167).1 = 1 := rfl
theorem yn_167 : (px_yn 167).name = "isShortIn" := rfl
theorem ltM_167 : 167 < px_nM := by decide
theorem fc_167_131 : px_fitc 167 131 = true := by decide +kernel
theorem fc_167_155 : px_fitc 167 155 = true := by decide +kernel
theorem on_168 : px_on 168 = 8 := rfl
theorem mL_168 : px_mL 168 = 4 := rfl
theorem rt_168 : px_rt 168 = some FieldType.int := rfl
theorem dp_168 : px_dp 168 = 4 := rfl
theorem lc_168 : px_lc 168 = 87 := rfl
theorem nr_168 : px_nr 168 = true := rfl
theorem np_168 : px_np 168 = 0 := rfl
theorem kw_168 : (px_kw 168).1 = 1 := rfl
theorem yn_168 : (px_yn 168).name = "lastFaults" := rfl
theorem ltM_168 : 168 < px_nM := by decide
theorem fc_168_151 : px_fitc 168 151 = true := by decide +kernel
theorem fc_168_166 : px_fitc 168 166 = true := by decide +kernel
theorem fc_168_167 : px_fitc 168 167 = true := by decide +kernel
theorem fc_168_155 : px_fitc 168 155 = true := by decide +kernel
theorem fc_168_153 : px_fitc 168 153 = true := by decide +kernel
theorem fc_168_169 : px_fitc 168 169 = true := by decide +kernel
theorem on_169 : px_on 169 = 8 := rfl
theorem mL_169 : px_mL 169 = 4 := rfl
theorem rt_169 : px_rt 169 = some FieldType.int := rfl
theorem dp_169 : px_dp 169 = 3 := rfl
theorem lc_169 : px_lc 169 = 64 := rfl
theorem nr_169 : px_nr 169 = true := rfl
theorem np_169 : px_np 169 = 0 := rfl
theorem kw_169 : (px_kw 169).1 = 1 := rfl
theorem yn_169 : (px_yn 169).name = "sumIn" := rfl
theorem ltM_169 : 169 < px_nM := by decide
theorem fc_169_142 : px_fitc 169 142 = true := by decide +kernel
theorem fc_169_141 : px_fitc 169 141 = true := by decide +kernel
theorem fc_169_155 : px_fitc 169 155 = true := by decide +kernel
theorem fc_169_153 : px_fitc 169 153 = true := by decide +kernel
theorem on_170 : px_on 170 = 8 := rfl
theorem mL_170 : px_mL 170 = 1 := rfl
theorem rt_170 : px_rt 170 = some FieldType.int := rfl
theorem dp_170 : px_dp 170 = 0 := rfl
theorem lc_170 : px_lc 170 = 0 := rfl
theorem nr_170 : px_nr 170 = true := rfl
theorem np_170 : px_np 170 = 0 := rfl
theorem kw_170 : (px_kw 170).1 = 1 := rfl
theorem yn_170 : (px_yn 170).name = "place" := rfl
theorem ltM_170 : 170 < px_nM := by decide
theorem on_171 : px_on 171 = 8 := rfl
theorem mL_171 : px_mL 171 = 3 := rfl
theorem rt_171 : px_rt 171 = none := rfl
theorem dp_171 : px_dp 171 = 0 := rfl
theorem lc_171 : px_lc 171 = 0 := rfl
theorem nr_171 : px_nr 171 = true := rfl
theorem np_171 : px_np 171 = 0 := rfl
theorem kw_171 : (px_kw 171).1 = 1 := rfl
theorem yn_171 : (px_yn 171).name = "keep" := rfl
theorem ltM_171 : 171 < px_nM := by decide
theorem on_172 : px_on 172 = 8 := rfl
theorem mL_172 : px_mL 172 = 3 := rfl
theorem rt_172 : px_rt 172 = some FieldType.int := rfl
theorem dp_172 : px_dp 172 = 1 := rfl
theorem lc_172 : px_lc 172 = 20 := rfl
theorem nr_172 : px_nr 172 = true := rfl
theorem np_172 : px_np 172 = 2 := rfl
theorem kw_172 : (px_kw 172).1 = 1 := rfl
theorem yn_172 : (px_yn 172).name = "about" := rfl
theorem ltM_172 : 172 < px_nM := by decide
theorem fc_172_119 : px_fitc 172 119 = true := by decide +kernel
theorem on_173 : px_on 173 = 8 := rfl
theorem mL_173 : px_mL 173 = 2 := rfl
theorem rt_173 : px_rt 173 = some FieldType.int := rfl
theorem dp_173 : px_dp 173 = 3 := rfl
theorem lc_173 : px_lc 173 = 68 := rfl
theorem nr_173 : px_nr 173 = true := rfl
theorem np_173 : px_np 173 = 1 := rfl
theorem kw_173 : (px_kw 173).1 = 1 := rfl
theorem yn_173 : (px_yn 173).name = "told" := rfl
theorem ltM_173 : 173 < px_nM := by decide
theorem fc_173_174 : px_fitc 173 174 = true := by decide +kernel
theorem fc_173_137 : px_fitc 173 137 = true := by decide +kernel
theorem fc_173_140 : px_fitc 173 140 = true := by decide +kernel
theorem on_174 : px_on 174 = 8 := rfl
theorem mL_174 : px_mL 174 = 4 := rfl
theorem rt_174 : px_rt 174 = some FieldType.int := rfl
theorem dp_174 : px_dp 174 = 0 := rfl
theorem lc_174 : px_lc 174 = 0 := rfl
theorem nr_174 : px_nr 174 = true := rfl
theorem np_174 : px_np 174 = 1 := rfl
theorem kw_174 : (px_kw 174).1 = 1 := rfl
theorem yn_174 : (px_yn 174).name = "marksIn" := rfl
theorem ltM_174 : 174 < px_nM := by decide
theorem on_175 : px_on 175 = 8 := rfl
theorem mL_175 : px_mL 175 = 3 := rfl
theorem rt_175 : px_rt 175 = some FieldType.int := rfl
theorem dp_175 : px_dp 175 = 2 := rfl
theorem lc_175 : px_lc 175 = 43 := rfl
theorem nr_175 : px_nr 175 = true := rfl
theorem np_175 : px_np 175 = 1 := rfl
theorem kw_175 : (px_kw 175).1 = 1 := rfl
theorem yn_175 : (px_yn 175).name = "byteIn" := rfl
theorem ltM_175 : 175 < px_nM := by decide
theorem fc_175_176 : px_fitc 175 176 = true := by decide +kernel
theorem on_176 : px_on 176 = 8 := rfl
theorem mL_176 : px_mL 176 = 3 := rfl
theorem rt_176 : px_rt 176 = some FieldType.int := rfl
theorem dp_176 : px_dp 176 = 1 := rfl
theorem lc_176 : px_lc 176 = 21 := rfl
theorem nr_176 : px_nr 176 = true := rfl
theorem np_176 : px_np 176 = 1 := rfl
theorem kw_176 : (px_kw 176).1 = 1 := rfl
theorem yn_176 : (px_yn 176).name = "segmentAt" := rfl
theorem ltM_176 : 176 < px_nM := by decide
theorem fc_176_126 : px_fitc 176 126 = true := by decide +kernel
theorem on_177 : px_on 177 = 8 := rfl
theorem mL_177 : px_mL 177 = 5 := rfl
theorem rt_177 : px_rt 177 = some FieldType.int := rfl
theorem dp_177 : px_dp 177 = 3 := rfl
theorem lc_177 : px_lc 177 = 65 := rfl
theorem nr_177 : px_nr 177 = true := rfl
theorem np_177 : px_np 177 = 1 := rfl
theorem kw_177 : (px_kw 177).1 = 1 := rfl
theorem yn_177 : (px_yn 177).name = "wordIn" := rfl
theorem ltM_177 : 177 < px_nM := by decide
theorem fc_177_175 : px_fitc 177 175 = true := by decide +kernel
theorem on_178 : px_on 178 = 8 := rfl
theorem mL_178 : px_mL 178 = 3 := rfl
theorem rt_178 : px_rt 178 = some FieldType.int := rfl
theorem dp_178 : px_dp 178 = 2 := rfl
theorem lc_178 : px_lc 178 = 43 := rfl
theorem nr_178 : px_nr 178 = true := rfl
theorem np_178 : px_np 178 = 1 := rfl
theorem kw_178 : (px_kw 178).1 = 1 := rfl
theorem yn_178 : (px_yn 178).name = "rights" := rfl
theorem ltM_178 : 178 < px_nM := by decide
theorem fc_178_138 : px_fitc 178 138 = true := by decide +kernel
theorem fc_178_176 : px_fitc 178 176 = true := by decide +kernel
theorem on_179 : px_on 179 = 8 := rfl
theorem mL_179 : px_mL 179 = 2 := rfl
theorem rt_179 : px_rt 179 = some FieldType.int := rfl
theorem dp_179 : px_dp 179 = 2 := rfl
theorem lc_179 : px_lc 179 = 42 := rfl
theorem nr_179 : px_nr 179 = true := rfl
theorem np_179 : px_np 179 = 1 := rfl
theorem kw_179 : (px_kw 179).1 = 1 := rfl
theorem yn_179 : (px_yn 179).name = "marked" := rfl
theorem ltM_179 : 179 < px_nM := by decide
theorem fc_179_132 : px_fitc 179 132 = true := by decide +kernel
theorem fc_179_130 : px_fitc 179 130 = true := by decide +kernel
theorem on_180 : px_on 180 = 8 := rfl
theorem mL_180 : px_mL 180 = 4 := rfl
theorem rt_180 : px_rt 180 = some FieldType.int := rfl
theorem dp_180 : px_dp 180 = 0 := rfl
theorem lc_180 : px_lc 180 = 0 := rfl
theorem nr_180 : px_nr 180 = true := rfl
theorem np_180 : px_np 180 = 1 := rfl
theorem kw_180 : (px_kw 180).1 = 1 := rfl
theorem yn_180 : (px_yn 180).name = "markBelow" := rfl
theorem ltM_180 : 180 < px_nM := by decide
theorem on_181 : px_on 181 = 10 := rfl
theorem mL_181 : px_mL 181 = 4 := rfl
theorem rt_181 : px_rt 181 = some FieldType.boolean := rfl
theorem dp_181 : px_dp 181 = 9 := rfl
theorem lc_181 : px_lc 181 = 209 := rfl
theorem nr_181 : px_nr 181 = false := rfl
theorem np_181 : px_np 181 = 1 := rfl
theorem kw_181 : (px_kw 181).1 = 9 := rfl
theorem yn_181 : (px_yn 181).name = "law" := rfl
theorem fc_181_0 : px_fitc 181 0 = true := by decide +kernel
theorem fc_181_100 : px_fitc 181 100 = true := by decide +kernel
theorem fc_181_65 : px_fitc 181 65 = true := by decide +kernel
theorem fc_181_104 : px_fitc 181 104 = true := by decide +kernel
theorem fc_181_6 : px_fitc 181 6 = true := by decide +kernel
theorem fc_181_67 : px_fitc 181 67 = true := by decide +kernel
theorem fc_181_16 : px_fitc 181 16 = true := by decide +kernel
theorem fc_181_11 : px_fitc 181 11 = true := by decide +kernel
theorem fc_181_66 : px_fitc 181 66 = true := by decide +kernel
theorem fc_181_99 : px_fitc 181 99 = true := by decide +kernel
theorem fc_181_21 : px_fitc 181 21 = true := by decide +kernel
theorem fc_181_112 : px_fitc 181 112 = true := by decide +kernel
theorem fc_181_111 : px_fitc 181 111 = true := by decide +kernel
theorem fc_181_12 : px_fitc 181 12 = true := by decide +kernel
theorem fc_181_98 : px_fitc 181 98 = true := by decide +kernel
theorem fc_181_17 : px_fitc 181 17 = true := by decide +kernel
theorem fc_181_70 : px_fitc 181 70 = true := by decide +kernel
theorem fc_181_110 : px_fitc 181 110 = true := by decide +kernel
theorem fc_181_13 : px_fitc 181 13 = true := by decide +kernel
theorem fc_181_64 : px_fitc 181 64 = true := by decide +kernel
theorem fc_181_68 : px_fitc 181 68 = true := by decide +kernel
theorem fc_181_102 : px_fitc 181 102 = true := by decide +kernel
theorem fc_181_109 : px_fitc 181 109 = true := by decide +kernel
theorem fc_181_26 : px_fitc 181 26 = true := by decide +kernel
theorem fc_181_114 : px_fitc 181 114 = true := by decide +kernel
theorem fc_181_172 : px_fitc 181 172 = true := by decide +kernel
theorem fc_181_145 : px_fitc 181 145 = true := by decide +kernel
theorem fc_181_175 : px_fitc 181 175 = true := by decide +kernel
theorem fc_181_115 : px_fitc 181 115 = true := by decide +kernel
theorem fc_181_147 : px_fitc 181 147 = true := by decide +kernel
theorem fc_181_120 : px_fitc 181 120 = true := by decide +kernel
theorem fc_181_116 : px_fitc 181 116 = true := by decide +kernel
theorem fc_181_146 : px_fitc 181 146 = true := by decide +kernel
theorem fc_181_171 : px_fitc 181 171 = true := by decide +kernel
theorem fc_181_123 : px_fitc 181 123 = true := by decide +kernel
theorem fc_181_180 : px_fitc 181 180 = true := by decide +kernel
theorem fc_181_179 : px_fitc 181 179 = true := by decide +kernel
theorem fc_181_117 : px_fitc 181 117 = true := by decide +kernel
theorem fc_181_170 : px_fitc 181 170 = true := by decide +kernel
theorem fc_181_121 : px_fitc 181 121 = true := by decide +kernel
theorem fc_181_149 : px_fitc 181 149 = true := by decide +kernel
theorem fc_181_178 : px_fitc 181 178 = true := by decide +kernel
theorem fc_181_118 : px_fitc 181 118 = true := by decide +kernel
theorem fc_181_144 : px_fitc 181 144 = true := by decide +kernel
theorem fc_181_148 : px_fitc 181 148 = true := by decide +kernel
theorem fc_181_173 : px_fitc 181 173 = true := by decide +kernel
theorem fc_181_177 : px_fitc 181 177 = true := by decide +kernel
theorem fc_181_124 : px_fitc 181 124 = true := by decide +kernel
theorem rc_0 : px_rc 0 = 0 := rfl
theorem rc_1 : px_rc 1 = 1 := rfl
theorem rc_2 : px_rc 2 = 99 := rfl
theorem rc_3 : px_rc 3 = 2 := rfl
theorem rc_4 : px_rc 4 = 3 := rfl
theorem rc_5 : px_rc 5 = 99 := rfl
theorem rc_6 : px_rc 6 = 4 := rfl
theorem rc_7 : px_rc 7 = 5 := rfl
theorem rc_8 : px_rc 8 = 6 := rfl
theorem rc_9 : px_rc 9 = 99 := rfl
theorem rc_10 : px_rc 10 = 99 := rfl
theorem fd_0_9 : px_fd 0 9 = some (0, 0, 0, 104) := by decide +kernel
theorem fd_0_15 : px_fd 0 15 = some (0, 1, 0, 105) := by decide +kernel
theorem fd_0_19 : px_fd 0 19 = some (0, 2, 0, 106) := by decide +kernel
theorem fd_1_11 : px_fd 1 11 = some (1, 0, 0, 151) := by decide +kernel
theorem sg_1_17 : px_sg 1 17 = some (0, 1, 92) := by decide +kernel
theorem fd_1_24 : px_fd 1 24 = some (1, 1, 0, 153) := by decide +kernel
theorem fd_1_28 : px_fd 1 28 = some (1, 2, 0, 156) := by decide +kernel
theorem fd_1_32 : px_fd 1 32 = some (1, 4, 0, 161) := by decide +kernel
theorem fd_1_45 : px_fd 1 45 = some (1, 3, 0, 157) := by decide +kernel
theorem fd_1_76 : px_fd 1 76 = some (3, 1, 1, 128) := by decide +kernel
theorem fd_1_80 : px_fd 1 80 = some (0, 2, 1, 112) := by decide +kernel
theorem fd_1_98 : px_fd 1 98 = some (3, 2, 1, 134) := by decide +kernel
theorem fd_1_102 : px_fd 1 102 = some (3, 3, 1, 137) := by decide +kernel
theorem sg_1_134 : px_sg 1 134 = some (64, 1, 378) := by decide +kernel
theorem sg_1_137 : px_sg 1 137 = some (128, 1, 380) := by decide +kernel
theorem fd_1_152 : px_fd 1 152 = some (3, 4, 1, 139) := by decide +kernel
theorem fd_3_9 : px_fd 3 9 = some (2, 0, 0, 206) := by decide +kernel
theorem fd_3_18 : px_fd 3 18 = some (2, 1, 0, 207) := by decide +kernel
theorem fd_3_22 : px_fd 3 22 = some (2, 2, 0, 209) := by decide +kernel
theorem fd_3_26 : px_fd 3 26 = some (2, 5, 0, 212) := by decide +kernel
theorem fd_3_30 : px_fd 3 30 = some (2, 8, 0, 215) := by decide +kernel
theorem fd_3_55 : px_fd 3 55 = some (0, 2, 1, 108) := by decide +kernel
theorem sg_3_64 : px_sg 3 64 = some (192, 1, 563) := by decide +kernel
theorem fd_3_84 : px_fd 3 84 = some (2, 4, 0, 211) := by decide +kernel
theorem fd_3_87 : px_fd 3 87 = some (2, 3, 0, 210) := by decide +kernel
theorem fd_3_90 : px_fd 3 90 = some (1, 3, 1, 160) := by decide +kernel
theorem fd_3_131 : px_fd 3 131 = some (3, 2, 1, 133) := by decide +kernel
theorem fd_3_141 : px_fd 3 141 = some (3, 0, 1, 123) := by decide +kernel
theorem sg_3_145 : px_sg 3 145 = some (0, 1, 612) := by decide +kernel
theorem fd_3_161 : px_fd 3 161 = some (2, 6, 0, 213) := by decide +kernel
theorem fd_3_164 : px_fd 3 164 = some (2, 7, 0, 214) := by decide +kernel
theorem fd_3_171 : px_fd 3 171 = some (3, 1, 1, 129) := by decide +kernel
theorem fd_3_178 : px_fd 3 178 = some (1, 4, 1, 164) := by decide +kernel
theorem sg_3_193 : px_sg 3 193 = some (64, 1, 647) := by decide +kernel
theorem sg_3_196 : px_sg 3 196 = some (128, 1, 648) := by decide +kernel
theorem sg_3_212 : px_sg 3 212 = some (256, 1, 658) := by decide +kernel
theorem fd_3_215 : px_fd 3 215 = some (1, 1, 1, 155) := by decide +kernel
theorem fd_4_9 : px_fd 4 9 = some (3, 0, 0, 121) := by decide +kernel
theorem fd_4_20 : px_fd 4 20 = some (3, 1, 0, 125) := by decide +kernel
theorem fd_4_24 : px_fd 4 24 = some (3, 2, 0, 130) := by decide +kernel
theorem fd_4_28 : px_fd 4 28 = some (3, 3, 0, 135) := by decide +kernel
theorem fd_4_31 : px_fd 4 31 = some (3, 4, 0, 138) := by decide +kernel
theorem fd_4_42 : px_fd 4 42 = some (0, 2, 1, 110) := by decide +kernel
theorem sg_5_7 : px_sg 5 7 = some (320, 0, 507) := by decide +kernel
theorem fd_5_17 : px_fd 5 17 = some (0, 2, 1, 109) := by decide +kernel
theorem fd_6_9 : px_fd 6 9 = some (4, 0, 0, 184) := by decide +kernel
theorem fd_6_15 : px_fd 6 15 = some (4, 1, 0, 185) := by decide +kernel
theorem fd_6_23 : px_fd 6 23 = some (4, 2, 0, 186) := by decide +kernel
theorem fd_6_55 : px_fd 6 55 = some (4, 3, 0, 187) := by decide +kernel
theorem fd_6_58 : px_fd 6 58 = some (1, 0, 1, 152) := by decide +kernel
theorem fd_6_64 : px_fd 6 64 = some (3, 2, 1, 131) := by decide +kernel
theorem fd_6_70 : px_fd 6 70 = some (3, 3, 1, 136) := by decide +kernel
theorem fd_6_73 : px_fd 6 73 = some (1, 4, 1, 162) := by decide +kernel
theorem fd_6_76 : px_fd 6 76 = some (3, 1, 1, 126) := by decide +kernel
theorem fd_6_79 : px_fd 6 79 = some (0, 2, 1, 107) := by decide +kernel
theorem sg_6_86 : px_sg 6 86 = some (192, 1, 438) := by decide +kernel
theorem fd_6_98 : px_fd 6 98 = some (1, 3, 1, 159) := by decide +kernel
theorem fd_6_112 : px_fd 6 112 = some (3, 0, 1, 122) := by decide +kernel
theorem sg_6_126 : px_sg 6 126 = some (256, 1, 495) := by decide +kernel
theorem fd_6_129 : px_fd 6 129 = some (1, 1, 1, 154) := by decide +kernel
theorem fd_7_10 : px_fd 7 10 = some (5, 0, 0, 236) := by decide +kernel
theorem fd_7_16 : px_fd 7 16 = some (5, 1, 0, 237) := by decide +kernel
theorem fd_7_24 : px_fd 7 24 = some (5, 2, 0, 238) := by decide +kernel
theorem fd_7_33 : px_fd 7 33 = some (5, 3, 0, 239) := by decide +kernel
theorem fd_7_40 : px_fd 7 40 = some (5, 4, 0, 240) := by decide +kernel
theorem fd_7_47 : px_fd 7 47 = some (1, 3, 1, 158) := by decide +kernel
theorem fd_7_51 : px_fd 7 51 = some (1, 4, 1, 163) := by decide +kernel
theorem fd_7_66 : px_fd 7 66 = some (3, 2, 1, 132) := by decide +kernel
theorem fd_7_73 : px_fd 7 73 = some (3, 1, 1, 127) := by decide +kernel
theorem fd_7_98 : px_fd 7 98 = some (0, 2, 1, 111) := by decide +kernel
theorem fd_7_114 : px_fd 7 114 = some (2, 1, 1, 208) := by decide +kernel
theorem fd_7_121 : px_fd 7 121 = some (2, 8, 1, 216) := by decide +kernel
theorem fd_7_142 : px_fd 7 142 = some (3, 0, 1, 124) := by decide +kernel
theorem fd_8_7 : px_fd 8 7 = some (6, 0, 0, 768) := by decide +kernel
theorem fd_8_13 : px_fd 8 13 = some (6, 1, 0, 769) := by decide +kernel
theorem fd_8_17 : px_fd 8 17 = some (6, 2, 0, 770) := by decide +kernel
theorem fd_8_20 : px_fd 8 20 = some (6, 3, 0, 771) := by decide +kernel
theorem fd_8_23 : px_fd 8 23 = some (6, 4, 0, 772) := by decide +kernel
theorem fd_8_26 : px_fd 8 26 = some (6, 5, 0, 773) := by decide +kernel
theorem fd_8_29 : px_fd 8 29 = some (6, 6, 0, 774) := by decide +kernel
theorem fd_8_32 : px_fd 8 32 = some (6, 7, 0, 775) := by decide +kernel
theorem fd_8_35 : px_fd 8 35 = some (6, 8, 0, 776) := by decide +kernel
theorem fd_8_38 : px_fd 8 38 = some (6, 10, 0, 778) := by decide +kernel
theorem fd_8_42 : px_fd 8 42 = some (6, 13, 0, 781) := by decide +kernel
theorem fd_8_45 : px_fd 8 45 = some (6, 14, 0, 782) := by decide +kernel
theorem fd_8_88 : px_fd 8 88 = some (6, 15, 0, 783) := by decide +kernel
theorem fd_8_118 : px_fd 8 118 = some (6, 9, 0, 777) := by decide +kernel
theorem fd_8_153 : px_fd 8 153 = some (6, 12, 0, 780) := by decide +kernel
theorem fd_8_158 : px_fd 8 158 = some (6, 11, 0, 779) := by decide +kernel
theorem mt_0_3 : px_mt 0 3 = some (901, 103) := by decide +kernel
theorem mt_0_22 : px_mt 0 22 = some (37, 572) := by decide +kernel
theorem mt_0_28 : px_mt 0 28 = some (19, 306) := by decide +kernel
theorem mt_0_32 : px_mt 0 32 = some (47, 444) := by decide +kernel
theorem mt_0_36 : px_mt 0 36 = some (900, 489) := by decide +kernel
theorem mt_0_42 : px_mt 0 42 = some (57, 689) := by decide +kernel
theorem mt_0_46 : px_mt 0 46 = some (902, 310) := by decide +kernel
theorem mt_0_52 : px_mt 0 52 = some (903, 313) := by decide +kernel
theorem mt_0_55 : px_mt 0 55 = some (20, 316) := by decide +kernel
theorem mt_1_3 : px_mt 1 3 = some (901, 88) := by decide +kernel
theorem mt_1_21 : px_mt 1 21 = some (2, 94) := by decide +kernel
theorem mt_1_36 : px_mt 1 36 = some (8, 260) := by decide +kernel
theorem mt_1_39 : px_mt 1 39 = some (10, 268) := by decide +kernel
theorem mt_1_48 : px_mt 1 48 = some (96, 681) := by decide +kernel
theorem mt_1_52 : px_mt 1 52 = some (900, 690) := by decide +kernel
theorem mt_1_58 : px_mt 1 58 = some (107, 729) := by decide +kernel
theorem mt_1_62 : px_mt 1 62 = some (106, 725) := by decide +kernel
theorem mt_1_66 : px_mt 1 66 = some (108, 733) := by decide +kernel
theorem mt_1_70 : px_mt 1 70 = some (22, 341) := by decide +kernel
theorem mt_1_73 : px_mt 1 73 = some (24, 342) := by decide +kernel
theorem mt_1_85 : px_mt 1 85 = some (37, 402) := by decide +kernel
theorem mt_1_88 : px_mt 1 88 = some (23, 393) := by decide +kernel
theorem mt_1_91 : px_mt 1 91 = some (36, 398) := by decide +kernel
theorem mt_1_94 : px_mt 1 94 = some (51, 460) := by decide +kernel
theorem mt_1_105 : px_mt 1 105 = some (39, 410) := by decide +kernel
theorem mt_1_108 : px_mt 1 108 = some (903, 761) := by decide +kernel
theorem mt_1_114 : px_mt 1 114 = some (28, 357) := by decide +kernel
theorem mt_1_118 : px_mt 1 118 = some (29, 361) := by decide +kernel
theorem mt_1_121 : px_mt 1 121 = some (32, 374) := by decide +kernel
theorem mt_1_124 : px_mt 1 124 = some (34, 389) := by decide +kernel
theorem mt_1_127 : px_mt 1 127 = some (38, 406) := by decide +kernel
theorem mt_1_130 : px_mt 1 130 = some (30, 365) := by decide +kernel
theorem mt_1_140 : px_mt 1 140 = some (33, 382) := by decide +kernel
theorem mt_1_144 : px_mt 1 144 = some (35, 394) := by decide +kernel
theorem mt_1_149 : px_mt 1 149 = some (60, 501) := by decide +kernel
theorem mt_1_155 : px_mt 1 155 = some (62, 509) := by decide +kernel
theorem mt_1_159 : px_mt 1 159 = some (44, 513) := by decide +kernel
theorem mt_1_162 : px_mt 1 162 = some (63, 514) := by decide +kernel
theorem mt_1_165 : px_mt 1 165 = some (61, 518) := by decide +kernel
theorem mt_2_9 : px_mt 2 9 = some (44, 428) := by decide +kernel
theorem mt_2_15 : px_mt 2 15 = some (42, 432) := by decide +kernel
theorem mt_3_3 : px_mt 3 3 = some (901, 203) := by decide +kernel
theorem mt_3_17 : px_mt 3 17 = some (1, 205) := by decide +kernel
theorem mt_3_33 : px_mt 3 33 = some (7, 554) := by decide +kernel
theorem mt_3_36 : px_mt 3 36 = some (72, 555) := by decide +kernel
theorem mt_3_40 : px_mt 3 40 = some (76, 573) := by decide +kernel
theorem mt_3_43 : px_mt 3 43 = some (79, 588) := by decide +kernel
theorem mt_3_46 : px_mt 3 46 = some (89, 640) := by decide +kernel
theorem mt_3_49 : px_mt 3 49 = some (90, 649) := by decide +kernel
theorem mt_3_52 : px_mt 3 52 = some (93, 665) := by decide +kernel
theorem mt_3_60 : px_mt 3 60 = some (73, 559) := by decide +kernel
theorem mt_3_67 : px_mt 3 67 = some (37, 564) := by decide +kernel
theorem mt_3_71 : px_mt 3 71 = some (74, 565) := by decide +kernel
theorem mt_3_74 : px_mt 3 74 = some (75, 568) := by decide +kernel
theorem mt_3_77 : px_mt 3 77 = some (77, 577) := by decide +kernel
theorem mt_3_80 : px_mt 3 80 = some (78, 581) := by decide +kernel
theorem mt_3_97 : px_mt 3 97 = some (80, 592) := by decide +kernel
theorem mt_3_102 : px_mt 3 102 = some (81, 597) := by decide +kernel
theorem mt_3_105 : px_mt 3 105 = some (83, 605) := by decide +kernel
theorem mt_3_108 : px_mt 3 108 = some (85, 616) := by decide +kernel
theorem mt_3_112 : px_mt 3 112 = some (87, 629) := by decide +kernel
theorem mt_3_116 : px_mt 3 116 = some (88, 633) := by decide +kernel
theorem mt_3_119 : px_mt 3 119 = some (82, 601) := by decide +kernel
theorem mt_3_123 : px_mt 3 123 = some (84, 609) := by decide +kernel
theorem mt_3_127 : px_mt 3 127 = some (14, 613) := by decide +kernel
theorem mt_3_148 : px_mt 3 148 = some (86, 620) := by decide +kernel
theorem mt_3_152 : px_mt 3 152 = some (904, 623) := by decide +kernel
theorem mt_3_158 : px_mt 3 158 = some (905, 626) := by decide +kernel
theorem mt_3_167 : px_mt 3 167 = some (15, 637) := by decide +kernel
theorem mt_3_174 : px_mt 3 174 = some (57, 638) := by decide +kernel
theorem mt_3_181 : px_mt 3 181 = some (902, 639) := by decide +kernel
theorem mt_3_183 : px_mt 3 183 = some (28, 644) := by decide +kernel
theorem mt_3_187 : px_mt 3 187 = some (29, 645) := by decide +kernel
theorem mt_3_190 : px_mt 3 190 = some (32, 646) := by decide +kernel
theorem mt_3_199 : px_mt 3 199 = some (91, 653) := by decide +kernel
theorem mt_3_202 : px_mt 3 202 = some (43, 659) := by decide +kernel
theorem mt_3_207 : px_mt 3 207 = some (92, 660) := by decide +kernel
theorem mt_3_219 : px_mt 3 219 = some (44, 664) := by decide +kernel
theorem mt_3_222 : px_mt 3 222 = some (94, 669) := by decide +kernel
theorem mt_3_225 : px_mt 3 225 = some (34, 673) := by decide +kernel
theorem mt_3_228 : px_mt 3 228 = some (38, 674) := by decide +kernel
theorem mt_3_231 : px_mt 3 231 = some (59, 675) := by decide +kernel
theorem mt_3_234 : px_mt 3 234 = some (50, 676) := by decide +kernel
theorem mt_4_3 : px_mt 4 3 = some (901, 97) := by decide +kernel
theorem mt_4_17 : px_mt 4 17 = some (3, 100) := by decide +kernel
theorem mt_4_34 : px_mt 4 34 = some (9, 264) := by decide +kernel
theorem mt_4_38 : px_mt 4 38 = some (97, 685) := by decide +kernel
theorem mt_4_45 : px_mt 4 45 = some (31, 369) := by decide +kernel
theorem mt_4_49 : px_mt 4 49 = some (30, 387) := by decide +kernel
theorem mt_4_52 : px_mt 4 52 = some (902, 386) := by decide +kernel
theorem mt_4_58 : px_mt 4 58 = some (903, 388) := by decide +kernel
theorem mt_4_61 : px_mt 4 61 = some (37, 737) := by decide +kernel
theorem mt_5_13 : px_mt 5 13 = some (61, 504) := by decide +kernel
theorem mt_5_23 : px_mt 5 23 = some (37, 512) := by decide +kernel
theorem mt_6_3 : px_mt 6 3 = some (901, 183) := by decide +kernel
theorem mt_6_19 : px_mt 6 19 = some (41, 418) := by decide +kernel
theorem mt_6_27 : px_mt 6 27 = some (43, 425) := by decide +kernel
theorem mt_6_33 : px_mt 6 33 = some (9, 433) := by decide +kernel
theorem mt_6_39 : px_mt 6 39 = some (45, 434) := by decide +kernel
theorem mt_6_42 : px_mt 6 42 = some (53, 468) := by decide +kernel
theorem mt_6_45 : px_mt 6 45 = some (56, 481) := by decide +kernel
theorem mt_6_48 : px_mt 6 48 = some (52, 464) := by decide +kernel
theorem mt_6_52 : px_mt 6 52 = some (58, 490) := by decide +kernel
theorem mt_6_82 : px_mt 6 82 = some (42, 422) := by decide +kernel
theorem mt_6_89 : px_mt 6 89 = some (46, 440) := by decide +kernel
theorem mt_6_92 : px_mt 6 92 = some (48, 448) := by decide +kernel
theorem mt_6_95 : px_mt 6 95 = some (49, 452) := by decide +kernel
theorem mt_6_101 : px_mt 6 101 = some (50, 456) := by decide +kernel
theorem mt_6_105 : px_mt 6 105 = some (54, 472) := by decide +kernel
theorem mt_6_109 : px_mt 6 109 = some (31, 476) := by decide +kernel
theorem mt_6_115 : px_mt 6 115 = some (55, 477) := by decide +kernel
theorem mt_6_119 : px_mt 6 119 = some (57, 485) := by decide +kernel
theorem mt_6_123 : px_mt 6 123 = some (44, 494) := by decide +kernel
theorem mt_6_133 : px_mt 6 133 = some (59, 497) := by decide +kernel
theorem mt_6_136 : px_mt 6 136 = some (63, 519) := by decide +kernel
theorem mt_7_1 : px_mt 7 1 = some (901, 80) := by decide +kernel
theorem mt_7_9 : px_mt 7 9 = some (1, 85) := by decide +kernel
theorem mt_7_21 : px_mt 7 21 = some (3, 177) := by decide +kernel
theorem mt_7_30 : px_mt 7 30 = some (4, 180) := by decide +kernel
theorem mt_7_39 : px_mt 7 39 = some (5, 200) := by decide +kernel
theorem mt_7_44 : px_mt 7 44 = some (7, 256) := by decide +kernel
theorem mt_7_54 : px_mt 7 54 = some (14, 283) := by decide +kernel
theorem mt_7_60 : px_mt 7 60 = some (15, 289) := by decide +kernel
theorem mt_7_70 : px_mt 7 70 = some (8, 297) := by decide +kernel
theorem mt_7_76 : px_mt 7 76 = some (18, 302) := by decide +kernel
theorem mt_7_80 : px_mt 7 80 = some (22, 334) := by decide +kernel
theorem mt_7_84 : px_mt 7 84 = some (23, 337) := by decide +kernel
theorem mt_7_87 : px_mt 7 87 = some (25, 345) := by decide +kernel
theorem mt_7_90 : px_mt 7 90 = some (27, 353) := by decide +kernel
theorem mt_7_94 : px_mt 7 94 = some (40, 414) := by decide +kernel
theorem mt_7_101 : px_mt 7 101 = some (37, 528) := by decide +kernel
theorem mt_7_105 : px_mt 7 105 = some (9, 537) := by decide +kernel
theorem mt_7_108 : px_mt 7 108 = some (69, 542) := by decide +kernel
theorem mt_7_111 : px_mt 7 111 = some (71, 550) := by decide +kernel
theorem mt_7_117 : px_mt 7 117 = some (95, 677) := by decide +kernel
theorem mt_7_124 : px_mt 7 124 = some (101, 703) := by decide +kernel
theorem mt_7_127 : px_mt 7 127 = some (59, 711) := by decide +kernel
theorem mt_7_130 : px_mt 7 130 = some (103, 712) := by decide +kernel
theorem mt_7_133 : px_mt 7 133 = some (51, 716) := by decide +kernel
theorem mt_7_136 : px_mt 7 136 = some (105, 721) := by decide +kernel
theorem mt_7_139 : px_mt 7 139 = some (106, 746) := by decide +kernel
theorem mt_7_145 : px_mt 7 145 = some (39, 751) := by decide +kernel
theorem mt_7_148 : px_mt 7 148 = some (36, 752) := by decide +kernel
theorem mt_7_151 : px_mt 7 151 = some (113, 757) := by decide +kernel
theorem mt_8_1 : px_mt 8 1 = some (901, 767) := by decide +kernel
theorem mt_8_54 : px_mt 8 54 = some (119, 834) := by decide +kernel
theorem mt_8_60 : px_mt 8 60 = some (122, 847) := by decide +kernel
theorem mt_8_64 : px_mt 8 64 = some (126, 863) := by decide +kernel
theorem mt_8_68 : px_mt 8 68 = some (131, 883) := by decide +kernel
theorem mt_8_71 : px_mt 8 71 = some (130, 879) := by decide +kernel
theorem mt_8_75 : px_mt 8 75 = some (129, 875) := by decide +kernel
theorem mt_8_79 : px_mt 8 79 = some (127, 867) := by decide +kernel
theorem mt_8_82 : px_mt 8 82 = some (128, 871) := by decide +kernel
theorem mt_8_85 : px_mt 8 85 = some (132, 886) := by decide +kernel
theorem mt_8_92 : px_mt 8 92 = some (142, 927) := by decide +kernel
theorem mt_8_96 : px_mt 8 96 = some (141, 923) := by decide +kernel
theorem mt_8_99 : px_mt 8 99 = some (134, 893) := by decide +kernel
theorem mt_8_102 : px_mt 8 102 = some (143, 932) := by decide +kernel
theorem mt_8_105 : px_mt 8 105 = some (136, 902) := by decide +kernel
theorem mt_8_109 : px_mt 8 109 = some (135, 898) := by decide +kernel
theorem mt_8_112 : px_mt 8 112 = some (125, 859) := by decide +kernel
theorem mt_8_115 : px_mt 8 115 = some (133, 890) := by decide +kernel
theorem mt_8_123 : px_mt 8 123 = some (137, 907) := by decide +kernel
theorem mt_8_126 : px_mt 8 126 = some (138, 911) := by decide +kernel
theorem mt_8_129 : px_mt 8 129 = some (139, 914) := by decide +kernel
theorem mt_8_134 : px_mt 8 134 = some (140, 919) := by decide +kernel
theorem mt_8_137 : px_mt 8 137 = some (152, 968) := by decide +kernel
theorem mt_8_142 : px_mt 8 142 = some (151, 964) := by decide +kernel
theorem mt_8_145 : px_mt 8 145 = some (153, 972) := by decide +kernel
theorem mt_8_161 : px_mt 8 161 = some (156, 988) := by decide +kernel
theorem mt_8_164 : px_mt 8 164 = some (155, 984) := by decide +kernel
theorem mt_8_172 : px_mt 8 172 = some (157, 992) := by decide +kernel
theorem mt_8_176 : px_mt 8 176 = some (158, 997) := by decide +kernel
theorem mt_8_183 : px_mt 8 183 = some (160, 1009) := by decide +kernel
theorem mt_8_186 : px_mt 8 186 = some (162, 1017) := by decide +kernel
theorem mt_8_189 : px_mt 8 189 = some (161, 1013) := by decide +kernel
theorem mt_8_192 : px_mt 8 192 = some (163, 1021) := by decide +kernel
theorem mt_8_196 : px_mt 8 196 = some (164, 1025) := by decide +kernel
theorem mt_8_199 : px_mt 8 199 = some (166, 1032) := by decide +kernel
theorem mt_8_202 : px_mt 8 202 = some (167, 1036) := by decide +kernel
theorem mt_8_205 : px_mt 8 205 = some (169, 1044) := by decide +kernel
theorem mt_8_209 : px_mt 8 209 = some (150, 960) := by decide +kernel
theorem mt_8_212 : px_mt 8 212 = some (154, 980) := by decide +kernel
theorem mt_8_215 : px_mt 8 215 = some (159, 1005) := by decide +kernel
theorem mt_8_218 : px_mt 8 218 = some (165, 1028) := by decide +kernel
theorem mt_8_221 : px_mt 8 221 = some (168, 1040) := by decide +kernel
theorem mt_8_224 : px_mt 8 224 = some (174, 1064) := by decide +kernel
theorem mt_8_227 : px_mt 8 227 = some (176, 1072) := by decide +kernel
theorem mt_8_230 : px_mt 8 230 = some (175, 1080) := by decide +kernel
theorem mt_9_150 : px_mt 9 150 = some (900, 327) := by decide +kernel
theorem mt_9_304 : px_mt 9 304 = some (903, 326) := by decide +kernel
theorem mt_10_9 : px_mt 10 9 = some (0, 77) := by decide +kernel
theorem mt_10_12 : px_mt 10 12 = some (114, 764) := by decide +kernel
theorem mt_10_13 : px_mt 10 13 = some (6, 252) := by decide +kernel
theorem mt_10_16 : px_mt 10 16 = some (115, 818) := by decide +kernel
theorem mt_10_17 : px_mt 10 17 = some (11, 271) := by decide +kernel
theorem mt_10_21 : px_mt 10 21 = some (116, 822) := by decide +kernel
theorem mt_10_22 : px_mt 10 22 = some (12, 275) := by decide +kernel
theorem mt_10_26 : px_mt 10 26 = some (117, 826) := by decide +kernel
theorem mt_10_27 : px_mt 10 27 = some (13, 279) := by decide +kernel
theorem mt_10_31 : px_mt 10 31 = some (118, 830) := by decide +kernel
theorem mt_10_32 : px_mt 10 32 = some (16, 293) := by decide +kernel
theorem mt_10_35 : px_mt 10 35 = some (120, 839) := by decide +kernel
theorem mt_10_38 : px_mt 10 38 = some (17, 298) := by decide +kernel
theorem mt_10_42 : px_mt 10 42 = some (121, 843) := by decide +kernel
theorem mt_10_43 : px_mt 10 43 = some (21, 330) := by decide +kernel
theorem mt_10_47 : px_mt 10 47 = some (123, 851) := by decide +kernel
theorem mt_10_48 : px_mt 10 48 = some (26, 349) := by decide +kernel
theorem mt_10_52 : px_mt 10 52 = some (124, 855) := by decide +kernel
theorem mt_10_53 : px_mt 10 53 = some (64, 520) := by decide +kernel
theorem mt_10_56 : px_mt 10 56 = some (144, 936) := by decide +kernel
theorem mt_10_57 : px_mt 10 57 = some (65, 524) := by decide +kernel
theorem mt_10_61 : px_mt 10 61 = some (145, 940) := by decide +kernel
theorem mt_10_62 : px_mt 10 62 = some (66, 529) := by decide +kernel
theorem mt_10_66 : px_mt 10 66 = some (146, 944) := by decide +kernel
theorem mt_10_67 : px_mt 10 67 = some (67, 533) := by decide +kernel
theorem mt_10_70 : px_mt 10 70 = some (147, 948) := by decide +kernel
theorem mt_10_71 : px_mt 10 71 = some (68, 538) := by decide +kernel
theorem mt_10_75 : px_mt 10 75 = some (148, 952) := by decide +kernel
theorem mt_10_76 : px_mt 10 76 = some (70, 546) := by decide +kernel
theorem mt_10_79 : px_mt 10 79 = some (149, 956) := by decide +kernel
theorem mt_10_80 : px_mt 10 80 = some (98, 691) := by decide +kernel
theorem mt_10_83 : px_mt 10 83 = some (170, 1048) := by decide +kernel
theorem mt_10_84 : px_mt 10 84 = some (99, 695) := by decide +kernel
theorem mt_10_87 : px_mt 10 87 = some (171, 1052) := by decide +kernel
theorem mt_10_88 : px_mt 10 88 = some (100, 699) := by decide +kernel
theorem mt_10_91 : px_mt 10 91 = some (172, 1056) := by decide +kernel
theorem mt_10_92 : px_mt 10 92 = some (102, 707) := by decide +kernel
theorem mt_10_95 : px_mt 10 95 = some (173, 1060) := by decide +kernel
theorem mt_10_96 : px_mt 10 96 = some (104, 717) := by decide +kernel
theorem mt_10_99 : px_mt 10 99 = some (175, 1068) := by decide +kernel
theorem mt_10_100 : px_mt 10 100 = some (109, 738) := by decide +kernel
theorem mt_10_103 : px_mt 10 103 = some (177, 1076) := by decide +kernel
theorem mt_10_104 : px_mt 10 104 = some (110, 742) := by decide +kernel
theorem mt_10_107 : px_mt 10 107 = some (178, 1081) := by decide +kernel
theorem mt_10_108 : px_mt 10 108 = some (111, 747) := by decide +kernel
theorem mt_10_111 : px_mt 10 111 = some (179, 1085) := by decide +kernel
theorem mt_10_112 : px_mt 10 112 = some (112, 753) := by decide +kernel
theorem mt_10_115 : px_mt 10 115 = some (180, 1089) := by decide +kernel
theorem ld_7_58 : px_ldc 7 58 = some ((131072 : Int32), 287) := by decide +kernel
theorem ld_7_59 : px_ldc 7 59 = some ((32768 : Int32), 288) := by decide +kernel
theorem ld_1_133 : px_ldc 1 133 = some ((131072 : Int32), 373) := by decide +kernel
theorem l2_0_26 : px_l2c 0 26 = some ((-1 : Int64), 585) := by decide +kernel
theorem l2_3_93 : px_l2c 3 93 = some ((52 : Int64), 586) := by decide +kernel
theorem l2_3_95 : px_l2c 3 95 = some ((3 : Int64), 587) := by decide +kernel
theorem l2_3_100 : px_l2c 3 100 = some ((4 : Int64), 596) := by decide +kernel
theorem l2_3_139 : px_l2c 3 139 = some ((4096 : Int64), 604) := by decide +kernel
theorem l2_3_137 : px_l2c 3 137 = some ((131072 : Int64), 614) := by decide +kernel
theorem ld_3_144 : px_ldc 3 144 = some ((32768 : Int32), 615) := by decide +kernel
theorem l2_3_210 : px_l2c 3 210 = some ((6 : Int64), 657) := by decide +kernel
theorem ld_8_58 : px_ldc 8 58 = some ((131072 : Int32), 837) := by decide +kernel
theorem ld_8_59 : px_ldc 8 59 = some ((32768 : Int32), 838) := by decide +kernel
theorem l2_8_52 : px_l2c 8 52 = some ((255 : Int64), 850) := by decide +kernel
theorem ld_8_121 : px_ldc 8 121 = some ((1179403647 : Int32), 897) := by decide +kernel
theorem ld_8_122 : px_ldc 8 122 = some ((65793 : Int32), 906) := by decide +kernel
theorem ld_8_133 : px_ldc 8 133 = some ((1802658125 : Int32), 918) := by decide +kernel
theorem ld_8_91 : px_ldc 8 91 = some ((-306674912 : Int32), 931) := by decide +kernel
theorem l2_8_140 : px_l2c 8 140 = some ((65536 : Int64), 976) := by decide +kernel
theorem l2_8_149 : px_l2c 8 149 = some ((4 : Int64), 977) := by decide +kernel
theorem l2_8_151 : px_l2c 8 151 = some ((52 : Int64), 978) := by decide +kernel
theorem l2_8_156 : px_l2c 8 156 = some ((32 : Int64), 979) := by decide +kernel
theorem l2_8_48 : px_l2c 8 48 = some ((4096 : Int64), 995) := by decide +kernel
theorem l2_8_50 : px_l2c 8 50 = some ((2 : Int64), 996) := by decide +kernel
theorem l2_8_168 : px_l2c 8 168 = some ((5 : Int64), 1001) := by decide +kernel
theorem l2_8_170 : px_l2c 8 170 = some ((6 : Int64), 1002) := by decide +kernel
theorem l2_8_179 : px_l2c 8 179 = some ((131072 : Int64), 1003) := by decide +kernel
theorem l2_8_181 : px_l2c 8 181 = some ((32768 : Int64), 1004) := by decide +kernel
theorem l2_10_36 : px_l2c 10 36 = some ((4294967295 : Int64), 1093) := by decide +kernel
theorem fin_0_0 : px_fin 0 0 = true := rfl
theorem ft_0_0 : px_ft 0 0 = .int := rfl
theorem fin_0_1 : px_fin 0 1 = false := rfl
theorem ft_0_1 : px_ft 0 1 = .array .byte := rfl
theorem fin_0_2 : px_fin 0 2 = false := rfl
theorem ft_0_2 : px_ft 0 2 = .int := rfl
theorem df_0 : px_df 0 = [.int 0, .null, .int 0] := rfl
theorem nf_0 : px_nf 0 = 3 := rfl
theorem fin_1_0 : px_fin 1 0 = true := rfl
theorem ft_1_0 : px_ft 1 0 = .array (.object "ImageFile$Segment") := rfl
theorem fin_1_1 : px_fin 1 1 = true := rfl
theorem ft_1_1 : px_ft 1 1 = .object "ImageFile$Segment" := rfl
theorem fin_1_2 : px_fin 1 2 = true := rfl
theorem ft_1_2 : px_ft 1 2 = .array .byte := rfl
theorem fin_1_3 : px_fin 1 3 = false := rfl
theorem ft_1_3 : px_ft 1 3 = .int := rfl
theorem fin_1_4 : px_fin 1 4 = false := rfl
theorem ft_1_4 : px_ft 1 4 = .int := rfl
theorem df_1 : px_df 1 = [.null, .null, .null, .int 0, .int 0] := rfl
theorem nf_1 : px_nf 1 = 5 := rfl
theorem fin_2_0 : px_fin 2 0 = true := rfl
theorem ft_2_0 : px_ft 2 0 = .object "ImageFile$Bytes" := rfl
theorem fin_2_1 : px_fin 2 1 = true := rfl
theorem ft_2_1 : px_ft 2 1 = .object "ImageFile$Image" := rfl
theorem fin_2_2 : px_fin 2 2 = true := rfl
theorem ft_2_2 : px_ft 2 2 = .array .int := rfl
theorem fin_2_3 : px_fin 2 3 = false := rfl
theorem ft_2_3 : px_ft 2 3 = .int := rfl
theorem fin_2_4 : px_fin 2 4 = false := rfl
theorem ft_2_4 : px_ft 2 4 = .int := rfl
theorem fin_2_5 : px_fin 2 5 = false := rfl
theorem ft_2_5 : px_ft 2 5 = .int := rfl
theorem fin_2_6 : px_fin 2 6 = false := rfl
theorem ft_2_6 : px_ft 2 6 = .int := rfl
theorem fin_2_7 : px_fin 2 7 = false := rfl
theorem ft_2_7 : px_ft 2 7 = .int := rfl
theorem fin_2_8 : px_fin 2 8 = false := rfl
theorem ft_2_8 : px_ft 2 8 = .int := rfl
theorem df_2 : px_df 2 = [.null, .null, .null, .int 0, .int 0, .int 0, .int 0, .int 0, .int 0] := rfl
theorem nf_2 : px_nf 2 = 9 := rfl
theorem fin_3_0 : px_fin 3 0 = true := rfl
theorem ft_3_0 : px_ft 3 0 = .int := rfl
theorem fin_3_1 : px_fin 3 1 = true := rfl
theorem ft_3_1 : px_ft 3 1 = .object "ImageFile$Bytes" := rfl
theorem fin_3_2 : px_fin 3 2 = false := rfl
theorem ft_3_2 : px_ft 3 2 = .boolean := rfl
theorem fin_3_3 : px_fin 3 3 = false := rfl
theorem ft_3_3 : px_ft 3 3 = .int := rfl
theorem fin_3_4 : px_fin 3 4 = false := rfl
theorem ft_3_4 : px_ft 3 4 = .int := rfl
theorem df_3 : px_df 3 = [.int 0, .null, .int 0, .int 0, .int 0] := rfl
theorem nf_3 : px_nf 3 = 5 := rfl
theorem fin_4_0 : px_fin 4 0 = true := rfl
theorem ft_4_0 : px_ft 4 0 = .object "ImageFile$Bytes" := rfl
theorem fin_4_1 : px_fin 4 1 = true := rfl
theorem ft_4_1 : px_ft 4 1 = .array .int := rfl
theorem fin_4_2 : px_fin 4 2 = false := rfl
theorem ft_4_2 : px_ft 4 2 = .int := rfl
theorem fin_4_3 : px_fin 4 3 = false := rfl
theorem ft_4_3 : px_ft 4 3 = .int := rfl
theorem df_4 : px_df 4 = [.null, .null, .int 0, .int 0] := rfl
theorem nf_4 : px_nf 4 = 4 := rfl
theorem fin_5_0 : px_fin 5 0 = true := rfl
theorem ft_5_0 : px_ft 5 0 = .object "ImageFile$Image" := rfl
theorem fin_5_1 : px_fin 5 1 = true := rfl
theorem ft_5_1 : px_ft 5 1 = .object "ImageFile$Image" := rfl
theorem fin_5_2 : px_fin 5 2 = true := rfl
theorem ft_5_2 : px_ft 5 2 = .object "ImageFile$Bytes" := rfl
theorem fin_5_3 : px_fin 5 3 = true := rfl
theorem ft_5_3 : px_ft 5 3 = .object "ImageFile$Writer" := rfl
theorem fin_5_4 : px_fin 5 4 = true := rfl
theorem ft_5_4 : px_ft 5 4 = .object "ImageFile$Reader" := rfl
theorem df_5 : px_df 5 = [.null, .null, .null, .null, .null] := rfl
theorem nf_5 : px_nf 5 = 5 := rfl
theorem fin_6_0 : px_fin 6 0 = true := rfl
theorem ft_6_0 : px_ft 6 0 = .array .boolean := rfl
theorem fin_6_1 : px_fin 6 1 = true := rfl
theorem ft_6_1 : px_ft 6 1 = .array .int := rfl
theorem fin_6_2 : px_fin 6 2 = true := rfl
theorem ft_6_2 : px_ft 6 2 = .array .int := rfl
theorem fin_6_3 : px_fin 6 3 = true := rfl
theorem ft_6_3 : px_ft 6 3 = .array .int := rfl
theorem fin_6_4 : px_fin 6 4 = true := rfl
theorem ft_6_4 : px_ft 6 4 = .array .int := rfl
theorem fin_6_5 : px_fin 6 5 = true := rfl
theorem ft_6_5 : px_ft 6 5 = .array .boolean := rfl
theorem fin_6_6 : px_fin 6 6 = true := rfl
theorem ft_6_6 : px_ft 6 6 = .array .int := rfl
theorem fin_6_7 : px_fin 6 7 = true := rfl
theorem ft_6_7 : px_ft 6 7 = .array .int := rfl
theorem fin_6_8 : px_fin 6 8 = true := rfl
theorem ft_6_8 : px_ft 6 8 = .array .int := rfl
theorem fin_6_9 : px_fin 6 9 = false := rfl
theorem ft_6_9 : px_ft 6 9 = .int := rfl
theorem fin_6_10 : px_fin 6 10 = false := rfl
theorem ft_6_10 : px_ft 6 10 = .int := rfl
theorem fin_6_11 : px_fin 6 11 = false := rfl
theorem ft_6_11 : px_ft 6 11 = .int := rfl
theorem fin_6_12 : px_fin 6 12 = false := rfl
theorem ft_6_12 : px_ft 6 12 = .int := rfl
theorem fin_6_13 : px_fin 6 13 = true := rfl
theorem ft_6_13 : px_ft 6 13 = .array .int := rfl
theorem fin_6_14 : px_fin 6 14 = true := rfl
theorem ft_6_14 : px_ft 6 14 = .array .int := rfl
theorem fin_6_15 : px_fin 6 15 = false := rfl
theorem ft_6_15 : px_ft 6 15 = .int := rfl
theorem df_6 : px_df 6 = [.null, .null, .null, .null, .null, .null, .null, .null, .null, .int 0, .int 0, .int 0, .int 0, .null, .null, .int 0] := rfl
theorem nf_6 : px_nf 6 = 16 := rfl
