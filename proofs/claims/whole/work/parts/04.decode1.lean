set_option maxRecDepth 100000 in
theorem td_0 : ∀ x ∈ tc_0, decode prog_2_method_2_code x.1 = .ok x.2 := by decide +kernel
set_option maxRecDepth 100000 in
theorem td_1 : ∀ x ∈ tc_1, decode prog_2_method_3_code x.1 = .ok x.2 := by decide +kernel
set_option maxRecDepth 100000 in
theorem td_2 : ∀ x ∈ tc_2, decode prog_2_method_4_code x.1 = .ok x.2 := by decide +kernel
set_option maxRecDepth 100000 in
theorem td_3 : ∀ x ∈ tc_3, decode prog_2_method_5_code x.1 = .ok x.2 := by decide +kernel
set_option maxRecDepth 100000 in
theorem td_4 : ∀ x ∈ tc_4, decode prog_2_method_6_code x.1 = .ok x.2 := by decide +kernel
set_option maxRecDepth 100000 in
theorem td_5 : ∀ x ∈ tc_5, decode prog_2_method_7_code x.1 = .ok x.2 := by decide +kernel
set_option maxRecDepth 100000 in
theorem td_6 : ∀ x ∈ tc_6, decode prog_2_method_8_code x.1 = .ok x.2 := by decide +kernel
set_option maxRecDepth 100000 in
theorem td_7 : ∀ x ∈ tc_7, decode prog_2_method_9_code x.1 = .ok x.2 := by decide +kernel
set_option maxRecDepth 100000 in
theorem td_8 : ∀ x ∈ tc_8, decode prog_2_method_10_code x.1 = .ok x.2 := by decide +kernel
set_option maxRecDepth 100000 in
theorem td_9 : ∀ x ∈ tc_9, decode prog_2_method_11_code x.1 = .ok x.2 := by decide +kernel
set_option maxRecDepth 100000 in
theorem td_10 : ∀ x ∈ tc_10, decode prog_2_method_12_code x.1 = .ok x.2 := by decide +kernel
set_option maxRecDepth 100000 in
theorem td_11 : ∀ x ∈ tc_11, decode prog_3_method_2_code x.1 = .ok x.2 := by decide +kernel
set_option maxRecDepth 100000 in
theorem td_12 : ∀ x ∈ tc_12, decode prog_3_method_3_code x.1 = .ok x.2 := by decide +kernel
set_option maxRecDepth 100000 in
theorem td_13 : ∀ x ∈ tc_13, decode prog_3_method_4_code x.1 = .ok x.2 := by decide +kernel
set_option maxRecDepth 100000 in
theorem td_14 : ∀ x ∈ tc_14, decode prog_3_method_5_code x.1 = .ok x.2 := by decide +kernel
set_option maxRecDepth 100000 in
theorem td_15 : ∀ x ∈ tc_15, decode prog_3_method_6_code x.1 = .ok x.2 := by decide +kernel
set_option maxRecDepth 100000 in
theorem td_16 : ∀ x ∈ tc_16, decode prog_3_method_7_code x.1 = .ok x.2 := by decide +kernel
set_option maxRecDepth 100000 in
theorem td_17 : ∀ x ∈ tc_17, decode prog_3_method_8_code x.1 = .ok x.2 := by decide +kernel
set_option maxRecDepth 100000 in
theorem td_18 : ∀ x ∈ tc_18, decode prog_3_method_9_code x.1 = .ok x.2 := by decide +kernel
set_option maxRecDepth 100000 in
theorem td_19 : ∀ x ∈ tc_19, decode prog_3_method_10_code x.1 = .ok x.2 := by decide +kernel
set_option maxRecDepth 100000 in
theorem td_20 : ∀ x ∈ tc_20, decode prog_3_method_11_code x.1 = .ok x.2 := by decide +kernel
set_option maxRecDepth 100000 in
theorem td_21 : ∀ x ∈ tc_21, decode prog_3_method_12_code x.1 = .ok x.2 := by decide +kernel
set_option maxRecDepth 100000 in
theorem td_22 : ∀ x ∈ tc_22, decode prog_3_method_13_code x.1 = .ok x.2 := by decide +kernel
set_option maxRecDepth 100000 in
theorem td_23 : ∀ x ∈ tc_23, decode prog_3_method_14_code x.1 = .ok x.2 := by decide +kernel
set_option maxRecDepth 100000 in
theorem td_24 : ∀ x ∈ tc_24, decode prog_3_method_15_code x.1 = .ok x.2 := by decide +kernel
set_option maxRecDepth 100000 in
theorem td_25 : ∀ x ∈ tc_25, decode prog_3_method_16_code x.1 = .ok x.2 := by decide +kernel
set_option maxRecDepth 100000 in
theorem td_26 : ∀ x ∈ tc_26, decode prog_3_method_17_code x.1 = .ok x.2 := by decide +kernel
set_option maxRecDepth 100000 in
theorem td_27 : ∀ x ∈ tc_27, decode prog_3_method_18_code x.1 = .ok x.2 := by decide +kernel
set_option maxRecDepth 100000 in
theorem td_28 : ∀ x ∈ tc_28, decode prog_3_method_19_code x.1 = .ok x.2 := by decide +kernel
set_option maxRecDepth 100000 in
theorem td_29 : ∀ x ∈ tc_29, decode prog_3_method_20_code x.1 = .ok x.2 := by decide +kernel
set_option maxRecDepth 100000 in
theorem td_30 : ∀ x ∈ tc_30, decode prog_3_method_21_code x.1 = .ok x.2 := by decide +kernel
set_option maxRecDepth 100000 in
theorem td_31 : ∀ x ∈ tc_31, decode prog_3_method_22_code x.1 = .ok x.2 := by decide +kernel
set_option maxRecDepth 100000 in
theorem td_32 : ∀ x ∈ tc_32, decode prog_3_method_23_code x.1 = .ok x.2 := by decide +kernel
set_option maxRecDepth 100000 in
theorem td_33 : ∀ x ∈ tc_33, decode prog_3_method_24_code x.1 = .ok x.2 := by decide +kernel
set_option maxRecDepth 100000 in
theorem td_34 : ∀ x ∈ tc_34, decode prog_3_method_25_code x.1 = .ok x.2 := by decide +kernel
set_option maxRecDepth 100000 in
theorem td_35 : ∀ x ∈ tc_35, decode prog_3_method_26_code x.1 = .ok x.2 := by decide +kernel
set_option maxRecDepth 100000 in
theorem td_36 : ∀ x ∈ tc_36, decode prog_3_method_27_code x.1 = .ok x.2 := by decide +kernel
set_option maxRecDepth 100000 in
theorem td_37 : ∀ x ∈ tc_37, decode prog_3_method_28_code x.1 = .ok x.2 := by decide +kernel
set_option maxRecDepth 100000 in
theorem td_38 : ∀ x ∈ tc_38, decode prog_3_method_29_code x.1 = .ok x.2 := by decide +kernel
set_option maxRecDepth 100000 in
theorem td_39 : ∀ x ∈ tc_39, decode prog_3_method_30_code x.1 = .ok x.2 := by decide +kernel
set_option maxRecDepth 100000 in
theorem td_40 : ∀ x ∈ tc_40, decode prog_4_method_2_code x.1 = .ok x.2 := by decide +kernel
set_option maxRecDepth 100000 in
theorem td_41 : ∀ x ∈ tc_41, decode prog_4_method_3_code x.1 = .ok x.2 := by decide +kernel
set_option maxRecDepth 100000 in
theorem td_42 : ∀ x ∈ tc_42, decode prog_4_method_4_code x.1 = .ok x.2 := by decide +kernel
set_option maxRecDepth 100000 in
theorem td_43 : ∀ x ∈ tc_43, decode prog_4_method_5_code x.1 = .ok x.2 := by decide +kernel
set_option maxRecDepth 100000 in
theorem td_44 : ∀ x ∈ tc_44, decode prog_4_method_6_code x.1 = .ok x.2 := by decide +kernel
set_option maxRecDepth 100000 in
theorem td_45 : ∀ x ∈ tc_45, decode prog_4_method_7_code x.1 = .ok x.2 := by decide +kernel
set_option maxRecDepth 100000 in
theorem td_46 : ∀ x ∈ tc_46, decode prog_4_method_8_code x.1 = .ok x.2 := by decide +kernel
set_option maxRecDepth 100000 in
theorem td_47 : ∀ x ∈ tc_47, decode prog_4_method_9_code x.1 = .ok x.2 := by decide +kernel
