set_option maxRecDepth 100000 in
theorem td_48 : ∀ x ∈ tc_48, decode prog_4_method_10_code x.1 = .ok x.2 := by decide +kernel
set_option maxRecDepth 100000 in
theorem td_49 : ∀ x ∈ tc_49, decode prog_4_method_11_code x.1 = .ok x.2 := by decide +kernel
set_option maxRecDepth 100000 in
theorem td_50 : ∀ x ∈ tc_50, decode prog_4_method_12_code x.1 = .ok x.2 := by decide +kernel
set_option maxRecDepth 100000 in
theorem td_51 : ∀ x ∈ tc_51, decode prog_4_method_13_code x.1 = .ok x.2 := by decide +kernel
set_option maxRecDepth 100000 in
theorem td_52 : ∀ x ∈ tc_52, decode prog_4_method_14_code x.1 = .ok x.2 := by decide +kernel
set_option maxRecDepth 100000 in
theorem td_53 : ∀ x ∈ tc_53, decode prog_4_method_15_code x.1 = .ok x.2 := by decide +kernel
set_option maxRecDepth 100000 in
theorem td_54 : ∀ x ∈ tc_54, decode prog_4_method_16_code x.1 = .ok x.2 := by decide +kernel
set_option maxRecDepth 100000 in
theorem td_55 : ∀ x ∈ tc_55, decode prog_4_method_17_code x.1 = .ok x.2 := by decide +kernel
set_option maxRecDepth 100000 in
theorem td_56 : ∀ x ∈ tc_56, decode prog_4_method_18_code x.1 = .ok x.2 := by decide +kernel
set_option maxRecDepth 100000 in
theorem td_57 : ∀ x ∈ tc_57, decode prog_4_method_19_code x.1 = .ok x.2 := by decide +kernel
set_option maxRecDepth 100000 in
theorem td_58 : ∀ x ∈ tc_58, decode prog_4_method_20_code x.1 = .ok x.2 := by decide +kernel
set_option maxRecDepth 100000 in
theorem td_59 : ∀ x ∈ tc_59, decode prog_4_method_21_code x.1 = .ok x.2 := by decide +kernel
set_option maxRecDepth 100000 in
theorem td_60 : ∀ x ∈ tc_60, decode prog_4_method_22_code x.1 = .ok x.2 := by decide +kernel
set_option maxRecDepth 100000 in
theorem td_61 : ∀ x ∈ tc_61, decode prog_5_method_2_code x.1 = .ok x.2 := by decide +kernel
set_option maxRecDepth 100000 in
theorem td_62 : ∀ x ∈ tc_62, decode prog_5_method_3_code x.1 = .ok x.2 := by decide +kernel
set_option maxRecDepth 100000 in
theorem td_63 : ∀ x ∈ tc_63, decode prog_5_method_4_code x.1 = .ok x.2 := by decide +kernel
set_option maxRecDepth 100000 in
theorem td_64 : ∀ x ∈ tc_64, decode prog_5_method_5_code x.1 = .ok x.2 := by decide +kernel
set_option maxRecDepth 100000 in
theorem td_65 : ∀ x ∈ tc_65, decode prog_5_method_6_code x.1 = .ok x.2 := by decide +kernel
set_option maxRecDepth 100000 in
theorem td_66 : ∀ x ∈ tc_66, decode prog_5_method_7_code x.1 = .ok x.2 := by decide +kernel
set_option maxRecDepth 100000 in
theorem td_67 : ∀ x ∈ tc_67, decode prog_5_method_8_code x.1 = .ok x.2 := by decide +kernel
set_option maxRecDepth 100000 in
theorem td_68 : ∀ x ∈ tc_68, decode prog_5_method_9_code x.1 = .ok x.2 := by decide +kernel
set_option maxRecDepth 100000 in
theorem td_69 : ∀ x ∈ tc_69, decode prog_6_method_2_code x.1 = .ok x.2 := by decide +kernel
set_option maxRecDepth 100000 in
theorem td_70 : ∀ x ∈ tc_70, decode prog_6_method_3_code x.1 = .ok x.2 := by decide +kernel
set_option maxRecDepth 100000 in
theorem td_71 : ∀ x ∈ tc_71, decode prog_6_method_4_code x.1 = .ok x.2 := by decide +kernel
set_option maxRecDepth 100000 in
theorem td_72 : ∀ x ∈ tc_72, decode prog_6_method_5_code x.1 = .ok x.2 := by decide +kernel
set_option maxRecDepth 100000 in
theorem td_73 : ∀ x ∈ tc_73, decode prog_6_method_6_code x.1 = .ok x.2 := by decide +kernel
set_option maxRecDepth 100000 in
theorem td_74 : ∀ x ∈ tc_74, decode prog_6_method_7_code x.1 = .ok x.2 := by decide +kernel
set_option maxRecDepth 100000 in
theorem td_75 : ∀ x ∈ tc_75, decode prog_6_method_8_code x.1 = .ok x.2 := by decide +kernel
set_option maxRecDepth 100000 in
theorem td_76 : ∀ x ∈ tc_76, decode prog_6_method_9_code x.1 = .ok x.2 := by decide +kernel
set_option maxRecDepth 100000 in
theorem td_77 : ∀ x ∈ tc_77, decode prog_6_method_10_code x.1 = .ok x.2 := by decide +kernel
set_option maxRecDepth 100000 in
theorem td_78 : ∀ x ∈ tc_78, decode prog_6_method_11_code x.1 = .ok x.2 := by decide +kernel
set_option maxRecDepth 100000 in
theorem td_79 : ∀ x ∈ tc_79, decode prog_6_method_12_code x.1 = .ok x.2 := by decide +kernel
set_option maxRecDepth 100000 in
theorem td_80 : ∀ x ∈ tc_80, decode prog_7_method_2_code x.1 = .ok x.2 := by decide +kernel
set_option maxRecDepth 100000 in
theorem td_81 : ∀ x ∈ tc_81, decode prog_7_method_3_code x.1 = .ok x.2 := by decide +kernel
set_option maxRecDepth 100000 in
theorem td_82 : ∀ x ∈ tc_82, decode prog_7_method_4_code x.1 = .ok x.2 := by decide +kernel
set_option maxRecDepth 100000 in
theorem td_83 : ∀ x ∈ tc_83, decode prog_7_method_5_code x.1 = .ok x.2 := by decide +kernel
set_option maxRecDepth 100000 in
theorem td_84 : ∀ x ∈ tc_84, decode prog_7_method_6_code x.1 = .ok x.2 := by decide +kernel
set_option maxRecDepth 100000 in
theorem td_85 : ∀ x ∈ tc_85, decode prog_7_method_7_code x.1 = .ok x.2 := by decide +kernel
set_option maxRecDepth 100000 in
theorem td_86 : ∀ x ∈ tc_86, decode prog_7_method_8_code x.1 = .ok x.2 := by decide +kernel
set_option maxRecDepth 100000 in
theorem td_87 : ∀ x ∈ tc_87, decode prog_7_method_9_code x.1 = .ok x.2 := by decide +kernel
set_option maxRecDepth 100000 in
theorem td_88 : ∀ x ∈ tc_88, decode prog_7_method_10_code x.1 = .ok x.2 := by decide +kernel
set_option maxRecDepth 100000 in
theorem td_89 : ∀ x ∈ tc_89, decode prog_7_method_11_code x.1 = .ok x.2 := by decide +kernel
set_option maxRecDepth 100000 in
theorem td_90 : ∀ x ∈ tc_90, decode prog_7_method_12_code x.1 = .ok x.2 := by decide +kernel
set_option maxRecDepth 100000 in
theorem td_91 : ∀ x ∈ tc_91, decode prog_7_method_13_code x.1 = .ok x.2 := by decide +kernel
set_option maxRecDepth 100000 in
theorem td_92 : ∀ x ∈ tc_92, decode prog_7_method_14_code x.1 = .ok x.2 := by decide +kernel
set_option maxRecDepth 100000 in
theorem td_93 : ∀ x ∈ tc_93, decode prog_7_method_15_code x.1 = .ok x.2 := by decide +kernel
set_option maxRecDepth 100000 in
theorem td_94 : ∀ x ∈ tc_94, decode prog_7_method_16_code x.1 = .ok x.2 := by decide +kernel
set_option maxRecDepth 100000 in
theorem td_95 : ∀ x ∈ tc_95, decode prog_7_method_17_code x.1 = .ok x.2 := by decide +kernel
