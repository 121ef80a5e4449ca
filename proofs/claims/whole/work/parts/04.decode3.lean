set_option maxRecDepth 100000 in
theorem td_96 : ∀ x ∈ tc_96, decode prog_7_method_18_code x.1 = .ok x.2 := by decide +kernel
set_option maxRecDepth 100000 in
theorem td_97 : ∀ x ∈ tc_97, decode prog_7_method_19_code x.1 = .ok x.2 := by decide +kernel
set_option maxRecDepth 100000 in
theorem td_98 : ∀ x ∈ tc_98, decode prog_1_method_2_code x.1 = .ok x.2 := by decide +kernel
set_option maxRecDepth 100000 in
theorem td_99 : ∀ x ∈ tc_99, decode prog_1_method_3_code x.1 = .ok x.2 := by decide +kernel
set_option maxRecDepth 100000 in
theorem td_100 : ∀ x ∈ tc_100, decode prog_1_method_4_code x.1 = .ok x.2 := by decide +kernel
set_option maxRecDepth 100000 in
theorem td_101 : ∀ x ∈ tc_101, decode prog_1_method_5_code x.1 = .ok x.2 := by decide +kernel
set_option maxRecDepth 100000 in
theorem td_102 : ∀ x ∈ tc_102, decode prog_1_method_6_code x.1 = .ok x.2 := by decide +kernel
set_option maxRecDepth 100000 in
theorem td_103 : ∀ x ∈ tc_103, decode prog_1_method_7_code x.1 = .ok x.2 := by decide +kernel
set_option maxRecDepth 100000 in
theorem td_104 : ∀ x ∈ tc_104, decode prog_1_method_8_code x.1 = .ok x.2 := by decide +kernel
set_option maxRecDepth 100000 in
theorem td_105 : ∀ x ∈ tc_105, decode prog_1_method_9_code x.1 = .ok x.2 := by decide +kernel
set_option maxRecDepth 100000 in
theorem td_106 : ∀ x ∈ tc_106, decode prog_1_method_10_code x.1 = .ok x.2 := by decide +kernel
set_option maxRecDepth 100000 in
theorem td_107 : ∀ x ∈ tc_107, decode prog_1_method_11_code x.1 = .ok x.2 := by decide +kernel
set_option maxRecDepth 100000 in
theorem td_108 : ∀ x ∈ tc_108, decode prog_1_method_12_code x.1 = .ok x.2 := by decide +kernel
set_option maxRecDepth 100000 in
theorem td_109 : ∀ x ∈ tc_109, decode prog_1_method_13_code x.1 = .ok x.2 := by decide +kernel
set_option maxRecDepth 100000 in
theorem td_110 : ∀ x ∈ tc_110, decode prog_1_method_14_code x.1 = .ok x.2 := by decide +kernel
set_option maxRecDepth 100000 in
theorem td_111 : ∀ x ∈ tc_111, decode prog_1_method_15_code x.1 = .ok x.2 := by decide +kernel
set_option maxRecDepth 100000 in
theorem td_112 : ∀ x ∈ tc_112, decode prog_1_method_16_code x.1 = .ok x.2 := by decide +kernel
set_option maxRecDepth 100000 in
theorem td_113 : ∀ x ∈ tc_113, decode prog_1_method_17_code x.1 = .ok x.2 := by decide +kernel
set_option maxRecDepth 100000 in
theorem td_114 : ∀ x ∈ tc_114, decode prog_1_method_18_code x.1 = .ok x.2 := by decide +kernel
set_option maxRecDepth 100000 in
theorem td_115 : ∀ x ∈ tc_115, decode prog_1_method_19_code x.1 = .ok x.2 := by decide +kernel
set_option maxRecDepth 100000 in
theorem td_116 : ∀ x ∈ tc_116, decode prog_1_method_20_code x.1 = .ok x.2 := by decide +kernel
set_option maxRecDepth 100000 in
theorem td_117 : ∀ x ∈ tc_117, decode prog_1_method_21_code x.1 = .ok x.2 := by decide +kernel
set_option maxRecDepth 100000 in
theorem td_118 : ∀ x ∈ tc_118, decode prog_1_method_22_code x.1 = .ok x.2 := by decide +kernel
set_option maxRecDepth 100000 in
theorem td_119 : ∀ x ∈ tc_119, decode prog_1_method_23_code x.1 = .ok x.2 := by decide +kernel
set_option maxRecDepth 100000 in
theorem td_120 : ∀ x ∈ tc_120, decode prog_1_method_24_code x.1 = .ok x.2 := by decide +kernel
set_option maxRecDepth 100000 in
theorem td_121 : ∀ x ∈ tc_121, decode prog_1_method_25_code x.1 = .ok x.2 := by decide +kernel
set_option maxRecDepth 100000 in
theorem td_122 : ∀ x ∈ tc_122, decode prog_1_method_26_code x.1 = .ok x.2 := by decide +kernel
set_option maxRecDepth 100000 in
theorem td_123 : ∀ x ∈ tc_123, decode prog_1_method_27_code x.1 = .ok x.2 := by decide +kernel
set_option maxRecDepth 100000 in
theorem td_124 : ∀ x ∈ tc_124, decode prog_1_method_28_code x.1 = .ok x.2 := by decide +kernel
set_option maxRecDepth 100000 in
theorem td_125 : ∀ x ∈ tc_125, decode prog_1_method_29_code x.1 = .ok x.2 := by decide +kernel
set_option maxRecDepth 100000 in
theorem td_126 : ∀ x ∈ tc_126, decode prog_9_method_2_code x.1 = .ok x.2 := by decide +kernel
set_option maxRecDepth 100000 in
theorem td_127 : ∀ x ∈ tc_127, decode prog_9_method_3_code x.1 = .ok x.2 := by decide +kernel
set_option maxRecDepth 100000 in
theorem td_128 : ∀ x ∈ tc_128, decode prog_9_method_4_code x.1 = .ok x.2 := by decide +kernel
set_option maxRecDepth 100000 in
theorem td_129 : ∀ x ∈ tc_129, decode prog_9_method_5_code x.1 = .ok x.2 := by decide +kernel
set_option maxRecDepth 100000 in
theorem td_130 : ∀ x ∈ tc_130, decode prog_9_method_6_code x.1 = .ok x.2 := by decide +kernel
set_option maxRecDepth 100000 in
theorem td_131 : ∀ x ∈ tc_131, decode prog_9_method_7_code x.1 = .ok x.2 := by decide +kernel
set_option maxRecDepth 100000 in
theorem td_132 : ∀ x ∈ tc_132, decode prog_9_method_8_code x.1 = .ok x.2 := by decide +kernel
set_option maxRecDepth 100000 in
theorem td_133 : ∀ x ∈ tc_133, decode prog_9_method_9_code x.1 = .ok x.2 := by decide +kernel
set_option maxRecDepth 100000 in
theorem td_134 : ∀ x ∈ tc_134, decode prog_9_method_10_code x.1 = .ok x.2 := by decide +kernel
set_option maxRecDepth 100000 in
theorem td_135 : ∀ x ∈ tc_135, decode prog_9_method_11_code x.1 = .ok x.2 := by decide +kernel
set_option maxRecDepth 100000 in
theorem td_136 : ∀ x ∈ tc_136, decode prog_9_method_12_code x.1 = .ok x.2 := by decide +kernel
set_option maxRecDepth 100000 in
theorem td_137 : ∀ x ∈ tc_137, decode prog_9_method_13_code x.1 = .ok x.2 := by decide +kernel
set_option maxRecDepth 100000 in
theorem td_138 : ∀ x ∈ tc_138, decode prog_9_method_14_code x.1 = .ok x.2 := by decide +kernel
set_option maxRecDepth 100000 in
theorem td_139 : ∀ x ∈ tc_139, decode prog_9_method_15_code x.1 = .ok x.2 := by decide +kernel
set_option maxRecDepth 100000 in
theorem td_140 : ∀ x ∈ tc_140, decode prog_9_method_16_code x.1 = .ok x.2 := by decide +kernel
set_option maxRecDepth 100000 in
theorem td_141 : ∀ x ∈ tc_141, decode prog_9_method_17_code x.1 = .ok x.2 := by decide +kernel
set_option maxRecDepth 100000 in
theorem td_142 : ∀ x ∈ tc_142, decode prog_9_method_18_code x.1 = .ok x.2 := by decide +kernel
set_option maxRecDepth 100000 in
theorem td_143 : ∀ x ∈ tc_143, decode prog_9_method_19_code x.1 = .ok x.2 := by decide +kernel
