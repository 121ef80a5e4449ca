set_option maxRecDepth 100000 in
theorem td_144 : ∀ x ∈ tc_144, decode prog_9_method_20_code x.1 = .ok x.2 := by decide +kernel
set_option maxRecDepth 100000 in
theorem td_145 : ∀ x ∈ tc_145, decode prog_9_method_21_code x.1 = .ok x.2 := by decide +kernel
set_option maxRecDepth 100000 in
theorem td_146 : ∀ x ∈ tc_146, decode prog_9_method_22_code x.1 = .ok x.2 := by decide +kernel
set_option maxRecDepth 100000 in
theorem td_147 : ∀ x ∈ tc_147, decode prog_9_method_23_code x.1 = .ok x.2 := by decide +kernel
set_option maxRecDepth 100000 in
theorem td_148 : ∀ x ∈ tc_148, decode prog_9_method_24_code x.1 = .ok x.2 := by decide +kernel
set_option maxRecDepth 100000 in
theorem td_149 : ∀ x ∈ tc_149, decode prog_9_method_25_code x.1 = .ok x.2 := by decide +kernel
set_option maxRecDepth 100000 in
theorem td_150 : ∀ x ∈ tc_150, decode prog_9_method_26_code x.1 = .ok x.2 := by decide +kernel
set_option maxRecDepth 100000 in
theorem td_151 : ∀ x ∈ tc_151, decode prog_9_method_27_code x.1 = .ok x.2 := by decide +kernel
set_option maxRecDepth 100000 in
theorem td_152 : ∀ x ∈ tc_152, decode prog_9_method_28_code x.1 = .ok x.2 := by decide +kernel
set_option maxRecDepth 100000 in
theorem td_153 : ∀ x ∈ tc_153, decode prog_9_method_29_code x.1 = .ok x.2 := by decide +kernel
set_option maxRecDepth 100000 in
theorem td_154 : ∀ x ∈ tc_154, decode prog_9_method_30_code x.1 = .ok x.2 := by decide +kernel
set_option maxRecDepth 100000 in
theorem td_155 : ∀ x ∈ tc_155, decode prog_9_method_31_code x.1 = .ok x.2 := by decide +kernel
set_option maxRecDepth 100000 in
theorem td_156 : ∀ x ∈ tc_156, decode prog_9_method_32_code x.1 = .ok x.2 := by decide +kernel
set_option maxRecDepth 100000 in
theorem td_157 : ∀ x ∈ tc_157, decode prog_9_method_33_code x.1 = .ok x.2 := by decide +kernel
set_option maxRecDepth 100000 in
theorem td_158 : ∀ x ∈ tc_158, decode prog_9_method_34_code x.1 = .ok x.2 := by decide +kernel
set_option maxRecDepth 100000 in
theorem td_159 : ∀ x ∈ tc_159, decode prog_9_method_35_code x.1 = .ok x.2 := by decide +kernel
set_option maxRecDepth 100000 in
theorem td_160 : ∀ x ∈ tc_160, decode prog_9_method_36_code x.1 = .ok x.2 := by decide +kernel
set_option maxRecDepth 100000 in
theorem td_161 : ∀ x ∈ tc_161, decode prog_9_method_37_code x.1 = .ok x.2 := by decide +kernel
set_option maxRecDepth 100000 in
theorem td_162 : ∀ x ∈ tc_162, decode prog_9_method_38_code x.1 = .ok x.2 := by decide +kernel
set_option maxRecDepth 100000 in
theorem td_163 : ∀ x ∈ tc_163, decode prog_9_method_39_code x.1 = .ok x.2 := by decide +kernel
set_option maxRecDepth 100000 in
theorem td_164 : ∀ x ∈ tc_164, decode prog_9_method_40_code x.1 = .ok x.2 := by decide +kernel
set_option maxRecDepth 100000 in
theorem td_165 : ∀ x ∈ tc_165, decode prog_9_method_41_code x.1 = .ok x.2 := by decide +kernel
set_option maxRecDepth 100000 in
theorem td_166 : ∀ x ∈ tc_166, decode prog_9_method_42_code x.1 = .ok x.2 := by decide +kernel
set_option maxRecDepth 100000 in
theorem td_167 : ∀ x ∈ tc_167, decode prog_9_method_43_code x.1 = .ok x.2 := by decide +kernel
set_option maxRecDepth 100000 in
theorem td_168 : ∀ x ∈ tc_168, decode prog_9_method_44_code x.1 = .ok x.2 := by decide +kernel
set_option maxRecDepth 100000 in
theorem td_169 : ∀ x ∈ tc_169, decode prog_9_method_45_code x.1 = .ok x.2 := by decide +kernel
set_option maxRecDepth 100000 in
theorem td_170 : ∀ x ∈ tc_170, decode prog_9_method_46_code x.1 = .ok x.2 := by decide +kernel
set_option maxRecDepth 100000 in
theorem td_171 : ∀ x ∈ tc_171, decode prog_9_method_47_code x.1 = .ok x.2 := by decide +kernel
set_option maxRecDepth 100000 in
theorem td_172 : ∀ x ∈ tc_172, decode prog_9_method_48_code x.1 = .ok x.2 := by decide +kernel
set_option maxRecDepth 100000 in
theorem td_173 : ∀ x ∈ tc_173, decode prog_9_method_49_code x.1 = .ok x.2 := by decide +kernel
set_option maxRecDepth 100000 in
theorem td_174 : ∀ x ∈ tc_174, decode prog_9_method_50_code x.1 = .ok x.2 := by decide +kernel
set_option maxRecDepth 100000 in
theorem td_175 : ∀ x ∈ tc_175, decode prog_9_method_51_code x.1 = .ok x.2 := by decide +kernel
set_option maxRecDepth 100000 in
theorem td_176 : ∀ x ∈ tc_176, decode prog_9_method_52_code x.1 = .ok x.2 := by decide +kernel
set_option maxRecDepth 100000 in
theorem td_177 : ∀ x ∈ tc_177, decode prog_9_method_53_code x.1 = .ok x.2 := by decide +kernel
set_option maxRecDepth 100000 in
theorem td_178 : ∀ x ∈ tc_178, decode prog_9_method_54_code x.1 = .ok x.2 := by decide +kernel
set_option maxRecDepth 100000 in
theorem td_179 : ∀ x ∈ tc_179, decode prog_9_method_55_code x.1 = .ok x.2 := by decide +kernel
set_option maxRecDepth 100000 in
theorem td_180 : ∀ x ∈ tc_180, decode prog_9_method_56_code x.1 = .ok x.2 := by decide +kernel
set_option maxRecDepth 100000 in
theorem td_181 : ∀ x ∈ tc_181, decode prog_9_method_57_code x.1 = .ok x.2 := by decide +kernel
set_option maxRecDepth 100000 in
theorem td_182 : ∀ x ∈ tc_182, decode prog_9_method_58_code x.1 = .ok x.2 := by decide +kernel
set_option maxRecDepth 100000 in
theorem td_183 : ∀ x ∈ tc_183, decode prog_9_method_59_code x.1 = .ok x.2 := by decide +kernel
set_option maxRecDepth 100000 in
theorem td_184 : ∀ x ∈ tc_184, decode prog_9_method_60_code x.1 = .ok x.2 := by decide +kernel
set_option maxRecDepth 100000 in
theorem td_185 : ∀ x ∈ tc_185, decode prog_9_method_61_code x.1 = .ok x.2 := by decide +kernel
set_option maxRecDepth 100000 in
theorem td_186 : ∀ x ∈ tc_186, decode prog_9_method_62_code x.1 = .ok x.2 := by decide +kernel
set_option maxRecDepth 100000 in
theorem td_187 : ∀ x ∈ tc_187, decode prog_9_method_63_code x.1 = .ok x.2 := by decide +kernel
set_option maxRecDepth 100000 in
theorem td_188 : ∀ x ∈ tc_188, decode prog_9_method_64_code x.1 = .ok x.2 := by decide +kernel
set_option maxRecDepth 100000 in
theorem td_189 : ∀ x ∈ tc_189, decode prog_9_method_65_code x.1 = .ok x.2 := by decide +kernel
set_option maxRecDepth 100000 in
theorem td_190 : ∀ x ∈ tc_190, decode prog_9_method_66_code x.1 = .ok x.2 := by decide +kernel
set_option maxRecDepth 100000 in
theorem td_191 : ∀ x ∈ tc_191, decode prog_12_method_101_code x.1 = .ok x.2 := by decide +kernel
set_option maxRecDepth 100000 in
theorem td_192 : ∀ x ∈ tc_192, decode prog_12_method_103_code x.1 = .ok x.2 := by decide +kernel
def tk_dc (q : tkE) : Prop := ∀ x ∈ q.2.2.2.2.2.2.2.2.2.2, decode q.2.1 x.1 = .ok x.2
set_option maxRecDepth 100000 in
theorem tk_decs : ∀ q ∈ tk_all, tk_dc q := by
  intro q hq
  have h : ∀ (L : List tkE), (∀ q ∈ L, tk_dc q) → ∀ q ∈ L, tk_dc q := fun _ h => h
  simp only [tk_all] at hq
  revert q
  exact List.forall_mem_cons.mpr ⟨td_0, List.forall_mem_cons.mpr ⟨td_1, List.forall_mem_cons.mpr ⟨td_2, List.forall_mem_cons.mpr ⟨td_3, List.forall_mem_cons.mpr ⟨td_4, List.forall_mem_cons.mpr ⟨td_5, List.forall_mem_cons.mpr ⟨td_6, List.forall_mem_cons.mpr ⟨td_7, List.forall_mem_cons.mpr ⟨td_8, List.forall_mem_cons.mpr ⟨td_9, List.forall_mem_cons.mpr ⟨td_10, List.forall_mem_cons.mpr ⟨td_11, List.forall_mem_cons.mpr ⟨td_12, List.forall_mem_cons.mpr ⟨td_13, List.forall_mem_cons.mpr ⟨td_14, List.forall_mem_cons.mpr ⟨td_15, List.forall_mem_cons.mpr ⟨td_16, List.forall_mem_cons.mpr ⟨td_17, List.forall_mem_cons.mpr ⟨td_18, List.forall_mem_cons.mpr ⟨td_19, List.forall_mem_cons.mpr ⟨td_20, List.forall_mem_cons.mpr ⟨td_21, List.forall_mem_cons.mpr ⟨td_22, List.forall_mem_cons.mpr ⟨td_23, List.forall_mem_cons.mpr ⟨td_24, List.forall_mem_cons.mpr ⟨td_25, List.forall_mem_cons.mpr ⟨td_26, List.forall_mem_cons.mpr ⟨td_27, List.forall_mem_cons.mpr ⟨td_28, List.forall_mem_cons.mpr ⟨td_29, List.forall_mem_cons.mpr ⟨td_30, List.forall_mem_cons.mpr ⟨td_31, List.forall_mem_cons.mpr ⟨td_32, List.forall_mem_cons.mpr ⟨td_33, List.forall_mem_cons.mpr ⟨td_34, List.forall_mem_cons.mpr ⟨td_35, List.forall_mem_cons.mpr ⟨td_36, List.forall_mem_cons.mpr ⟨td_37, List.forall_mem_cons.mpr ⟨td_38, List.forall_mem_cons.mpr ⟨td_39, List.forall_mem_cons.mpr ⟨td_40, List.forall_mem_cons.mpr ⟨td_41, List.forall_mem_cons.mpr ⟨td_42, List.forall_mem_cons.mpr ⟨td_43, List.forall_mem_cons.mpr ⟨td_44, List.forall_mem_cons.mpr ⟨td_45, List.forall_mem_cons.mpr ⟨td_46, List.forall_mem_cons.mpr ⟨td_47, List.forall_mem_cons.mpr ⟨td_48, List.forall_mem_cons.mpr ⟨td_49, List.forall_mem_cons.mpr ⟨td_50, List.forall_mem_cons.mpr ⟨td_51, List.forall_mem_cons.mpr ⟨td_52, List.forall_mem_cons.mpr ⟨td_53, List.forall_mem_cons.mpr ⟨td_54, List.forall_mem_cons.mpr ⟨td_55, List.forall_mem_cons.mpr ⟨td_56, List.forall_mem_cons.mpr ⟨td_57, List.forall_mem_cons.mpr ⟨td_58, List.forall_mem_cons.mpr ⟨td_59, List.forall_mem_cons.mpr ⟨td_60, List.forall_mem_cons.mpr ⟨td_61, List.forall_mem_cons.mpr ⟨td_62, List.forall_mem_cons.mpr ⟨td_63, List.forall_mem_cons.mpr ⟨td_64, List.forall_mem_cons.mpr ⟨td_65, List.forall_mem_cons.mpr ⟨td_66, List.forall_mem_cons.mpr ⟨td_67, List.forall_mem_cons.mpr ⟨td_68, List.forall_mem_cons.mpr ⟨td_69, List.forall_mem_cons.mpr ⟨td_70, List.forall_mem_cons.mpr ⟨td_71, List.forall_mem_cons.mpr ⟨td_72, List.forall_mem_cons.mpr ⟨td_73, List.forall_mem_cons.mpr ⟨td_74, List.forall_mem_cons.mpr ⟨td_75, List.forall_mem_cons.mpr ⟨td_76, List.forall_mem_cons.mpr ⟨td_77, List.forall_mem_cons.mpr ⟨td_78, List.forall_mem_cons.mpr ⟨td_79, List.forall_mem_cons.mpr ⟨td_80, List.forall_mem_cons.mpr ⟨td_81, List.forall_mem_cons.mpr ⟨td_82, List.forall_mem_cons.mpr ⟨td_83, List.forall_mem_cons.mpr ⟨td_84, List.forall_mem_cons.mpr ⟨td_85, List.forall_mem_cons.mpr ⟨td_86, List.forall_mem_cons.mpr ⟨td_87, List.forall_mem_cons.mpr ⟨td_88, List.forall_mem_cons.mpr ⟨td_89, List.forall_mem_cons.mpr ⟨td_90, List.forall_mem_cons.mpr ⟨td_91, List.forall_mem_cons.mpr ⟨td_92, List.forall_mem_cons.mpr ⟨td_93, List.forall_mem_cons.mpr ⟨td_94, List.forall_mem_cons.mpr ⟨td_95, List.forall_mem_cons.mpr ⟨td_96, List.forall_mem_cons.mpr ⟨td_97, List.forall_mem_cons.mpr ⟨td_98, List.forall_mem_cons.mpr ⟨td_99, List.forall_mem_cons.mpr ⟨td_100, List.forall_mem_cons.mpr ⟨td_101, List.forall_mem_cons.mpr ⟨td_102, List.forall_mem_cons.mpr ⟨td_103, List.forall_mem_cons.mpr ⟨td_104, List.forall_mem_cons.mpr ⟨td_105, List.forall_mem_cons.mpr ⟨td_106, List.forall_mem_cons.mpr ⟨td_107, List.forall_mem_cons.mpr ⟨td_108, List.forall_mem_cons.mpr ⟨td_109, List.forall_mem_cons.mpr ⟨td_110, List.forall_mem_cons.mpr ⟨td_111, List.forall_mem_cons.mpr ⟨td_112, List.forall_mem_cons.mpr ⟨td_113, List.forall_mem_cons.mpr ⟨td_114, List.forall_mem_cons.mpr ⟨td_115, List.forall_mem_cons.mpr ⟨td_116, List.forall_mem_cons.mpr ⟨td_117, List.forall_mem_cons.mpr ⟨td_118, List.forall_mem_cons.mpr ⟨td_119, List.forall_mem_cons.mpr ⟨td_120, List.forall_mem_cons.mpr ⟨td_121, List.forall_mem_cons.mpr ⟨td_122, List.forall_mem_cons.mpr ⟨td_123, List.forall_mem_cons.mpr ⟨td_124, List.forall_mem_cons.mpr ⟨td_125, List.forall_mem_cons.mpr ⟨td_126, List.forall_mem_cons.mpr ⟨td_127, List.forall_mem_cons.mpr ⟨td_128, List.forall_mem_cons.mpr ⟨td_129, List.forall_mem_cons.mpr ⟨td_130, List.forall_mem_cons.mpr ⟨td_131, List.forall_mem_cons.mpr ⟨td_132, List.forall_mem_cons.mpr ⟨td_133, List.forall_mem_cons.mpr ⟨td_134, List.forall_mem_cons.mpr ⟨td_135, List.forall_mem_cons.mpr ⟨td_136, List.forall_mem_cons.mpr ⟨td_137, List.forall_mem_cons.mpr ⟨td_138, List.forall_mem_cons.mpr ⟨td_139, List.forall_mem_cons.mpr ⟨td_140, List.forall_mem_cons.mpr ⟨td_141, List.forall_mem_cons.mpr ⟨td_142, List.forall_mem_cons.mpr ⟨td_143, List.forall_mem_cons.mpr ⟨td_144, List.forall_mem_cons.mpr ⟨td_145, List.forall_mem_cons.mpr ⟨td_146, List.forall_mem_cons.mpr ⟨td_147, List.forall_mem_cons.mpr ⟨td_148, List.forall_mem_cons.mpr ⟨td_149, List.forall_mem_cons.mpr ⟨td_150, List.forall_mem_cons.mpr ⟨td_151, List.forall_mem_cons.mpr ⟨td_152, List.forall_mem_cons.mpr ⟨td_153, List.forall_mem_cons.mpr ⟨td_154, List.forall_mem_cons.mpr ⟨td_155, List.forall_mem_cons.mpr ⟨td_156, List.forall_mem_cons.mpr ⟨td_157, List.forall_mem_cons.mpr ⟨td_158, List.forall_mem_cons.mpr ⟨td_159, List.forall_mem_cons.mpr ⟨td_160, List.forall_mem_cons.mpr ⟨td_161, List.forall_mem_cons.mpr ⟨td_162, List.forall_mem_cons.mpr ⟨td_163, List.forall_mem_cons.mpr ⟨td_164, List.forall_mem_cons.mpr ⟨td_165, List.forall_mem_cons.mpr ⟨td_166, List.forall_mem_cons.mpr ⟨td_167, List.forall_mem_cons.mpr ⟨td_168, List.forall_mem_cons.mpr ⟨td_169, List.forall_mem_cons.mpr ⟨td_170, List.forall_mem_cons.mpr ⟨td_171, List.forall_mem_cons.mpr ⟨td_172, List.forall_mem_cons.mpr ⟨td_173, List.forall_mem_cons.mpr ⟨td_174, List.forall_mem_cons.mpr ⟨td_175, List.forall_mem_cons.mpr ⟨td_176, List.forall_mem_cons.mpr ⟨td_177, List.forall_mem_cons.mpr ⟨td_178, List.forall_mem_cons.mpr ⟨td_179, List.forall_mem_cons.mpr ⟨td_180, List.forall_mem_cons.mpr ⟨td_181, List.forall_mem_cons.mpr ⟨td_182, List.forall_mem_cons.mpr ⟨td_183, List.forall_mem_cons.mpr ⟨td_184, List.forall_mem_cons.mpr ⟨td_185, List.forall_mem_cons.mpr ⟨td_186, List.forall_mem_cons.mpr ⟨td_187, List.forall_mem_cons.mpr ⟨td_188, List.forall_mem_cons.mpr ⟨td_189, List.forall_mem_cons.mpr ⟨td_190, List.forall_mem_cons.mpr ⟨td_191, List.forall_mem_cons.mpr ⟨td_192, fun _ h => absurd h List.not_mem_nil⟩⟩⟩⟩⟩⟩⟩⟩⟩⟩⟩⟩⟩⟩⟩⟩⟩⟩⟩⟩⟩⟩⟩⟩⟩⟩⟩⟩⟩⟩⟩⟩⟩⟩⟩⟩⟩⟩⟩⟩⟩⟩⟩⟩⟩⟩⟩⟩⟩⟩⟩⟩⟩⟩⟩⟩⟩⟩⟩⟩⟩⟩⟩⟩⟩⟩⟩⟩⟩⟩⟩⟩⟩⟩⟩⟩⟩⟩⟩⟩⟩⟩⟩⟩⟩⟩⟩⟩⟩⟩⟩⟩⟩⟩⟩⟩⟩⟩⟩⟩⟩⟩⟩⟩⟩⟩⟩⟩⟩⟩⟩⟩⟩⟩⟩⟩⟩⟩⟩⟩⟩⟩⟩⟩⟩⟩⟩⟩⟩⟩⟩⟩⟩⟩⟩⟩⟩⟩⟩⟩⟩⟩⟩⟩⟩⟩⟩⟩⟩⟩⟩⟩⟩⟩⟩⟩⟩⟩⟩⟩⟩⟩⟩⟩⟩⟩⟩⟩⟩⟩⟩⟩⟩⟩⟩⟩⟩⟩⟩⟩⟩⟩⟩⟩⟩⟩⟩⟩⟩⟩⟩⟩⟩
