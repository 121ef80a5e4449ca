/-! the constructors -/
theorem tkm {w : Cond} (i : Nat) (h : lw_tbl[i]? = some w) (hg : goodWord w = true) : w ∈ tk_TB := tk_tb (List.mem_of_getElem? h) hg
def yi_0 : MethodName := ⟨"TickPlans$Choices", "<init>", "()V"⟩
abbrev bi_0 : ByteArray := prog_2_method_1_code
theorem di_0_0 : decode bi_0 0 = .ok (.aload_n 0, 1) := by decide +kernel
theorem di_0_1 : decode bi_0 1 = .ok (.invokespecial 3, 3) := by decide +kernel
theorem di_0_4 : decode bi_0 4 = .ok (.aload_n 0, 1) := by decide +kernel
theorem di_0_5 : decode bi_0 5 = .ok (.sipush 256, 3) := by decide +kernel
theorem di_0_8 : decode bi_0 8 = .ok (.newarray .long, 2) := by decide +kernel
theorem di_0_10 : decode bi_0 10 = .ok (.putfield 9, 3) := by decide +kernel
theorem di_0_13 : decode bi_0 13 = .ok (.return_, 1) := by decide +kernel
def yi_1 : MethodName := ⟨"TickPlans$Net", "<init>", "()V"⟩
abbrev bi_1 : ByteArray := prog_3_method_1_code
theorem di_1_0 : decode bi_1 0 = .ok (.aload_n 0, 1) := by decide +kernel
theorem di_1_1 : decode bi_1 1 = .ok (.invokespecial 3, 3) := by decide +kernel
theorem di_1_4 : decode bi_1 4 = .ok (.aload_n 0, 1) := by decide +kernel
theorem di_1_5 : decode bi_1 5 = .ok (.bipush 60, 2) := by decide +kernel
theorem di_1_7 : decode bi_1 7 = .ok (.newarray .int, 2) := by decide +kernel
theorem di_1_9 : decode bi_1 9 = .ok (.putfield 9, 3) := by decide +kernel
theorem di_1_12 : decode bi_1 12 = .ok (.aload_n 0, 1) := by decide +kernel
theorem di_1_13 : decode bi_1 13 = .ok (.bipush 60, 2) := by decide +kernel
theorem di_1_15 : decode bi_1 15 = .ok (.newarray .int, 2) := by decide +kernel
theorem di_1_17 : decode bi_1 17 = .ok (.putfield 15, 3) := by decide +kernel
theorem di_1_20 : decode bi_1 20 = .ok (.aload_n 0, 1) := by decide +kernel
theorem di_1_21 : decode bi_1 21 = .ok (.bipush 60, 2) := by decide +kernel
theorem di_1_23 : decode bi_1 23 = .ok (.newarray .int, 2) := by decide +kernel
theorem di_1_25 : decode bi_1 25 = .ok (.putfield 18, 3) := by decide +kernel
theorem di_1_28 : decode bi_1 28 = .ok (.aload_n 0, 1) := by decide +kernel
theorem di_1_29 : decode bi_1 29 = .ok (.bipush 60, 2) := by decide +kernel
theorem di_1_31 : decode bi_1 31 = .ok (.newarray .int, 2) := by decide +kernel
theorem di_1_33 : decode bi_1 33 = .ok (.putfield 21, 3) := by decide +kernel
theorem di_1_36 : decode bi_1 36 = .ok (.aload_n 0, 1) := by decide +kernel
theorem di_1_37 : decode bi_1 37 = .ok (.bipush 60, 2) := by decide +kernel
theorem di_1_39 : decode bi_1 39 = .ok (.newarray .int, 2) := by decide +kernel
theorem di_1_41 : decode bi_1 41 = .ok (.putfield 24, 3) := by decide +kernel
theorem di_1_44 : decode bi_1 44 = .ok (.aload_n 0, 1) := by decide +kernel
theorem di_1_45 : decode bi_1 45 = .ok (.bipush 6, 2) := by decide +kernel
theorem di_1_47 : decode bi_1 47 = .ok (.newarray .int, 2) := by decide +kernel
theorem di_1_49 : decode bi_1 49 = .ok (.putfield 27, 3) := by decide +kernel
theorem di_1_52 : decode bi_1 52 = .ok (.return_, 1) := by decide +kernel
def yi_2 : MethodName := ⟨"TickPlans$Run", "<init>", "()V"⟩
abbrev bi_2 : ByteArray := prog_4_method_1_code
theorem di_2_0 : decode bi_2 0 = .ok (.aload_n 0, 1) := by decide +kernel
theorem di_2_1 : decode bi_2 1 = .ok (.invokespecial 3, 3) := by decide +kernel
theorem di_2_4 : decode bi_2 4 = .ok (.aload_n 0, 1) := by decide +kernel
theorem di_2_5 : decode bi_2 5 = .ok (.bipush 16, 2) := by decide +kernel
theorem di_2_7 : decode bi_2 7 = .ok (.newarray .int, 2) := by decide +kernel
theorem di_2_9 : decode bi_2 9 = .ok (.putfield 9, 3) := by decide +kernel
theorem di_2_12 : decode bi_2 12 = .ok (.return_, 1) := by decide +kernel
def yi_3 : MethodName := ⟨"TickPlans$Tape", "<init>", "()V"⟩
abbrev bi_3 : ByteArray := prog_6_method_1_code
theorem di_3_0 : decode bi_3 0 = .ok (.aload_n 0, 1) := by decide +kernel
theorem di_3_1 : decode bi_3 1 = .ok (.invokespecial 3, 3) := by decide +kernel
theorem di_3_4 : decode bi_3 4 = .ok (.aload_n 0, 1) := by decide +kernel
theorem di_3_5 : decode bi_3 5 = .ok (.sipush 1000, 3) := by decide +kernel
theorem di_3_8 : decode bi_3 8 = .ok (.newarray .byte, 2) := by decide +kernel
theorem di_3_10 : decode bi_3 10 = .ok (.putfield 9, 3) := by decide +kernel
theorem di_3_13 : decode bi_3 13 = .ok (.aload_n 0, 1) := by decide +kernel
theorem di_3_14 : decode bi_3 14 = .ok (.iconst 4, 1) := by decide +kernel
theorem di_3_15 : decode bi_3 15 = .ok (.newarray .int, 2) := by decide +kernel
theorem di_3_17 : decode bi_3 17 = .ok (.putfield 15, 3) := by decide +kernel
theorem di_3_20 : decode bi_3 20 = .ok (.return_, 1) := by decide +kernel
def yi_4 : MethodName := ⟨"TickPlans$Waits", "<init>", "()V"⟩
abbrev bi_4 : ByteArray := prog_7_method_1_code
theorem di_4_0 : decode bi_4 0 = .ok (.aload_n 0, 1) := by decide +kernel
theorem di_4_1 : decode bi_4 1 = .ok (.invokespecial 3, 3) := by decide +kernel
theorem di_4_4 : decode bi_4 4 = .ok (.aload_n 0, 1) := by decide +kernel
theorem di_4_5 : decode bi_4 5 = .ok (.sipush 256, 3) := by decide +kernel
theorem di_4_8 : decode bi_4 8 = .ok (.newarray .long, 2) := by decide +kernel
theorem di_4_10 : decode bi_4 10 = .ok (.putfield 9, 3) := by decide +kernel
theorem di_4_13 : decode bi_4 13 = .ok (.aload_n 0, 1) := by decide +kernel
theorem di_4_14 : decode bi_4 14 = .ok (.sipush 256, 3) := by decide +kernel
theorem di_4_17 : decode bi_4 17 = .ok (.newarray .long, 2) := by decide +kernel
theorem di_4_19 : decode bi_4 19 = .ok (.putfield 15, 3) := by decide +kernel
theorem di_4_22 : decode bi_4 22 = .ok (.aload_n 0, 1) := by decide +kernel
theorem di_4_23 : decode bi_4 23 = .ok (.sipush 256, 3) := by decide +kernel
theorem di_4_26 : decode bi_4 26 = .ok (.newarray .long, 2) := by decide +kernel
theorem di_4_28 : decode bi_4 28 = .ok (.putfield 18, 3) := by decide +kernel
theorem di_4_31 : decode bi_4 31 = .ok (.aload_n 0, 1) := by decide +kernel
theorem di_4_32 : decode bi_4 32 = .ok (.bipush 96, 2) := by decide +kernel
theorem di_4_34 : decode bi_4 34 = .ok (.newarray .long, 2) := by decide +kernel
theorem di_4_36 : decode bi_4 36 = .ok (.putfield 21, 3) := by decide +kernel
theorem di_4_39 : decode bi_4 39 = .ok (.aload_n 0, 1) := by decide +kernel
theorem di_4_40 : decode bi_4 40 = .ok (.bipush 96, 2) := by decide +kernel
theorem di_4_42 : decode bi_4 42 = .ok (.newarray .long, 2) := by decide +kernel
theorem di_4_44 : decode bi_4 44 = .ok (.putfield 24, 3) := by decide +kernel
theorem di_4_47 : decode bi_4 47 = .ok (.aload_n 0, 1) := by decide +kernel
theorem di_4_48 : decode bi_4 48 = .ok (.bipush 96, 2) := by decide +kernel
theorem di_4_50 : decode bi_4 50 = .ok (.newarray .long, 2) := by decide +kernel
theorem di_4_52 : decode bi_4 52 = .ok (.putfield 27, 3) := by decide +kernel
theorem di_4_55 : decode bi_4 55 = .ok (.return_, 1) := by decide +kernel
def yi_5 : MethodName := ⟨"TickPlans", "<init>", "()V"⟩
abbrev bi_5 : ByteArray := prog_1_method_1_code
theorem di_5_0 : decode bi_5 0 = .ok (.aload_n 0, 1) := by decide +kernel
theorem di_5_1 : decode bi_5 1 = .ok (.invokespecial 1, 3) := by decide +kernel
theorem di_5_4 : decode bi_5 4 = .ok (.aload_n 0, 1) := by decide +kernel
theorem di_5_5 : decode bi_5 5 = .ok (.new 7, 3) := by decide +kernel
theorem di_5_8 : decode bi_5 8 = .ok (.dup, 1) := by decide +kernel
theorem di_5_9 : decode bi_5 9 = .ok (.invokespecial 9, 3) := by decide +kernel
theorem di_5_12 : decode bi_5 12 = .ok (.putfield 10, 3) := by decide +kernel
theorem di_5_15 : decode bi_5 15 = .ok (.aload_n 0, 1) := by decide +kernel
theorem di_5_16 : decode bi_5 16 = .ok (.new 7, 3) := by decide +kernel
theorem di_5_19 : decode bi_5 19 = .ok (.dup, 1) := by decide +kernel
theorem di_5_20 : decode bi_5 20 = .ok (.invokespecial 9, 3) := by decide +kernel
theorem di_5_23 : decode bi_5 23 = .ok (.putfield 16, 3) := by decide +kernel
theorem di_5_26 : decode bi_5 26 = .ok (.aload_n 0, 1) := by decide +kernel
theorem di_5_27 : decode bi_5 27 = .ok (.new 19, 3) := by decide +kernel
theorem di_5_30 : decode bi_5 30 = .ok (.dup, 1) := by decide +kernel
theorem di_5_31 : decode bi_5 31 = .ok (.invokespecial 21, 3) := by decide +kernel
theorem di_5_34 : decode bi_5 34 = .ok (.putfield 22, 3) := by decide +kernel
theorem di_5_37 : decode bi_5 37 = .ok (.aload_n 0, 1) := by decide +kernel
theorem di_5_38 : decode bi_5 38 = .ok (.new 26, 3) := by decide +kernel
theorem di_5_41 : decode bi_5 41 = .ok (.dup, 1) := by decide +kernel
theorem di_5_42 : decode bi_5 42 = .ok (.invokespecial 28, 3) := by decide +kernel
theorem di_5_45 : decode bi_5 45 = .ok (.putfield 29, 3) := by decide +kernel
theorem di_5_48 : decode bi_5 48 = .ok (.aload_n 0, 1) := by decide +kernel
theorem di_5_49 : decode bi_5 49 = .ok (.new 33, 3) := by decide +kernel
theorem di_5_52 : decode bi_5 52 = .ok (.dup, 1) := by decide +kernel
theorem di_5_53 : decode bi_5 53 = .ok (.invokespecial 35, 3) := by decide +kernel
theorem di_5_56 : decode bi_5 56 = .ok (.putfield 36, 3) := by decide +kernel
theorem di_5_59 : decode bi_5 59 = .ok (.aload_n 0, 1) := by decide +kernel
theorem di_5_60 : decode bi_5 60 = .ok (.new 40, 3) := by decide +kernel
theorem di_5_63 : decode bi_5 63 = .ok (.dup, 1) := by decide +kernel
theorem di_5_64 : decode bi_5 64 = .ok (.invokespecial 42, 3) := by decide +kernel
theorem di_5_67 : decode bi_5 67 = .ok (.putfield 43, 3) := by decide +kernel
theorem di_5_70 : decode bi_5 70 = .ok (.return_, 1) := by decide +kernel
def yi_6 : MethodName := ⟨"TickPlansModel", "<init>", "()V"⟩
abbrev bi_6 : ByteArray := prog_9_method_1_code
theorem di_6_0 : decode bi_6 0 = .ok (.aload_n 0, 1) := by decide +kernel
theorem di_6_1 : decode bi_6 1 = .ok (.invokespecial 1, 3) := by decide +kernel
theorem di_6_4 : decode bi_6 4 = .ok (.aload_n 0, 1) := by decide +kernel
theorem di_6_5 : decode bi_6 5 = .ok (.bipush 60, 2) := by decide +kernel
theorem di_6_7 : decode bi_6 7 = .ok (.newarray .int, 2) := by decide +kernel
theorem di_6_9 : decode bi_6 9 = .ok (.putfield 7, 3) := by decide +kernel
theorem di_6_12 : decode bi_6 12 = .ok (.aload_n 0, 1) := by decide +kernel
theorem di_6_13 : decode bi_6 13 = .ok (.bipush 60, 2) := by decide +kernel
theorem di_6_15 : decode bi_6 15 = .ok (.newarray .int, 2) := by decide +kernel
theorem di_6_17 : decode bi_6 17 = .ok (.putfield 13, 3) := by decide +kernel
theorem di_6_20 : decode bi_6 20 = .ok (.aload_n 0, 1) := by decide +kernel
theorem di_6_21 : decode bi_6 21 = .ok (.bipush 60, 2) := by decide +kernel
theorem di_6_23 : decode bi_6 23 = .ok (.newarray .int, 2) := by decide +kernel
theorem di_6_25 : decode bi_6 25 = .ok (.putfield 16, 3) := by decide +kernel
theorem di_6_28 : decode bi_6 28 = .ok (.aload_n 0, 1) := by decide +kernel
theorem di_6_29 : decode bi_6 29 = .ok (.bipush 60, 2) := by decide +kernel
theorem di_6_31 : decode bi_6 31 = .ok (.newarray .int, 2) := by decide +kernel
theorem di_6_33 : decode bi_6 33 = .ok (.putfield 19, 3) := by decide +kernel
theorem di_6_36 : decode bi_6 36 = .ok (.aload_n 0, 1) := by decide +kernel
theorem di_6_37 : decode bi_6 37 = .ok (.bipush 60, 2) := by decide +kernel
theorem di_6_39 : decode bi_6 39 = .ok (.newarray .int, 2) := by decide +kernel
theorem di_6_41 : decode bi_6 41 = .ok (.putfield 22, 3) := by decide +kernel
theorem di_6_44 : decode bi_6 44 = .ok (.aload_n 0, 1) := by decide +kernel
theorem di_6_45 : decode bi_6 45 = .ok (.bipush 6, 2) := by decide +kernel
theorem di_6_47 : decode bi_6 47 = .ok (.newarray .int, 2) := by decide +kernel
theorem di_6_49 : decode bi_6 49 = .ok (.putfield 25, 3) := by decide +kernel
theorem di_6_52 : decode bi_6 52 = .ok (.aload_n 0, 1) := by decide +kernel
theorem di_6_53 : decode bi_6 53 = .ok (.sipush 320, 3) := by decide +kernel
theorem di_6_56 : decode bi_6 56 = .ok (.newarray .int, 2) := by decide +kernel
theorem di_6_58 : decode bi_6 58 = .ok (.putfield 28, 3) := by decide +kernel
theorem di_6_61 : decode bi_6 61 = .ok (.aload_n 0, 1) := by decide +kernel
theorem di_6_62 : decode bi_6 62 = .ok (.sipush 1000, 3) := by decide +kernel
theorem di_6_65 : decode bi_6 65 = .ok (.newarray .byte, 2) := by decide +kernel
theorem di_6_67 : decode bi_6 67 = .ok (.putfield 31, 3) := by decide +kernel
theorem di_6_70 : decode bi_6 70 = .ok (.aload_n 0, 1) := by decide +kernel
theorem di_6_71 : decode bi_6 71 = .ok (.iconst 4, 1) := by decide +kernel
theorem di_6_72 : decode bi_6 72 = .ok (.newarray .int, 2) := by decide +kernel
theorem di_6_74 : decode bi_6 74 = .ok (.putfield 35, 3) := by decide +kernel
theorem di_6_77 : decode bi_6 77 = .ok (.aload_n 0, 1) := by decide +kernel
theorem di_6_78 : decode bi_6 78 = .ok (.sipush 256, 3) := by decide +kernel
theorem di_6_81 : decode bi_6 81 = .ok (.newarray .long, 2) := by decide +kernel
theorem di_6_83 : decode bi_6 83 = .ok (.putfield 38, 3) := by decide +kernel
theorem di_6_86 : decode bi_6 86 = .ok (.aload_n 0, 1) := by decide +kernel
theorem di_6_87 : decode bi_6 87 = .ok (.sipush 256, 3) := by decide +kernel
theorem di_6_90 : decode bi_6 90 = .ok (.newarray .long, 2) := by decide +kernel
theorem di_6_92 : decode bi_6 92 = .ok (.putfield 42, 3) := by decide +kernel
theorem di_6_95 : decode bi_6 95 = .ok (.aload_n 0, 1) := by decide +kernel
theorem di_6_96 : decode bi_6 96 = .ok (.bipush 96, 2) := by decide +kernel
theorem di_6_98 : decode bi_6 98 = .ok (.newarray .long, 2) := by decide +kernel
theorem di_6_100 : decode bi_6 100 = .ok (.putfield 45, 3) := by decide +kernel
theorem di_6_103 : decode bi_6 103 = .ok (.aload_n 0, 1) := by decide +kernel
theorem di_6_104 : decode bi_6 104 = .ok (.sipush 256, 3) := by decide +kernel
theorem di_6_107 : decode bi_6 107 = .ok (.newarray .long, 2) := by decide +kernel
theorem di_6_109 : decode bi_6 109 = .ok (.putfield 48, 3) := by decide +kernel
theorem di_6_112 : decode bi_6 112 = .ok (.aload_n 0, 1) := by decide +kernel
theorem di_6_113 : decode bi_6 113 = .ok (.bipush 96, 2) := by decide +kernel
theorem di_6_115 : decode bi_6 115 = .ok (.newarray .long, 2) := by decide +kernel
theorem di_6_117 : decode bi_6 117 = .ok (.putfield 51, 3) := by decide +kernel
theorem di_6_120 : decode bi_6 120 = .ok (.aload_n 0, 1) := by decide +kernel
theorem di_6_121 : decode bi_6 121 = .ok (.sipush 256, 3) := by decide +kernel
theorem di_6_124 : decode bi_6 124 = .ok (.newarray .long, 2) := by decide +kernel
theorem di_6_126 : decode bi_6 126 = .ok (.putfield 54, 3) := by decide +kernel
theorem di_6_129 : decode bi_6 129 = .ok (.aload_n 0, 1) := by decide +kernel
theorem di_6_130 : decode bi_6 130 = .ok (.bipush 96, 2) := by decide +kernel
theorem di_6_132 : decode bi_6 132 = .ok (.newarray .long, 2) := by decide +kernel
theorem di_6_134 : decode bi_6 134 = .ok (.putfield 57, 3) := by decide +kernel
theorem di_6_137 : decode bi_6 137 = .ok (.aload_n 0, 1) := by decide +kernel
theorem di_6_138 : decode bi_6 138 = .ok (.bipush 16, 2) := by decide +kernel
theorem di_6_140 : decode bi_6 140 = .ok (.newarray .int, 2) := by decide +kernel
theorem di_6_142 : decode bi_6 142 = .ok (.putfield 60, 3) := by decide +kernel
theorem di_6_145 : decode bi_6 145 = .ok (.aload_n 0, 1) := by decide +kernel
theorem di_6_146 : decode bi_6 146 = .ok (.iconst 0, 1) := by decide +kernel
theorem di_6_147 : decode bi_6 147 = .ok (.putfield 63, 3) := by decide +kernel
theorem di_6_150 : decode bi_6 150 = .ok (.return_, 1) := by decide +kernel
theorem tk_obj3 : Cond.instanceMethod objectInit ∈ tk_TB ∧ Cond.code objectInit ⟨#[0xb1]⟩ 1 none ∈ tk_TB := ⟨(tkm 79 (by decide +kernel) rfl), (tkm 80 (by decide +kernel) rfl)⟩
theorem tk_arr3 : Cond.arrayClass .int ∈ tk_TB ∧ Cond.arrayClass .long ∈ tk_TB ∧ Cond.arrayClass .byte ∈ tk_TB := ⟨(tkm 115 (by decide +kernel) rfl), (tkm 155 (by decide +kernel) rfl), (tkm 138 (by decide +kernel) rfl)⟩
theorem tk_cd_0 : Cond.code yi_0 bi_0 1 none ∈ tk_TB := (tkm 143 (by decide +kernel) rfl)
theorem tk_ol_0 : Cond.methodLink (tk_cn 0) 3 objectInit ∈ tk_TB := (tkm 144 (by decide +kernel) rfl)
theorem tk_im_0 : Cond.instanceMethod yi_0 ∈ tk_TB := (tkm 142 (by decide +kernel) rfl)
theorem tk_ii_0 : Cond.initialized (tk_cn 0) ∈ tk_TB := (tkm 65 (by decide +kernel) rfl)
theorem tk_in2_0 : Cond.instantiable (tk_cn 0) 3 ∈ tk_TB := (tkm 140 (by decide +kernel) rfl)
theorem tk_gi_0 : GoodIn tk_TB (Cond.code yi_0 bi_0 1 none :: tk_TB) := fun w hw => by
  rcases List.mem_cons.mp hw with rfl | hw
  · exact ⟨tk_cd_0, Or.inl rfl⟩
  · exact ⟨hw, good_of_word (List.mem_filter.mp hw).2⟩
theorem tk_cd_1 : Cond.code yi_1 bi_1 1 none ∈ tk_TB := (tkm 85 (by decide +kernel) rfl)
theorem tk_ol_1 : Cond.methodLink (tk_cn 1) 3 objectInit ∈ tk_TB := (tkm 86 (by decide +kernel) rfl)
theorem tk_im_1 : Cond.instanceMethod yi_1 ∈ tk_TB := (tkm 84 (by decide +kernel) rfl)
theorem tk_ii_1 : Cond.initialized (tk_cn 1) ∈ tk_TB := (tkm 63 (by decide +kernel) rfl)
theorem tk_in2_1 : Cond.instantiable (tk_cn 1) 9 ∈ tk_TB := (tkm 82 (by decide +kernel) rfl)
theorem tk_gi_1 : GoodIn tk_TB (Cond.code yi_1 bi_1 1 none :: tk_TB) := fun w hw => by
  rcases List.mem_cons.mp hw with rfl | hw
  · exact ⟨tk_cd_1, Or.inl rfl⟩
  · exact ⟨hw, good_of_word (List.mem_filter.mp hw).2⟩
theorem tk_cd_2 : Cond.code yi_2 bi_2 1 none ∈ tk_TB := (tkm 194 (by decide +kernel) rfl)
theorem tk_ol_2 : Cond.methodLink (tk_cn 2) 3 objectInit ∈ tk_TB := (tkm 195 (by decide +kernel) rfl)
theorem tk_im_2 : Cond.instanceMethod yi_2 ∈ tk_TB := (tkm 193 (by decide +kernel) rfl)
theorem tk_ii_2 : Cond.initialized (tk_cn 2) ∈ tk_TB := (tkm 67 (by decide +kernel) rfl)
theorem tk_in2_2 : Cond.instantiable (tk_cn 2) 4 ∈ tk_TB := (tkm 191 (by decide +kernel) rfl)
theorem tk_gi_2 : GoodIn tk_TB (Cond.code yi_2 bi_2 1 none :: tk_TB) := fun w hw => by
  rcases List.mem_cons.mp hw with rfl | hw
  · exact ⟨tk_cd_2, Or.inl rfl⟩
  · exact ⟨hw, good_of_word (List.mem_filter.mp hw).2⟩
theorem tk_cd_3 : Cond.code yi_3 bi_3 1 none ∈ tk_TB := (tkm 120 (by decide +kernel) rfl)
theorem tk_ol_3 : Cond.methodLink (tk_cn 3) 3 objectInit ∈ tk_TB := (tkm 121 (by decide +kernel) rfl)
theorem tk_im_3 : Cond.instanceMethod yi_3 ∈ tk_TB := (tkm 119 (by decide +kernel) rfl)
theorem tk_ii_3 : Cond.initialized (tk_cn 3) ∈ tk_TB := (tkm 64 (by decide +kernel) rfl)
theorem tk_in2_3 : Cond.instantiable (tk_cn 3) 5 ∈ tk_TB := (tkm 117 (by decide +kernel) rfl)
theorem tk_gi_3 : GoodIn tk_TB (Cond.code yi_3 bi_3 1 none :: tk_TB) := fun w hw => by
  rcases List.mem_cons.mp hw with rfl | hw
  · exact ⟨tk_cd_3, Or.inl rfl⟩
  · exact ⟨hw, good_of_word (List.mem_filter.mp hw).2⟩
theorem tk_cd_4 : Cond.code yi_4 bi_4 1 none ∈ tk_TB := (tkm 160 (by decide +kernel) rfl)
theorem tk_ol_4 : Cond.methodLink (tk_cn 4) 3 objectInit ∈ tk_TB := (tkm 161 (by decide +kernel) rfl)
theorem tk_im_4 : Cond.instanceMethod yi_4 ∈ tk_TB := (tkm 159 (by decide +kernel) rfl)
theorem tk_ii_4 : Cond.initialized (tk_cn 4) ∈ tk_TB := (tkm 66 (by decide +kernel) rfl)
theorem tk_in2_4 : Cond.instantiable (tk_cn 4) 9 ∈ tk_TB := (tkm 157 (by decide +kernel) rfl)
theorem tk_gi_4 : GoodIn tk_TB (Cond.code yi_4 bi_4 1 none :: tk_TB) := fun w hw => by
  rcases List.mem_cons.mp hw with rfl | hw
  · exact ⟨tk_cd_4, Or.inl rfl⟩
  · exact ⟨hw, good_of_word (List.mem_filter.mp hw).2⟩
theorem tk_cd_5 : Cond.code yi_5 bi_5 1 none ∈ tk_TB := (tkm 77 (by decide +kernel) rfl)
theorem tk_ol_5 : Cond.methodLink (tk_cn 5) 1 objectInit ∈ tk_TB := (tkm 78 (by decide +kernel) rfl)
theorem tk_im_5 : Cond.instanceMethod yi_5 ∈ tk_TB := (tkm 76 (by decide +kernel) rfl)
theorem tk_ii_5 : Cond.initialized (tk_cn 5) ∈ tk_TB := (tkm 62 (by decide +kernel) rfl)
theorem tk_in2_5 : Cond.instantiable (tk_cn 5) 6 ∈ tk_TB := (tkm 74 (by decide +kernel) rfl)
theorem tk_gi_5 : GoodIn tk_TB (Cond.code yi_5 bi_5 1 none :: tk_TB) := fun w hw => by
  rcases List.mem_cons.mp hw with rfl | hw
  · exact ⟨tk_cd_5, Or.inl rfl⟩
  · exact ⟨hw, good_of_word (List.mem_filter.mp hw).2⟩
theorem tk_cd_6 : Cond.code yi_6 bi_6 1 none ∈ tk_TB := (tkm 792 (by decide +kernel) rfl)
theorem tk_ol_6 : Cond.methodLink (tk_cn 6) 1 objectInit ∈ tk_TB := (tkm 793 (by decide +kernel) rfl)
theorem tk_im_6 : Cond.instanceMethod yi_6 ∈ tk_TB := (tkm 791 (by decide +kernel) rfl)
theorem tk_ii_6 : Cond.initialized (tk_cn 6) ∈ tk_TB := (tkm 68 (by decide +kernel) rfl)
theorem tk_in2_6 : Cond.instantiable (tk_cn 6) 35 ∈ tk_TB := (tkm 789 (by decide +kernel) rfl)
theorem tk_gi_6 : GoodIn tk_TB (Cond.code yi_6 bi_6 1 none :: tk_TB) := fun w hw => by
  rcases List.mem_cons.mp hw with rfl | hw
  · exact ⟨tk_cd_6, Or.inl rfl⟩
  · exact ⟨hw, good_of_word (List.mem_filter.mp hw).2⟩
theorem tk_same {D : va_G} {cA : Nat → ClassId} {cB : ClassId} {ty : FieldType} {s : State} {k : Nat} (hK : va_K D tk_cls (tk_tyl cA ++ [(cB, ty)]) s) (hk : (tk_tyl cA ++ [(cB, ty)])[k]? = some (cA k, ty)) (ht : ty = .int ∨ ty = .long ∨ ty = .byte) : cB = cA k := by
  have h1 := (hK.2 3 (cB, ty) rfl).2
  have h2 := (hK.2 k (cA k, ty) hk).2
  rcases ht with rfl | rfl | rfl
  · exact Option.some.inj (h1.symm.trans h2)
  · exact Option.some.inj (h1.symm.trans h2)
  · exact Option.some.inj (h1.symm.trans h2)
set_option maxHeartbeats 4000000 in
set_option maxRecDepth 100000 in
theorem ci_0 (l : Launch) (D : va_G) (cA : Nat → ClassId) (h0 sz : Nat) : Met l yi_0 (Cond.code yi_0 bi_0 1 none :: tk_TB) ({ frames := 1, cells := 1, slots := 256, locals := 12 }) (va_Pc [.ref h0] (fun U => U.heap.size = sz ∧ va_P D tk_cls [(h0, .inr (0, [.null, .int 0, .int 0]))] U.heap ∧ va_K D tk_cls (tk_tyl cA) U ∧ va_D (fun _ => True) [(h0, .inr (0, [.null, .int 0, .int 0]))])) (va_Qv (fun _ : List Nat => True) (fun u t => va_P D tk_cls [(h0, .inr (0, [.ref (u.getD 0 0), .int 0, .int 0])), ((u.getD 0 0), .inl (cA 1, (256, .inr (.inl (fun _ => 0)))))] t.heap ∧ va_K D tk_cls (tk_tyl cA) t ∧ va_D (va_A [(h0, .inr (0, [.null, .int 0, .int 0]))] sz) [(h0, .inr (0, [.ref (u.getD 0 0), .int 0, .int 0])), ((u.getD 0 0), .inl (cA 1, (256, .inr (.inl (fun _ => 0)))))]) (va_A [(h0, .inr (0, [.null, .int 0, .int 0]))] sz)) 1 256 (va_A [(h0, .inr (0, [.null, .int 0, .int 0]))] sz) := by
  refine Met.ofW (cc := bi_0) (maxL := 1) (ret := none) (by decide) rfl ?_
  intro p e s m args below meth c s₁ B hml hv
  obtain ⟨rfl, hsz, hP, hK, hD0⟩ := hv
  have hx := B.exec
  have hb := B.bytes
  have hr := B.returns
  have hts0 := atoms_spec (ws := Cond.code yi_0 bi_0 1 none :: tk_TB) B.pre
  have hts : ∀ w ∈ tk_TB, w.before #[Value.ref h0] s = true := fun w hw => hts0 w (List.mem_cons_of_mem _ hw)
  have hown : s.vm.findClass (tk_cn 0) = some m.cls := findClass_of_methodNamed B.named
  have hlocks := B.notSynchronized
  have hin : meth.name = "<init>" := (name_of_methodNamed B.named B.method).1
  subst hsz
  have hD := hD0.self (sz := s.heap.size)
  generalize hAe : va_A [(h0, .inr (0, [.null, .int 0, .int 0]))] s.heap.size = A at hD ⊢
  have hA : ∀ q : Nat, s.heap.size ≤ q → A q := fun q h => by rw [← hAe]; exact Or.inr h
  have hS : va_S A s.heap s.heap [] := va_S.rf
  have hl := lv_entry ([.ref h0]) (n := 1) (Nat.le_of_ble_eq_true rfl)
  rw [lg_entry_eq]
  generalize (lg_sl ([.ref h0]) ++ List.replicate (1 - (lg_sl ([.ref h0])).length) Slot.unset).toArray = ls at hl ⊢
  have hl : lv_has ls 1 [(0, .ref h0)] := hl
  refine lv_aload_n hx hb di_0_0 rfl (lv_at hl 0 rfl) ?_
  refine W.objInit hx hb hown (hts _ tk_ol_0) (hts _ tk_obj3.1) (hts _ tk_obj3.2) rfl (by rw [hml]; exact hl.1) rfl di_0_1 (Nat.le_of_ble_eq_true rfl) (Nat.le_of_ble_eq_true rfl) ?_
  refine W.eq (g2 := F0 m 4 ls []) rfl ?_
  refine lv_aload_n hx hb di_0_4 rfl (lv_at hl 0 rfl) ?_
  refine lv_sipush (v := 256) hx hb di_0_5 (by decide) ?_
  refine va_newa (atype := .long) (a0 := (256, .inr (.inl (fun _ => 0)))) hx hb (hts _ tk_arr3.2.1) (ty := .long) rfl hK hP hD hS hA (fun _ => rfl) (by decide) (by decide) (by decide) (Nat.le_of_ble_eq_true rfl) (Nat.le_of_ble_eq_true rfl) di_0_8 (fun q1 cB H hK hP hD hS => ?_)
  have hcB : cB = cA 1 := tk_same hK rfl (Or.inr (Or.inl rfl))
  subst hcB
  have hK := hK.sub (tys' := tk_tyl cA) [0, 1, 2] rfl
  have hP : va_P D tk_cls [(h0, .inr (0, [.null, .int 0, .int 0])), (q1, .inl (cA 1, (256, .inr (.inl (fun _ => 0)))))] H := hP
  have hD : va_D A [(h0, .inr (0, [.null, .int 0, .int 0])), (q1, .inl (cA 1, (256, .inr (.inl (fun _ => 0)))))] := hD
  refine va_putF (D := D) (ci := 0) (v := .ref q1) (ty := .array .long) (C := tk_cn 0) (T := tk_T 0) (N := 3) (ref := tk_cn 0) hx hb hts (tk_in_ws 0 (by decide)) (tk_ty 0) (tk_tyok 0 (by decide)) (tk_nm 0 (by decide)) hown hK hP hD hS 0 rfl rfl 0 (by decide) (hts _ (tk_tb (tk_fws _ (List.mem_map.mpr ⟨(0, 9, 0), by decide, rfl⟩)) rfl)) (fun _ h9 => h9) rfl hin rfl (by decide +kernel) rfl rfl (Nat.le_of_ble_eq_true rfl) di_0_10 (fun H locs hP hD hS => ?_)
  have hP : va_P D tk_cls [(h0, .inr (0, [.ref q1, .int 0, .int 0])), (q1, .inl (cA 1, (256, .inr (.inl (fun _ => 0)))))] H := hP
  have hD : va_D A [(h0, .inr (0, [.ref q1, .int 0, .int 0])), (q1, .inl (cA 1, (256, .inr (.inl (fun _ => 0)))))] := hD
  refine W.widen (k := 1) (n := 256) (Nat.le_of_ble_eq_true rfl) (Nat.le_of_ble_eq_true rfl) ?_
  exact W.vret hx hb hr (fun t ht hW => ⟨⟨[q1], rfl, trivial, by rw [ht]; exact hP, va_K.moved hW.alike hK, hD⟩, hS.F ht⟩) hS.2.2 di_0_13
set_option maxHeartbeats 4000000 in
set_option maxRecDepth 100000 in
theorem ci_1 (l : Launch) (D : va_G) (cA : Nat → ClassId) (h0 sz : Nat) : Met l yi_1 (Cond.code yi_1 bi_1 1 none :: tk_TB) ({ frames := 1, cells := 6, slots := 306, locals := 12 }) (va_Pc [.ref h0] (fun U => U.heap.size = sz ∧ va_P D tk_cls [(h0, .inr (1, [.int 0, .int 0, .int 0, .null, .null, .null, .null, .null, .null]))] U.heap ∧ va_K D tk_cls (tk_tyl cA) U ∧ va_D (fun _ => True) [(h0, .inr (1, [.int 0, .int 0, .int 0, .null, .null, .null, .null, .null, .null]))])) (va_Qv (fun _ : List Nat => True) (fun u t => va_P D tk_cls [(h0, .inr (1, [.int 0, .int 0, .int 0, .ref (u.getD 0 0), .ref (u.getD 1 0), .ref (u.getD 2 0), .ref (u.getD 3 0), .ref (u.getD 4 0), .ref (u.getD 5 0)])), ((u.getD 0 0), .inl (cA 0, (60, .inl (fun _ => 0)))), ((u.getD 1 0), .inl (cA 0, (60, .inl (fun _ => 0)))), ((u.getD 2 0), .inl (cA 0, (60, .inl (fun _ => 0)))), ((u.getD 3 0), .inl (cA 0, (60, .inl (fun _ => 0)))), ((u.getD 4 0), .inl (cA 0, (60, .inl (fun _ => 0)))), ((u.getD 5 0), .inl (cA 0, (6, .inl (fun _ => 0))))] t.heap ∧ va_K D tk_cls (tk_tyl cA) t ∧ va_D (va_A [(h0, .inr (1, [.int 0, .int 0, .int 0, .null, .null, .null, .null, .null, .null]))] sz) [(h0, .inr (1, [.int 0, .int 0, .int 0, .ref (u.getD 0 0), .ref (u.getD 1 0), .ref (u.getD 2 0), .ref (u.getD 3 0), .ref (u.getD 4 0), .ref (u.getD 5 0)])), ((u.getD 0 0), .inl (cA 0, (60, .inl (fun _ => 0)))), ((u.getD 1 0), .inl (cA 0, (60, .inl (fun _ => 0)))), ((u.getD 2 0), .inl (cA 0, (60, .inl (fun _ => 0)))), ((u.getD 3 0), .inl (cA 0, (60, .inl (fun _ => 0)))), ((u.getD 4 0), .inl (cA 0, (60, .inl (fun _ => 0)))), ((u.getD 5 0), .inl (cA 0, (6, .inl (fun _ => 0))))]) (va_A [(h0, .inr (1, [.int 0, .int 0, .int 0, .null, .null, .null, .null, .null, .null]))] sz)) 6 306 (va_A [(h0, .inr (1, [.int 0, .int 0, .int 0, .null, .null, .null, .null, .null, .null]))] sz) := by
  refine Met.ofW (cc := bi_1) (maxL := 1) (ret := none) (by decide) rfl ?_
  intro p e s m args below meth c s₁ B hml hv
  obtain ⟨rfl, hsz, hP, hK, hD0⟩ := hv
  have hx := B.exec
  have hb := B.bytes
  have hr := B.returns
  have hts0 := atoms_spec (ws := Cond.code yi_1 bi_1 1 none :: tk_TB) B.pre
  have hts : ∀ w ∈ tk_TB, w.before #[Value.ref h0] s = true := fun w hw => hts0 w (List.mem_cons_of_mem _ hw)
  have hown : s.vm.findClass (tk_cn 1) = some m.cls := findClass_of_methodNamed B.named
  have hlocks := B.notSynchronized
  have hin : meth.name = "<init>" := (name_of_methodNamed B.named B.method).1
  subst hsz
  have hD := hD0.self (sz := s.heap.size)
  generalize hAe : va_A [(h0, .inr (1, [.int 0, .int 0, .int 0, .null, .null, .null, .null, .null, .null]))] s.heap.size = A at hD ⊢
  have hA : ∀ q : Nat, s.heap.size ≤ q → A q := fun q h => by rw [← hAe]; exact Or.inr h
  have hS : va_S A s.heap s.heap [] := va_S.rf
  have hl := lv_entry ([.ref h0]) (n := 1) (Nat.le_of_ble_eq_true rfl)
  rw [lg_entry_eq]
  generalize (lg_sl ([.ref h0]) ++ List.replicate (1 - (lg_sl ([.ref h0])).length) Slot.unset).toArray = ls at hl ⊢
  have hl : lv_has ls 1 [(0, .ref h0)] := hl
  refine lv_aload_n hx hb di_1_0 rfl (lv_at hl 0 rfl) ?_
  refine W.objInit hx hb hown (hts _ tk_ol_1) (hts _ tk_obj3.1) (hts _ tk_obj3.2) rfl (by rw [hml]; exact hl.1) rfl di_1_1 (Nat.le_of_ble_eq_true rfl) (Nat.le_of_ble_eq_true rfl) ?_
  refine W.eq (g2 := F0 m 4 ls []) rfl ?_
  refine lv_aload_n hx hb di_1_4 rfl (lv_at hl 0 rfl) ?_
  refine lv_bipush (v := 60) hx hb di_1_5 (by decide) ?_
  refine va_newa (atype := .int) (a0 := (60, .inl (fun _ => 0))) hx hb (hts _ tk_arr3.1) (ty := .int) rfl hK hP hD hS hA (fun _ => rfl) (by decide) (by decide) (by decide) (Nat.le_of_ble_eq_true rfl) (Nat.le_of_ble_eq_true rfl) di_1_7 (fun q1 cB H hK hP hD hS => ?_)
  have hcB : cB = cA 0 := tk_same hK rfl (Or.inl rfl)
  subst hcB
  have hK := hK.sub (tys' := tk_tyl cA) [0, 1, 2] rfl
  have hP : va_P D tk_cls [(h0, .inr (1, [.int 0, .int 0, .int 0, .null, .null, .null, .null, .null, .null])), (q1, .inl (cA 0, (60, .inl (fun _ => 0))))] H := hP
  have hD : va_D A [(h0, .inr (1, [.int 0, .int 0, .int 0, .null, .null, .null, .null, .null, .null])), (q1, .inl (cA 0, (60, .inl (fun _ => 0))))] := hD
  refine va_putF (D := D) (ci := 1) (v := .ref q1) (ty := .array .int) (C := tk_cn 1) (T := tk_T 1) (N := 9) (ref := tk_cn 1) hx hb hts (tk_in_ws 1 (by decide)) (tk_ty 1) (tk_tyok 1 (by decide)) (tk_nm 1 (by decide)) hown hK hP hD hS 0 rfl rfl 3 (by decide) (hts _ (tk_tb (tk_fws _ (List.mem_map.mpr ⟨(1, 9, 3), by decide, rfl⟩)) rfl)) (fun _ h9 => h9) rfl hin rfl (by decide +kernel) rfl rfl (Nat.le_of_ble_eq_true rfl) di_1_9 (fun H locs hP hD hS => ?_)
  have hP : va_P D tk_cls [(h0, .inr (1, [.int 0, .int 0, .int 0, .ref q1, .null, .null, .null, .null, .null])), (q1, .inl (cA 0, (60, .inl (fun _ => 0))))] H := hP
  have hD : va_D A [(h0, .inr (1, [.int 0, .int 0, .int 0, .ref q1, .null, .null, .null, .null, .null])), (q1, .inl (cA 0, (60, .inl (fun _ => 0))))] := hD
  refine lv_aload_n hx hb di_1_12 rfl (lv_at hl 0 rfl) ?_
  refine lv_bipush (v := 60) hx hb di_1_13 (by decide) ?_
  refine va_newa (atype := .int) (a0 := (60, .inl (fun _ => 0))) hx hb (hts _ tk_arr3.1) (ty := .int) rfl hK hP hD hS hA (fun _ => rfl) (by decide) (by decide) (by decide) (Nat.le_of_ble_eq_true rfl) (Nat.le_of_ble_eq_true rfl) di_1_15 (fun q2 cB H hK hP hD hS => ?_)
  have hcB : cB = cA 0 := tk_same hK rfl (Or.inl rfl)
  subst hcB
  have hK := hK.sub (tys' := tk_tyl cA) [0, 1, 2] rfl
  have hP : va_P D tk_cls [(h0, .inr (1, [.int 0, .int 0, .int 0, .ref q1, .null, .null, .null, .null, .null])), (q1, .inl (cA 0, (60, .inl (fun _ => 0)))), (q2, .inl (cA 0, (60, .inl (fun _ => 0))))] H := hP
  have hD : va_D A [(h0, .inr (1, [.int 0, .int 0, .int 0, .ref q1, .null, .null, .null, .null, .null])), (q1, .inl (cA 0, (60, .inl (fun _ => 0)))), (q2, .inl (cA 0, (60, .inl (fun _ => 0))))] := hD
  refine va_putF (D := D) (ci := 1) (v := .ref q2) (ty := .array .int) (C := tk_cn 1) (T := tk_T 1) (N := 9) (ref := tk_cn 1) hx hb hts (tk_in_ws 1 (by decide)) (tk_ty 1) (tk_tyok 1 (by decide)) (tk_nm 1 (by decide)) hown hK hP hD hS 0 rfl rfl 4 (by decide) (hts _ (tk_tb (tk_fws _ (List.mem_map.mpr ⟨(1, 15, 4), by decide, rfl⟩)) rfl)) (fun _ h9 => h9) rfl hin rfl (by decide +kernel) rfl rfl (Nat.le_of_ble_eq_true rfl) di_1_17 (fun H locs hP hD hS => ?_)
  have hP : va_P D tk_cls [(h0, .inr (1, [.int 0, .int 0, .int 0, .ref q1, .ref q2, .null, .null, .null, .null])), (q1, .inl (cA 0, (60, .inl (fun _ => 0)))), (q2, .inl (cA 0, (60, .inl (fun _ => 0))))] H := hP
  have hD : va_D A [(h0, .inr (1, [.int 0, .int 0, .int 0, .ref q1, .ref q2, .null, .null, .null, .null])), (q1, .inl (cA 0, (60, .inl (fun _ => 0)))), (q2, .inl (cA 0, (60, .inl (fun _ => 0))))] := hD
  refine lv_aload_n hx hb di_1_20 rfl (lv_at hl 0 rfl) ?_
  refine lv_bipush (v := 60) hx hb di_1_21 (by decide) ?_
  refine va_newa (atype := .int) (a0 := (60, .inl (fun _ => 0))) hx hb (hts _ tk_arr3.1) (ty := .int) rfl hK hP hD hS hA (fun _ => rfl) (by decide) (by decide) (by decide) (Nat.le_of_ble_eq_true rfl) (Nat.le_of_ble_eq_true rfl) di_1_23 (fun q3 cB H hK hP hD hS => ?_)
  have hcB : cB = cA 0 := tk_same hK rfl (Or.inl rfl)
  subst hcB
  have hK := hK.sub (tys' := tk_tyl cA) [0, 1, 2] rfl
  have hP : va_P D tk_cls [(h0, .inr (1, [.int 0, .int 0, .int 0, .ref q1, .ref q2, .null, .null, .null, .null])), (q1, .inl (cA 0, (60, .inl (fun _ => 0)))), (q2, .inl (cA 0, (60, .inl (fun _ => 0)))), (q3, .inl (cA 0, (60, .inl (fun _ => 0))))] H := hP
  have hD : va_D A [(h0, .inr (1, [.int 0, .int 0, .int 0, .ref q1, .ref q2, .null, .null, .null, .null])), (q1, .inl (cA 0, (60, .inl (fun _ => 0)))), (q2, .inl (cA 0, (60, .inl (fun _ => 0)))), (q3, .inl (cA 0, (60, .inl (fun _ => 0))))] := hD
  refine va_putF (D := D) (ci := 1) (v := .ref q3) (ty := .array .int) (C := tk_cn 1) (T := tk_T 1) (N := 9) (ref := tk_cn 1) hx hb hts (tk_in_ws 1 (by decide)) (tk_ty 1) (tk_tyok 1 (by decide)) (tk_nm 1 (by decide)) hown hK hP hD hS 0 rfl rfl 5 (by decide) (hts _ (tk_tb (tk_fws _ (List.mem_map.mpr ⟨(1, 18, 5), by decide, rfl⟩)) rfl)) (fun _ h9 => h9) rfl hin rfl (by decide +kernel) rfl rfl (Nat.le_of_ble_eq_true rfl) di_1_25 (fun H locs hP hD hS => ?_)
  have hP : va_P D tk_cls [(h0, .inr (1, [.int 0, .int 0, .int 0, .ref q1, .ref q2, .ref q3, .null, .null, .null])), (q1, .inl (cA 0, (60, .inl (fun _ => 0)))), (q2, .inl (cA 0, (60, .inl (fun _ => 0)))), (q3, .inl (cA 0, (60, .inl (fun _ => 0))))] H := hP
  have hD : va_D A [(h0, .inr (1, [.int 0, .int 0, .int 0, .ref q1, .ref q2, .ref q3, .null, .null, .null])), (q1, .inl (cA 0, (60, .inl (fun _ => 0)))), (q2, .inl (cA 0, (60, .inl (fun _ => 0)))), (q3, .inl (cA 0, (60, .inl (fun _ => 0))))] := hD
  refine lv_aload_n hx hb di_1_28 rfl (lv_at hl 0 rfl) ?_
  refine lv_bipush (v := 60) hx hb di_1_29 (by decide) ?_
  refine va_newa (atype := .int) (a0 := (60, .inl (fun _ => 0))) hx hb (hts _ tk_arr3.1) (ty := .int) rfl hK hP hD hS hA (fun _ => rfl) (by decide) (by decide) (by decide) (Nat.le_of_ble_eq_true rfl) (Nat.le_of_ble_eq_true rfl) di_1_31 (fun q4 cB H hK hP hD hS => ?_)
  have hcB : cB = cA 0 := tk_same hK rfl (Or.inl rfl)
  subst hcB
  have hK := hK.sub (tys' := tk_tyl cA) [0, 1, 2] rfl
  have hP : va_P D tk_cls [(h0, .inr (1, [.int 0, .int 0, .int 0, .ref q1, .ref q2, .ref q3, .null, .null, .null])), (q1, .inl (cA 0, (60, .inl (fun _ => 0)))), (q2, .inl (cA 0, (60, .inl (fun _ => 0)))), (q3, .inl (cA 0, (60, .inl (fun _ => 0)))), (q4, .inl (cA 0, (60, .inl (fun _ => 0))))] H := hP
  have hD : va_D A [(h0, .inr (1, [.int 0, .int 0, .int 0, .ref q1, .ref q2, .ref q3, .null, .null, .null])), (q1, .inl (cA 0, (60, .inl (fun _ => 0)))), (q2, .inl (cA 0, (60, .inl (fun _ => 0)))), (q3, .inl (cA 0, (60, .inl (fun _ => 0)))), (q4, .inl (cA 0, (60, .inl (fun _ => 0))))] := hD
  refine va_putF (D := D) (ci := 1) (v := .ref q4) (ty := .array .int) (C := tk_cn 1) (T := tk_T 1) (N := 9) (ref := tk_cn 1) hx hb hts (tk_in_ws 1 (by decide)) (tk_ty 1) (tk_tyok 1 (by decide)) (tk_nm 1 (by decide)) hown hK hP hD hS 0 rfl rfl 6 (by decide) (hts _ (tk_tb (tk_fws _ (List.mem_map.mpr ⟨(1, 21, 6), by decide, rfl⟩)) rfl)) (fun _ h9 => h9) rfl hin rfl (by decide +kernel) rfl rfl (Nat.le_of_ble_eq_true rfl) di_1_33 (fun H locs hP hD hS => ?_)
  have hP : va_P D tk_cls [(h0, .inr (1, [.int 0, .int 0, .int 0, .ref q1, .ref q2, .ref q3, .ref q4, .null, .null])), (q1, .inl (cA 0, (60, .inl (fun _ => 0)))), (q2, .inl (cA 0, (60, .inl (fun _ => 0)))), (q3, .inl (cA 0, (60, .inl (fun _ => 0)))), (q4, .inl (cA 0, (60, .inl (fun _ => 0))))] H := hP
  have hD : va_D A [(h0, .inr (1, [.int 0, .int 0, .int 0, .ref q1, .ref q2, .ref q3, .ref q4, .null, .null])), (q1, .inl (cA 0, (60, .inl (fun _ => 0)))), (q2, .inl (cA 0, (60, .inl (fun _ => 0)))), (q3, .inl (cA 0, (60, .inl (fun _ => 0)))), (q4, .inl (cA 0, (60, .inl (fun _ => 0))))] := hD
  refine lv_aload_n hx hb di_1_36 rfl (lv_at hl 0 rfl) ?_
  refine lv_bipush (v := 60) hx hb di_1_37 (by decide) ?_
  refine va_newa (atype := .int) (a0 := (60, .inl (fun _ => 0))) hx hb (hts _ tk_arr3.1) (ty := .int) rfl hK hP hD hS hA (fun _ => rfl) (by decide) (by decide) (by decide) (Nat.le_of_ble_eq_true rfl) (Nat.le_of_ble_eq_true rfl) di_1_39 (fun q5 cB H hK hP hD hS => ?_)
  have hcB : cB = cA 0 := tk_same hK rfl (Or.inl rfl)
  subst hcB
  have hK := hK.sub (tys' := tk_tyl cA) [0, 1, 2] rfl
  have hP : va_P D tk_cls [(h0, .inr (1, [.int 0, .int 0, .int 0, .ref q1, .ref q2, .ref q3, .ref q4, .null, .null])), (q1, .inl (cA 0, (60, .inl (fun _ => 0)))), (q2, .inl (cA 0, (60, .inl (fun _ => 0)))), (q3, .inl (cA 0, (60, .inl (fun _ => 0)))), (q4, .inl (cA 0, (60, .inl (fun _ => 0)))), (q5, .inl (cA 0, (60, .inl (fun _ => 0))))] H := hP
  have hD : va_D A [(h0, .inr (1, [.int 0, .int 0, .int 0, .ref q1, .ref q2, .ref q3, .ref q4, .null, .null])), (q1, .inl (cA 0, (60, .inl (fun _ => 0)))), (q2, .inl (cA 0, (60, .inl (fun _ => 0)))), (q3, .inl (cA 0, (60, .inl (fun _ => 0)))), (q4, .inl (cA 0, (60, .inl (fun _ => 0)))), (q5, .inl (cA 0, (60, .inl (fun _ => 0))))] := hD
  refine va_putF (D := D) (ci := 1) (v := .ref q5) (ty := .array .int) (C := tk_cn 1) (T := tk_T 1) (N := 9) (ref := tk_cn 1) hx hb hts (tk_in_ws 1 (by decide)) (tk_ty 1) (tk_tyok 1 (by decide)) (tk_nm 1 (by decide)) hown hK hP hD hS 0 rfl rfl 7 (by decide) (hts _ (tk_tb (tk_fws _ (List.mem_map.mpr ⟨(1, 24, 7), by decide, rfl⟩)) rfl)) (fun _ h9 => h9) rfl hin rfl (by decide +kernel) rfl rfl (Nat.le_of_ble_eq_true rfl) di_1_41 (fun H locs hP hD hS => ?_)
  have hP : va_P D tk_cls [(h0, .inr (1, [.int 0, .int 0, .int 0, .ref q1, .ref q2, .ref q3, .ref q4, .ref q5, .null])), (q1, .inl (cA 0, (60, .inl (fun _ => 0)))), (q2, .inl (cA 0, (60, .inl (fun _ => 0)))), (q3, .inl (cA 0, (60, .inl (fun _ => 0)))), (q4, .inl (cA 0, (60, .inl (fun _ => 0)))), (q5, .inl (cA 0, (60, .inl (fun _ => 0))))] H := hP
  have hD : va_D A [(h0, .inr (1, [.int 0, .int 0, .int 0, .ref q1, .ref q2, .ref q3, .ref q4, .ref q5, .null])), (q1, .inl (cA 0, (60, .inl (fun _ => 0)))), (q2, .inl (cA 0, (60, .inl (fun _ => 0)))), (q3, .inl (cA 0, (60, .inl (fun _ => 0)))), (q4, .inl (cA 0, (60, .inl (fun _ => 0)))), (q5, .inl (cA 0, (60, .inl (fun _ => 0))))] := hD
  refine lv_aload_n hx hb di_1_44 rfl (lv_at hl 0 rfl) ?_
  refine lv_bipush (v := 6) hx hb di_1_45 (by decide) ?_
  refine va_newa (atype := .int) (a0 := (6, .inl (fun _ => 0))) hx hb (hts _ tk_arr3.1) (ty := .int) rfl hK hP hD hS hA (fun _ => rfl) (by decide) (by decide) (by decide) (Nat.le_of_ble_eq_true rfl) (Nat.le_of_ble_eq_true rfl) di_1_47 (fun q6 cB H hK hP hD hS => ?_)
  have hcB : cB = cA 0 := tk_same hK rfl (Or.inl rfl)
  subst hcB
  have hK := hK.sub (tys' := tk_tyl cA) [0, 1, 2] rfl
  have hP : va_P D tk_cls [(h0, .inr (1, [.int 0, .int 0, .int 0, .ref q1, .ref q2, .ref q3, .ref q4, .ref q5, .null])), (q1, .inl (cA 0, (60, .inl (fun _ => 0)))), (q2, .inl (cA 0, (60, .inl (fun _ => 0)))), (q3, .inl (cA 0, (60, .inl (fun _ => 0)))), (q4, .inl (cA 0, (60, .inl (fun _ => 0)))), (q5, .inl (cA 0, (60, .inl (fun _ => 0)))), (q6, .inl (cA 0, (6, .inl (fun _ => 0))))] H := hP
  have hD : va_D A [(h0, .inr (1, [.int 0, .int 0, .int 0, .ref q1, .ref q2, .ref q3, .ref q4, .ref q5, .null])), (q1, .inl (cA 0, (60, .inl (fun _ => 0)))), (q2, .inl (cA 0, (60, .inl (fun _ => 0)))), (q3, .inl (cA 0, (60, .inl (fun _ => 0)))), (q4, .inl (cA 0, (60, .inl (fun _ => 0)))), (q5, .inl (cA 0, (60, .inl (fun _ => 0)))), (q6, .inl (cA 0, (6, .inl (fun _ => 0))))] := hD
  refine va_putF (D := D) (ci := 1) (v := .ref q6) (ty := .array .int) (C := tk_cn 1) (T := tk_T 1) (N := 9) (ref := tk_cn 1) hx hb hts (tk_in_ws 1 (by decide)) (tk_ty 1) (tk_tyok 1 (by decide)) (tk_nm 1 (by decide)) hown hK hP hD hS 0 rfl rfl 8 (by decide) (hts _ (tk_tb (tk_fws _ (List.mem_map.mpr ⟨(1, 27, 8), by decide, rfl⟩)) rfl)) (fun _ h9 => h9) rfl hin rfl (by decide +kernel) rfl rfl (Nat.le_of_ble_eq_true rfl) di_1_49 (fun H locs hP hD hS => ?_)
  have hP : va_P D tk_cls [(h0, .inr (1, [.int 0, .int 0, .int 0, .ref q1, .ref q2, .ref q3, .ref q4, .ref q5, .ref q6])), (q1, .inl (cA 0, (60, .inl (fun _ => 0)))), (q2, .inl (cA 0, (60, .inl (fun _ => 0)))), (q3, .inl (cA 0, (60, .inl (fun _ => 0)))), (q4, .inl (cA 0, (60, .inl (fun _ => 0)))), (q5, .inl (cA 0, (60, .inl (fun _ => 0)))), (q6, .inl (cA 0, (6, .inl (fun _ => 0))))] H := hP
  have hD : va_D A [(h0, .inr (1, [.int 0, .int 0, .int 0, .ref q1, .ref q2, .ref q3, .ref q4, .ref q5, .ref q6])), (q1, .inl (cA 0, (60, .inl (fun _ => 0)))), (q2, .inl (cA 0, (60, .inl (fun _ => 0)))), (q3, .inl (cA 0, (60, .inl (fun _ => 0)))), (q4, .inl (cA 0, (60, .inl (fun _ => 0)))), (q5, .inl (cA 0, (60, .inl (fun _ => 0)))), (q6, .inl (cA 0, (6, .inl (fun _ => 0))))] := hD
  refine W.widen (k := 6) (n := 306) (Nat.le_of_ble_eq_true rfl) (Nat.le_of_ble_eq_true rfl) ?_
  exact W.vret hx hb hr (fun t ht hW => ⟨⟨[q1, q2, q3, q4, q5, q6], rfl, trivial, by rw [ht]; exact hP, va_K.moved hW.alike hK, hD⟩, hS.F ht⟩) hS.2.2 di_1_52
set_option maxHeartbeats 4000000 in
set_option maxRecDepth 100000 in
theorem ci_2 (l : Launch) (D : va_G) (cA : Nat → ClassId) (h0 sz : Nat) : Met l yi_2 (Cond.code yi_2 bi_2 1 none :: tk_TB) ({ frames := 1, cells := 1, slots := 16, locals := 12 }) (va_Pc [.ref h0] (fun U => U.heap.size = sz ∧ va_P D tk_cls [(h0, .inr (2, [.null, .int 0, .int 0, .int 0]))] U.heap ∧ va_K D tk_cls (tk_tyl cA) U ∧ va_D (fun _ => True) [(h0, .inr (2, [.null, .int 0, .int 0, .int 0]))])) (va_Qv (fun _ : List Nat => True) (fun u t => va_P D tk_cls [(h0, .inr (2, [.ref (u.getD 0 0), .int 0, .int 0, .int 0])), ((u.getD 0 0), .inl (cA 0, (16, .inl (fun _ => 0))))] t.heap ∧ va_K D tk_cls (tk_tyl cA) t ∧ va_D (va_A [(h0, .inr (2, [.null, .int 0, .int 0, .int 0]))] sz) [(h0, .inr (2, [.ref (u.getD 0 0), .int 0, .int 0, .int 0])), ((u.getD 0 0), .inl (cA 0, (16, .inl (fun _ => 0))))]) (va_A [(h0, .inr (2, [.null, .int 0, .int 0, .int 0]))] sz)) 1 16 (va_A [(h0, .inr (2, [.null, .int 0, .int 0, .int 0]))] sz) := by
  refine Met.ofW (cc := bi_2) (maxL := 1) (ret := none) (by decide) rfl ?_
  intro p e s m args below meth c s₁ B hml hv
  obtain ⟨rfl, hsz, hP, hK, hD0⟩ := hv
  have hx := B.exec
  have hb := B.bytes
  have hr := B.returns
  have hts0 := atoms_spec (ws := Cond.code yi_2 bi_2 1 none :: tk_TB) B.pre
  have hts : ∀ w ∈ tk_TB, w.before #[Value.ref h0] s = true := fun w hw => hts0 w (List.mem_cons_of_mem _ hw)
  have hown : s.vm.findClass (tk_cn 2) = some m.cls := findClass_of_methodNamed B.named
  have hlocks := B.notSynchronized
  have hin : meth.name = "<init>" := (name_of_methodNamed B.named B.method).1
  subst hsz
  have hD := hD0.self (sz := s.heap.size)
  generalize hAe : va_A [(h0, .inr (2, [.null, .int 0, .int 0, .int 0]))] s.heap.size = A at hD ⊢
  have hA : ∀ q : Nat, s.heap.size ≤ q → A q := fun q h => by rw [← hAe]; exact Or.inr h
  have hS : va_S A s.heap s.heap [] := va_S.rf
  have hl := lv_entry ([.ref h0]) (n := 1) (Nat.le_of_ble_eq_true rfl)
  rw [lg_entry_eq]
  generalize (lg_sl ([.ref h0]) ++ List.replicate (1 - (lg_sl ([.ref h0])).length) Slot.unset).toArray = ls at hl ⊢
  have hl : lv_has ls 1 [(0, .ref h0)] := hl
  refine lv_aload_n hx hb di_2_0 rfl (lv_at hl 0 rfl) ?_
  refine W.objInit hx hb hown (hts _ tk_ol_2) (hts _ tk_obj3.1) (hts _ tk_obj3.2) rfl (by rw [hml]; exact hl.1) rfl di_2_1 (Nat.le_of_ble_eq_true rfl) (Nat.le_of_ble_eq_true rfl) ?_
  refine W.eq (g2 := F0 m 4 ls []) rfl ?_
  refine lv_aload_n hx hb di_2_4 rfl (lv_at hl 0 rfl) ?_
  refine lv_bipush (v := 16) hx hb di_2_5 (by decide) ?_
  refine va_newa (atype := .int) (a0 := (16, .inl (fun _ => 0))) hx hb (hts _ tk_arr3.1) (ty := .int) rfl hK hP hD hS hA (fun _ => rfl) (by decide) (by decide) (by decide) (Nat.le_of_ble_eq_true rfl) (Nat.le_of_ble_eq_true rfl) di_2_7 (fun q1 cB H hK hP hD hS => ?_)
  have hcB : cB = cA 0 := tk_same hK rfl (Or.inl rfl)
  subst hcB
  have hK := hK.sub (tys' := tk_tyl cA) [0, 1, 2] rfl
  have hP : va_P D tk_cls [(h0, .inr (2, [.null, .int 0, .int 0, .int 0])), (q1, .inl (cA 0, (16, .inl (fun _ => 0))))] H := hP
  have hD : va_D A [(h0, .inr (2, [.null, .int 0, .int 0, .int 0])), (q1, .inl (cA 0, (16, .inl (fun _ => 0))))] := hD
  refine va_putF (D := D) (ci := 2) (v := .ref q1) (ty := .array .int) (C := tk_cn 2) (T := tk_T 2) (N := 4) (ref := tk_cn 2) hx hb hts (tk_in_ws 2 (by decide)) (tk_ty 2) (tk_tyok 2 (by decide)) (tk_nm 2 (by decide)) hown hK hP hD hS 0 rfl rfl 0 (by decide) (hts _ (tk_tb (tk_fws _ (List.mem_map.mpr ⟨(2, 9, 0), by decide, rfl⟩)) rfl)) (fun _ h9 => h9) rfl hin rfl (by decide +kernel) rfl rfl (Nat.le_of_ble_eq_true rfl) di_2_9 (fun H locs hP hD hS => ?_)
  have hP : va_P D tk_cls [(h0, .inr (2, [.ref q1, .int 0, .int 0, .int 0])), (q1, .inl (cA 0, (16, .inl (fun _ => 0))))] H := hP
  have hD : va_D A [(h0, .inr (2, [.ref q1, .int 0, .int 0, .int 0])), (q1, .inl (cA 0, (16, .inl (fun _ => 0))))] := hD
  refine W.widen (k := 1) (n := 16) (Nat.le_of_ble_eq_true rfl) (Nat.le_of_ble_eq_true rfl) ?_
  exact W.vret hx hb hr (fun t ht hW => ⟨⟨[q1], rfl, trivial, by rw [ht]; exact hP, va_K.moved hW.alike hK, hD⟩, hS.F ht⟩) hS.2.2 di_2_12
set_option maxHeartbeats 4000000 in
set_option maxRecDepth 100000 in
theorem ci_3 (l : Launch) (D : va_G) (cA : Nat → ClassId) (h0 sz : Nat) : Met l yi_3 (Cond.code yi_3 bi_3 1 none :: tk_TB) ({ frames := 1, cells := 2, slots := 1004, locals := 12 }) (va_Pc [.ref h0] (fun U => U.heap.size = sz ∧ va_P D tk_cls [(h0, .inr (3, [.null, .null, .int 0, .int 0, .int 0]))] U.heap ∧ va_K D tk_cls (tk_tyl cA) U ∧ va_D (fun _ => True) [(h0, .inr (3, [.null, .null, .int 0, .int 0, .int 0]))])) (va_Qv (fun _ : List Nat => True) (fun u t => va_P D tk_cls [(h0, .inr (3, [.ref (u.getD 0 0), .ref (u.getD 1 0), .int 0, .int 0, .int 0])), ((u.getD 0 0), .inl (cA 2, (1000, .inl (fun _ => 0)))), ((u.getD 1 0), .inl (cA 0, (4, .inl (fun _ => 0))))] t.heap ∧ va_K D tk_cls (tk_tyl cA) t ∧ va_D (va_A [(h0, .inr (3, [.null, .null, .int 0, .int 0, .int 0]))] sz) [(h0, .inr (3, [.ref (u.getD 0 0), .ref (u.getD 1 0), .int 0, .int 0, .int 0])), ((u.getD 0 0), .inl (cA 2, (1000, .inl (fun _ => 0)))), ((u.getD 1 0), .inl (cA 0, (4, .inl (fun _ => 0))))]) (va_A [(h0, .inr (3, [.null, .null, .int 0, .int 0, .int 0]))] sz)) 2 1004 (va_A [(h0, .inr (3, [.null, .null, .int 0, .int 0, .int 0]))] sz) := by
  refine Met.ofW (cc := bi_3) (maxL := 1) (ret := none) (by decide) rfl ?_
  intro p e s m args below meth c s₁ B hml hv
  obtain ⟨rfl, hsz, hP, hK, hD0⟩ := hv
  have hx := B.exec
  have hb := B.bytes
  have hr := B.returns
  have hts0 := atoms_spec (ws := Cond.code yi_3 bi_3 1 none :: tk_TB) B.pre
  have hts : ∀ w ∈ tk_TB, w.before #[Value.ref h0] s = true := fun w hw => hts0 w (List.mem_cons_of_mem _ hw)
  have hown : s.vm.findClass (tk_cn 3) = some m.cls := findClass_of_methodNamed B.named
  have hlocks := B.notSynchronized
  have hin : meth.name = "<init>" := (name_of_methodNamed B.named B.method).1
  subst hsz
  have hD := hD0.self (sz := s.heap.size)
  generalize hAe : va_A [(h0, .inr (3, [.null, .null, .int 0, .int 0, .int 0]))] s.heap.size = A at hD ⊢
  have hA : ∀ q : Nat, s.heap.size ≤ q → A q := fun q h => by rw [← hAe]; exact Or.inr h
  have hS : va_S A s.heap s.heap [] := va_S.rf
  have hl := lv_entry ([.ref h0]) (n := 1) (Nat.le_of_ble_eq_true rfl)
  rw [lg_entry_eq]
  generalize (lg_sl ([.ref h0]) ++ List.replicate (1 - (lg_sl ([.ref h0])).length) Slot.unset).toArray = ls at hl ⊢
  have hl : lv_has ls 1 [(0, .ref h0)] := hl
  refine lv_aload_n hx hb di_3_0 rfl (lv_at hl 0 rfl) ?_
  refine W.objInit hx hb hown (hts _ tk_ol_3) (hts _ tk_obj3.1) (hts _ tk_obj3.2) rfl (by rw [hml]; exact hl.1) rfl di_3_1 (Nat.le_of_ble_eq_true rfl) (Nat.le_of_ble_eq_true rfl) ?_
  refine W.eq (g2 := F0 m 4 ls []) rfl ?_
  refine lv_aload_n hx hb di_3_4 rfl (lv_at hl 0 rfl) ?_
  refine lv_sipush (v := 1000) hx hb di_3_5 (by decide) ?_
  refine va_newa (atype := .byte) (a0 := (1000, .inl (fun _ => 0))) hx hb (hts _ tk_arr3.2.2) (ty := .byte) rfl hK hP hD hS hA (fun _ => rfl) (by decide) (by decide) (by decide) (Nat.le_of_ble_eq_true rfl) (Nat.le_of_ble_eq_true rfl) di_3_8 (fun q1 cB H hK hP hD hS => ?_)
  have hcB : cB = cA 2 := tk_same hK rfl (Or.inr (Or.inr rfl))
  subst hcB
  have hK := hK.sub (tys' := tk_tyl cA) [0, 1, 2] rfl
  have hP : va_P D tk_cls [(h0, .inr (3, [.null, .null, .int 0, .int 0, .int 0])), (q1, .inl (cA 2, (1000, .inl (fun _ => 0))))] H := hP
  have hD : va_D A [(h0, .inr (3, [.null, .null, .int 0, .int 0, .int 0])), (q1, .inl (cA 2, (1000, .inl (fun _ => 0))))] := hD
  refine va_putF (D := D) (ci := 3) (v := .ref q1) (ty := .array .byte) (C := tk_cn 3) (T := tk_T 3) (N := 5) (ref := tk_cn 3) hx hb hts (tk_in_ws 3 (by decide)) (tk_ty 3) (tk_tyok 3 (by decide)) (tk_nm 3 (by decide)) hown hK hP hD hS 0 rfl rfl 0 (by decide) (hts _ (tk_tb (tk_fws _ (List.mem_map.mpr ⟨(3, 9, 0), by decide, rfl⟩)) rfl)) (fun _ h9 => h9) rfl hin rfl (by decide +kernel) rfl rfl (Nat.le_of_ble_eq_true rfl) di_3_10 (fun H locs hP hD hS => ?_)
  have hP : va_P D tk_cls [(h0, .inr (3, [.ref q1, .null, .int 0, .int 0, .int 0])), (q1, .inl (cA 2, (1000, .inl (fun _ => 0))))] H := hP
  have hD : va_D A [(h0, .inr (3, [.ref q1, .null, .int 0, .int 0, .int 0])), (q1, .inl (cA 2, (1000, .inl (fun _ => 0))))] := hD
  refine lv_aload_n hx hb di_3_13 rfl (lv_at hl 0 rfl) ?_
  refine lv_iconst (v := 4) hx hb di_3_14 (by decide) ?_
  refine va_newa (atype := .int) (a0 := (4, .inl (fun _ => 0))) hx hb (hts _ tk_arr3.1) (ty := .int) rfl hK hP hD hS hA (fun _ => rfl) (by decide) (by decide) (by decide) (Nat.le_of_ble_eq_true rfl) (Nat.le_of_ble_eq_true rfl) di_3_15 (fun q2 cB H hK hP hD hS => ?_)
  have hcB : cB = cA 0 := tk_same hK rfl (Or.inl rfl)
  subst hcB
  have hK := hK.sub (tys' := tk_tyl cA) [0, 1, 2] rfl
  have hP : va_P D tk_cls [(h0, .inr (3, [.ref q1, .null, .int 0, .int 0, .int 0])), (q1, .inl (cA 2, (1000, .inl (fun _ => 0)))), (q2, .inl (cA 0, (4, .inl (fun _ => 0))))] H := hP
  have hD : va_D A [(h0, .inr (3, [.ref q1, .null, .int 0, .int 0, .int 0])), (q1, .inl (cA 2, (1000, .inl (fun _ => 0)))), (q2, .inl (cA 0, (4, .inl (fun _ => 0))))] := hD
  refine va_putF (D := D) (ci := 3) (v := .ref q2) (ty := .array .int) (C := tk_cn 3) (T := tk_T 3) (N := 5) (ref := tk_cn 3) hx hb hts (tk_in_ws 3 (by decide)) (tk_ty 3) (tk_tyok 3 (by decide)) (tk_nm 3 (by decide)) hown hK hP hD hS 0 rfl rfl 1 (by decide) (hts _ (tk_tb (tk_fws _ (List.mem_map.mpr ⟨(3, 15, 1), by decide, rfl⟩)) rfl)) (fun _ h9 => h9) rfl hin rfl (by decide +kernel) rfl rfl (Nat.le_of_ble_eq_true rfl) di_3_17 (fun H locs hP hD hS => ?_)
  have hP : va_P D tk_cls [(h0, .inr (3, [.ref q1, .ref q2, .int 0, .int 0, .int 0])), (q1, .inl (cA 2, (1000, .inl (fun _ => 0)))), (q2, .inl (cA 0, (4, .inl (fun _ => 0))))] H := hP
  have hD : va_D A [(h0, .inr (3, [.ref q1, .ref q2, .int 0, .int 0, .int 0])), (q1, .inl (cA 2, (1000, .inl (fun _ => 0)))), (q2, .inl (cA 0, (4, .inl (fun _ => 0))))] := hD
  refine W.widen (k := 2) (n := 1004) (Nat.le_of_ble_eq_true rfl) (Nat.le_of_ble_eq_true rfl) ?_
  exact W.vret hx hb hr (fun t ht hW => ⟨⟨[q1, q2], rfl, trivial, by rw [ht]; exact hP, va_K.moved hW.alike hK, hD⟩, hS.F ht⟩) hS.2.2 di_3_20
set_option maxHeartbeats 4000000 in
set_option maxRecDepth 100000 in
theorem ci_4 (l : Launch) (D : va_G) (cA : Nat → ClassId) (h0 sz : Nat) : Met l yi_4 (Cond.code yi_4 bi_4 1 none :: tk_TB) ({ frames := 1, cells := 6, slots := 1056, locals := 12 }) (va_Pc [.ref h0] (fun U => U.heap.size = sz ∧ va_P D tk_cls [(h0, .inr (4, [.null, .null, .null, .null, .null, .null, .int 0, .int 0, .int 0]))] U.heap ∧ va_K D tk_cls (tk_tyl cA) U ∧ va_D (fun _ => True) [(h0, .inr (4, [.null, .null, .null, .null, .null, .null, .int 0, .int 0, .int 0]))])) (va_Qv (fun _ : List Nat => True) (fun u t => va_P D tk_cls [(h0, .inr (4, [.ref (u.getD 0 0), .ref (u.getD 1 0), .ref (u.getD 2 0), .ref (u.getD 3 0), .ref (u.getD 4 0), .ref (u.getD 5 0), .int 0, .int 0, .int 0])), ((u.getD 0 0), .inl (cA 1, (256, .inr (.inl (fun _ => 0))))), ((u.getD 1 0), .inl (cA 1, (256, .inr (.inl (fun _ => 0))))), ((u.getD 2 0), .inl (cA 1, (256, .inr (.inl (fun _ => 0))))), ((u.getD 3 0), .inl (cA 1, (96, .inr (.inl (fun _ => 0))))), ((u.getD 4 0), .inl (cA 1, (96, .inr (.inl (fun _ => 0))))), ((u.getD 5 0), .inl (cA 1, (96, .inr (.inl (fun _ => 0)))))] t.heap ∧ va_K D tk_cls (tk_tyl cA) t ∧ va_D (va_A [(h0, .inr (4, [.null, .null, .null, .null, .null, .null, .int 0, .int 0, .int 0]))] sz) [(h0, .inr (4, [.ref (u.getD 0 0), .ref (u.getD 1 0), .ref (u.getD 2 0), .ref (u.getD 3 0), .ref (u.getD 4 0), .ref (u.getD 5 0), .int 0, .int 0, .int 0])), ((u.getD 0 0), .inl (cA 1, (256, .inr (.inl (fun _ => 0))))), ((u.getD 1 0), .inl (cA 1, (256, .inr (.inl (fun _ => 0))))), ((u.getD 2 0), .inl (cA 1, (256, .inr (.inl (fun _ => 0))))), ((u.getD 3 0), .inl (cA 1, (96, .inr (.inl (fun _ => 0))))), ((u.getD 4 0), .inl (cA 1, (96, .inr (.inl (fun _ => 0))))), ((u.getD 5 0), .inl (cA 1, (96, .inr (.inl (fun _ => 0)))))]) (va_A [(h0, .inr (4, [.null, .null, .null, .null, .null, .null, .int 0, .int 0, .int 0]))] sz)) 6 1056 (va_A [(h0, .inr (4, [.null, .null, .null, .null, .null, .null, .int 0, .int 0, .int 0]))] sz) := by
  refine Met.ofW (cc := bi_4) (maxL := 1) (ret := none) (by decide) rfl ?_
  intro p e s m args below meth c s₁ B hml hv
  obtain ⟨rfl, hsz, hP, hK, hD0⟩ := hv
  have hx := B.exec
  have hb := B.bytes
  have hr := B.returns
  have hts0 := atoms_spec (ws := Cond.code yi_4 bi_4 1 none :: tk_TB) B.pre
  have hts : ∀ w ∈ tk_TB, w.before #[Value.ref h0] s = true := fun w hw => hts0 w (List.mem_cons_of_mem _ hw)
  have hown : s.vm.findClass (tk_cn 4) = some m.cls := findClass_of_methodNamed B.named
  have hlocks := B.notSynchronized
  have hin : meth.name = "<init>" := (name_of_methodNamed B.named B.method).1
  subst hsz
  have hD := hD0.self (sz := s.heap.size)
  generalize hAe : va_A [(h0, .inr (4, [.null, .null, .null, .null, .null, .null, .int 0, .int 0, .int 0]))] s.heap.size = A at hD ⊢
  have hA : ∀ q : Nat, s.heap.size ≤ q → A q := fun q h => by rw [← hAe]; exact Or.inr h
  have hS : va_S A s.heap s.heap [] := va_S.rf
  have hl := lv_entry ([.ref h0]) (n := 1) (Nat.le_of_ble_eq_true rfl)
  rw [lg_entry_eq]
  generalize (lg_sl ([.ref h0]) ++ List.replicate (1 - (lg_sl ([.ref h0])).length) Slot.unset).toArray = ls at hl ⊢
  have hl : lv_has ls 1 [(0, .ref h0)] := hl
  refine lv_aload_n hx hb di_4_0 rfl (lv_at hl 0 rfl) ?_
  refine W.objInit hx hb hown (hts _ tk_ol_4) (hts _ tk_obj3.1) (hts _ tk_obj3.2) rfl (by rw [hml]; exact hl.1) rfl di_4_1 (Nat.le_of_ble_eq_true rfl) (Nat.le_of_ble_eq_true rfl) ?_
  refine W.eq (g2 := F0 m 4 ls []) rfl ?_
  refine lv_aload_n hx hb di_4_4 rfl (lv_at hl 0 rfl) ?_
  refine lv_sipush (v := 256) hx hb di_4_5 (by decide) ?_
  refine va_newa (atype := .long) (a0 := (256, .inr (.inl (fun _ => 0)))) hx hb (hts _ tk_arr3.2.1) (ty := .long) rfl hK hP hD hS hA (fun _ => rfl) (by decide) (by decide) (by decide) (Nat.le_of_ble_eq_true rfl) (Nat.le_of_ble_eq_true rfl) di_4_8 (fun q1 cB H hK hP hD hS => ?_)
  have hcB : cB = cA 1 := tk_same hK rfl (Or.inr (Or.inl rfl))
  subst hcB
  have hK := hK.sub (tys' := tk_tyl cA) [0, 1, 2] rfl
  have hP : va_P D tk_cls [(h0, .inr (4, [.null, .null, .null, .null, .null, .null, .int 0, .int 0, .int 0])), (q1, .inl (cA 1, (256, .inr (.inl (fun _ => 0)))))] H := hP
  have hD : va_D A [(h0, .inr (4, [.null, .null, .null, .null, .null, .null, .int 0, .int 0, .int 0])), (q1, .inl (cA 1, (256, .inr (.inl (fun _ => 0)))))] := hD
  refine va_putF (D := D) (ci := 4) (v := .ref q1) (ty := .array .long) (C := tk_cn 4) (T := tk_T 4) (N := 9) (ref := tk_cn 4) hx hb hts (tk_in_ws 4 (by decide)) (tk_ty 4) (tk_tyok 4 (by decide)) (tk_nm 4 (by decide)) hown hK hP hD hS 0 rfl rfl 0 (by decide) (hts _ (tk_tb (tk_fws _ (List.mem_map.mpr ⟨(4, 9, 0), by decide, rfl⟩)) rfl)) (fun _ h9 => h9) rfl hin rfl (by decide +kernel) rfl rfl (Nat.le_of_ble_eq_true rfl) di_4_10 (fun H locs hP hD hS => ?_)
  have hP : va_P D tk_cls [(h0, .inr (4, [.ref q1, .null, .null, .null, .null, .null, .int 0, .int 0, .int 0])), (q1, .inl (cA 1, (256, .inr (.inl (fun _ => 0)))))] H := hP
  have hD : va_D A [(h0, .inr (4, [.ref q1, .null, .null, .null, .null, .null, .int 0, .int 0, .int 0])), (q1, .inl (cA 1, (256, .inr (.inl (fun _ => 0)))))] := hD
  refine lv_aload_n hx hb di_4_13 rfl (lv_at hl 0 rfl) ?_
  refine lv_sipush (v := 256) hx hb di_4_14 (by decide) ?_
  refine va_newa (atype := .long) (a0 := (256, .inr (.inl (fun _ => 0)))) hx hb (hts _ tk_arr3.2.1) (ty := .long) rfl hK hP hD hS hA (fun _ => rfl) (by decide) (by decide) (by decide) (Nat.le_of_ble_eq_true rfl) (Nat.le_of_ble_eq_true rfl) di_4_17 (fun q2 cB H hK hP hD hS => ?_)
  have hcB : cB = cA 1 := tk_same hK rfl (Or.inr (Or.inl rfl))
  subst hcB
  have hK := hK.sub (tys' := tk_tyl cA) [0, 1, 2] rfl
  have hP : va_P D tk_cls [(h0, .inr (4, [.ref q1, .null, .null, .null, .null, .null, .int 0, .int 0, .int 0])), (q1, .inl (cA 1, (256, .inr (.inl (fun _ => 0))))), (q2, .inl (cA 1, (256, .inr (.inl (fun _ => 0)))))] H := hP
  have hD : va_D A [(h0, .inr (4, [.ref q1, .null, .null, .null, .null, .null, .int 0, .int 0, .int 0])), (q1, .inl (cA 1, (256, .inr (.inl (fun _ => 0))))), (q2, .inl (cA 1, (256, .inr (.inl (fun _ => 0)))))] := hD
  refine va_putF (D := D) (ci := 4) (v := .ref q2) (ty := .array .long) (C := tk_cn 4) (T := tk_T 4) (N := 9) (ref := tk_cn 4) hx hb hts (tk_in_ws 4 (by decide)) (tk_ty 4) (tk_tyok 4 (by decide)) (tk_nm 4 (by decide)) hown hK hP hD hS 0 rfl rfl 1 (by decide) (hts _ (tk_tb (tk_fws _ (List.mem_map.mpr ⟨(4, 15, 1), by decide, rfl⟩)) rfl)) (fun _ h9 => h9) rfl hin rfl (by decide +kernel) rfl rfl (Nat.le_of_ble_eq_true rfl) di_4_19 (fun H locs hP hD hS => ?_)
  have hP : va_P D tk_cls [(h0, .inr (4, [.ref q1, .ref q2, .null, .null, .null, .null, .int 0, .int 0, .int 0])), (q1, .inl (cA 1, (256, .inr (.inl (fun _ => 0))))), (q2, .inl (cA 1, (256, .inr (.inl (fun _ => 0)))))] H := hP
  have hD : va_D A [(h0, .inr (4, [.ref q1, .ref q2, .null, .null, .null, .null, .int 0, .int 0, .int 0])), (q1, .inl (cA 1, (256, .inr (.inl (fun _ => 0))))), (q2, .inl (cA 1, (256, .inr (.inl (fun _ => 0)))))] := hD
  refine lv_aload_n hx hb di_4_22 rfl (lv_at hl 0 rfl) ?_
  refine lv_sipush (v := 256) hx hb di_4_23 (by decide) ?_
  refine va_newa (atype := .long) (a0 := (256, .inr (.inl (fun _ => 0)))) hx hb (hts _ tk_arr3.2.1) (ty := .long) rfl hK hP hD hS hA (fun _ => rfl) (by decide) (by decide) (by decide) (Nat.le_of_ble_eq_true rfl) (Nat.le_of_ble_eq_true rfl) di_4_26 (fun q3 cB H hK hP hD hS => ?_)
  have hcB : cB = cA 1 := tk_same hK rfl (Or.inr (Or.inl rfl))
  subst hcB
  have hK := hK.sub (tys' := tk_tyl cA) [0, 1, 2] rfl
  have hP : va_P D tk_cls [(h0, .inr (4, [.ref q1, .ref q2, .null, .null, .null, .null, .int 0, .int 0, .int 0])), (q1, .inl (cA 1, (256, .inr (.inl (fun _ => 0))))), (q2, .inl (cA 1, (256, .inr (.inl (fun _ => 0))))), (q3, .inl (cA 1, (256, .inr (.inl (fun _ => 0)))))] H := hP
  have hD : va_D A [(h0, .inr (4, [.ref q1, .ref q2, .null, .null, .null, .null, .int 0, .int 0, .int 0])), (q1, .inl (cA 1, (256, .inr (.inl (fun _ => 0))))), (q2, .inl (cA 1, (256, .inr (.inl (fun _ => 0))))), (q3, .inl (cA 1, (256, .inr (.inl (fun _ => 0)))))] := hD
  refine va_putF (D := D) (ci := 4) (v := .ref q3) (ty := .array .long) (C := tk_cn 4) (T := tk_T 4) (N := 9) (ref := tk_cn 4) hx hb hts (tk_in_ws 4 (by decide)) (tk_ty 4) (tk_tyok 4 (by decide)) (tk_nm 4 (by decide)) hown hK hP hD hS 0 rfl rfl 2 (by decide) (hts _ (tk_tb (tk_fws _ (List.mem_map.mpr ⟨(4, 18, 2), by decide, rfl⟩)) rfl)) (fun _ h9 => h9) rfl hin rfl (by decide +kernel) rfl rfl (Nat.le_of_ble_eq_true rfl) di_4_28 (fun H locs hP hD hS => ?_)
  have hP : va_P D tk_cls [(h0, .inr (4, [.ref q1, .ref q2, .ref q3, .null, .null, .null, .int 0, .int 0, .int 0])), (q1, .inl (cA 1, (256, .inr (.inl (fun _ => 0))))), (q2, .inl (cA 1, (256, .inr (.inl (fun _ => 0))))), (q3, .inl (cA 1, (256, .inr (.inl (fun _ => 0)))))] H := hP
  have hD : va_D A [(h0, .inr (4, [.ref q1, .ref q2, .ref q3, .null, .null, .null, .int 0, .int 0, .int 0])), (q1, .inl (cA 1, (256, .inr (.inl (fun _ => 0))))), (q2, .inl (cA 1, (256, .inr (.inl (fun _ => 0))))), (q3, .inl (cA 1, (256, .inr (.inl (fun _ => 0)))))] := hD
  refine lv_aload_n hx hb di_4_31 rfl (lv_at hl 0 rfl) ?_
  refine lv_bipush (v := 96) hx hb di_4_32 (by decide) ?_
  refine va_newa (atype := .long) (a0 := (96, .inr (.inl (fun _ => 0)))) hx hb (hts _ tk_arr3.2.1) (ty := .long) rfl hK hP hD hS hA (fun _ => rfl) (by decide) (by decide) (by decide) (Nat.le_of_ble_eq_true rfl) (Nat.le_of_ble_eq_true rfl) di_4_34 (fun q4 cB H hK hP hD hS => ?_)
  have hcB : cB = cA 1 := tk_same hK rfl (Or.inr (Or.inl rfl))
  subst hcB
  have hK := hK.sub (tys' := tk_tyl cA) [0, 1, 2] rfl
  have hP : va_P D tk_cls [(h0, .inr (4, [.ref q1, .ref q2, .ref q3, .null, .null, .null, .int 0, .int 0, .int 0])), (q1, .inl (cA 1, (256, .inr (.inl (fun _ => 0))))), (q2, .inl (cA 1, (256, .inr (.inl (fun _ => 0))))), (q3, .inl (cA 1, (256, .inr (.inl (fun _ => 0))))), (q4, .inl (cA 1, (96, .inr (.inl (fun _ => 0)))))] H := hP
  have hD : va_D A [(h0, .inr (4, [.ref q1, .ref q2, .ref q3, .null, .null, .null, .int 0, .int 0, .int 0])), (q1, .inl (cA 1, (256, .inr (.inl (fun _ => 0))))), (q2, .inl (cA 1, (256, .inr (.inl (fun _ => 0))))), (q3, .inl (cA 1, (256, .inr (.inl (fun _ => 0))))), (q4, .inl (cA 1, (96, .inr (.inl (fun _ => 0)))))] := hD
  refine va_putF (D := D) (ci := 4) (v := .ref q4) (ty := .array .long) (C := tk_cn 4) (T := tk_T 4) (N := 9) (ref := tk_cn 4) hx hb hts (tk_in_ws 4 (by decide)) (tk_ty 4) (tk_tyok 4 (by decide)) (tk_nm 4 (by decide)) hown hK hP hD hS 0 rfl rfl 3 (by decide) (hts _ (tk_tb (tk_fws _ (List.mem_map.mpr ⟨(4, 21, 3), by decide, rfl⟩)) rfl)) (fun _ h9 => h9) rfl hin rfl (by decide +kernel) rfl rfl (Nat.le_of_ble_eq_true rfl) di_4_36 (fun H locs hP hD hS => ?_)
  have hP : va_P D tk_cls [(h0, .inr (4, [.ref q1, .ref q2, .ref q3, .ref q4, .null, .null, .int 0, .int 0, .int 0])), (q1, .inl (cA 1, (256, .inr (.inl (fun _ => 0))))), (q2, .inl (cA 1, (256, .inr (.inl (fun _ => 0))))), (q3, .inl (cA 1, (256, .inr (.inl (fun _ => 0))))), (q4, .inl (cA 1, (96, .inr (.inl (fun _ => 0)))))] H := hP
  have hD : va_D A [(h0, .inr (4, [.ref q1, .ref q2, .ref q3, .ref q4, .null, .null, .int 0, .int 0, .int 0])), (q1, .inl (cA 1, (256, .inr (.inl (fun _ => 0))))), (q2, .inl (cA 1, (256, .inr (.inl (fun _ => 0))))), (q3, .inl (cA 1, (256, .inr (.inl (fun _ => 0))))), (q4, .inl (cA 1, (96, .inr (.inl (fun _ => 0)))))] := hD
  refine lv_aload_n hx hb di_4_39 rfl (lv_at hl 0 rfl) ?_
  refine lv_bipush (v := 96) hx hb di_4_40 (by decide) ?_
  refine va_newa (atype := .long) (a0 := (96, .inr (.inl (fun _ => 0)))) hx hb (hts _ tk_arr3.2.1) (ty := .long) rfl hK hP hD hS hA (fun _ => rfl) (by decide) (by decide) (by decide) (Nat.le_of_ble_eq_true rfl) (Nat.le_of_ble_eq_true rfl) di_4_42 (fun q5 cB H hK hP hD hS => ?_)
  have hcB : cB = cA 1 := tk_same hK rfl (Or.inr (Or.inl rfl))
  subst hcB
  have hK := hK.sub (tys' := tk_tyl cA) [0, 1, 2] rfl
  have hP : va_P D tk_cls [(h0, .inr (4, [.ref q1, .ref q2, .ref q3, .ref q4, .null, .null, .int 0, .int 0, .int 0])), (q1, .inl (cA 1, (256, .inr (.inl (fun _ => 0))))), (q2, .inl (cA 1, (256, .inr (.inl (fun _ => 0))))), (q3, .inl (cA 1, (256, .inr (.inl (fun _ => 0))))), (q4, .inl (cA 1, (96, .inr (.inl (fun _ => 0))))), (q5, .inl (cA 1, (96, .inr (.inl (fun _ => 0)))))] H := hP
  have hD : va_D A [(h0, .inr (4, [.ref q1, .ref q2, .ref q3, .ref q4, .null, .null, .int 0, .int 0, .int 0])), (q1, .inl (cA 1, (256, .inr (.inl (fun _ => 0))))), (q2, .inl (cA 1, (256, .inr (.inl (fun _ => 0))))), (q3, .inl (cA 1, (256, .inr (.inl (fun _ => 0))))), (q4, .inl (cA 1, (96, .inr (.inl (fun _ => 0))))), (q5, .inl (cA 1, (96, .inr (.inl (fun _ => 0)))))] := hD
  refine va_putF (D := D) (ci := 4) (v := .ref q5) (ty := .array .long) (C := tk_cn 4) (T := tk_T 4) (N := 9) (ref := tk_cn 4) hx hb hts (tk_in_ws 4 (by decide)) (tk_ty 4) (tk_tyok 4 (by decide)) (tk_nm 4 (by decide)) hown hK hP hD hS 0 rfl rfl 4 (by decide) (hts _ (tk_tb (tk_fws _ (List.mem_map.mpr ⟨(4, 24, 4), by decide, rfl⟩)) rfl)) (fun _ h9 => h9) rfl hin rfl (by decide +kernel) rfl rfl (Nat.le_of_ble_eq_true rfl) di_4_44 (fun H locs hP hD hS => ?_)
  have hP : va_P D tk_cls [(h0, .inr (4, [.ref q1, .ref q2, .ref q3, .ref q4, .ref q5, .null, .int 0, .int 0, .int 0])), (q1, .inl (cA 1, (256, .inr (.inl (fun _ => 0))))), (q2, .inl (cA 1, (256, .inr (.inl (fun _ => 0))))), (q3, .inl (cA 1, (256, .inr (.inl (fun _ => 0))))), (q4, .inl (cA 1, (96, .inr (.inl (fun _ => 0))))), (q5, .inl (cA 1, (96, .inr (.inl (fun _ => 0)))))] H := hP
  have hD : va_D A [(h0, .inr (4, [.ref q1, .ref q2, .ref q3, .ref q4, .ref q5, .null, .int 0, .int 0, .int 0])), (q1, .inl (cA 1, (256, .inr (.inl (fun _ => 0))))), (q2, .inl (cA 1, (256, .inr (.inl (fun _ => 0))))), (q3, .inl (cA 1, (256, .inr (.inl (fun _ => 0))))), (q4, .inl (cA 1, (96, .inr (.inl (fun _ => 0))))), (q5, .inl (cA 1, (96, .inr (.inl (fun _ => 0)))))] := hD
  refine lv_aload_n hx hb di_4_47 rfl (lv_at hl 0 rfl) ?_
  refine lv_bipush (v := 96) hx hb di_4_48 (by decide) ?_
  refine va_newa (atype := .long) (a0 := (96, .inr (.inl (fun _ => 0)))) hx hb (hts _ tk_arr3.2.1) (ty := .long) rfl hK hP hD hS hA (fun _ => rfl) (by decide) (by decide) (by decide) (Nat.le_of_ble_eq_true rfl) (Nat.le_of_ble_eq_true rfl) di_4_50 (fun q6 cB H hK hP hD hS => ?_)
  have hcB : cB = cA 1 := tk_same hK rfl (Or.inr (Or.inl rfl))
  subst hcB
  have hK := hK.sub (tys' := tk_tyl cA) [0, 1, 2] rfl
  have hP : va_P D tk_cls [(h0, .inr (4, [.ref q1, .ref q2, .ref q3, .ref q4, .ref q5, .null, .int 0, .int 0, .int 0])), (q1, .inl (cA 1, (256, .inr (.inl (fun _ => 0))))), (q2, .inl (cA 1, (256, .inr (.inl (fun _ => 0))))), (q3, .inl (cA 1, (256, .inr (.inl (fun _ => 0))))), (q4, .inl (cA 1, (96, .inr (.inl (fun _ => 0))))), (q5, .inl (cA 1, (96, .inr (.inl (fun _ => 0))))), (q6, .inl (cA 1, (96, .inr (.inl (fun _ => 0)))))] H := hP
  have hD : va_D A [(h0, .inr (4, [.ref q1, .ref q2, .ref q3, .ref q4, .ref q5, .null, .int 0, .int 0, .int 0])), (q1, .inl (cA 1, (256, .inr (.inl (fun _ => 0))))), (q2, .inl (cA 1, (256, .inr (.inl (fun _ => 0))))), (q3, .inl (cA 1, (256, .inr (.inl (fun _ => 0))))), (q4, .inl (cA 1, (96, .inr (.inl (fun _ => 0))))), (q5, .inl (cA 1, (96, .inr (.inl (fun _ => 0))))), (q6, .inl (cA 1, (96, .inr (.inl (fun _ => 0)))))] := hD
  refine va_putF (D := D) (ci := 4) (v := .ref q6) (ty := .array .long) (C := tk_cn 4) (T := tk_T 4) (N := 9) (ref := tk_cn 4) hx hb hts (tk_in_ws 4 (by decide)) (tk_ty 4) (tk_tyok 4 (by decide)) (tk_nm 4 (by decide)) hown hK hP hD hS 0 rfl rfl 5 (by decide) (hts _ (tk_tb (tk_fws _ (List.mem_map.mpr ⟨(4, 27, 5), by decide, rfl⟩)) rfl)) (fun _ h9 => h9) rfl hin rfl (by decide +kernel) rfl rfl (Nat.le_of_ble_eq_true rfl) di_4_52 (fun H locs hP hD hS => ?_)
  have hP : va_P D tk_cls [(h0, .inr (4, [.ref q1, .ref q2, .ref q3, .ref q4, .ref q5, .ref q6, .int 0, .int 0, .int 0])), (q1, .inl (cA 1, (256, .inr (.inl (fun _ => 0))))), (q2, .inl (cA 1, (256, .inr (.inl (fun _ => 0))))), (q3, .inl (cA 1, (256, .inr (.inl (fun _ => 0))))), (q4, .inl (cA 1, (96, .inr (.inl (fun _ => 0))))), (q5, .inl (cA 1, (96, .inr (.inl (fun _ => 0))))), (q6, .inl (cA 1, (96, .inr (.inl (fun _ => 0)))))] H := hP
  have hD : va_D A [(h0, .inr (4, [.ref q1, .ref q2, .ref q3, .ref q4, .ref q5, .ref q6, .int 0, .int 0, .int 0])), (q1, .inl (cA 1, (256, .inr (.inl (fun _ => 0))))), (q2, .inl (cA 1, (256, .inr (.inl (fun _ => 0))))), (q3, .inl (cA 1, (256, .inr (.inl (fun _ => 0))))), (q4, .inl (cA 1, (96, .inr (.inl (fun _ => 0))))), (q5, .inl (cA 1, (96, .inr (.inl (fun _ => 0))))), (q6, .inl (cA 1, (96, .inr (.inl (fun _ => 0)))))] := hD
  refine W.widen (k := 6) (n := 1056) (Nat.le_of_ble_eq_true rfl) (Nat.le_of_ble_eq_true rfl) ?_
  exact W.vret hx hb hr (fun t ht hW => ⟨⟨[q1, q2, q3, q4, q5, q6], rfl, trivial, by rw [ht]; exact hP, va_K.moved hW.alike hK, hD⟩, hS.F ht⟩) hS.2.2 di_4_55
set_option maxHeartbeats 4000000 in
set_option maxRecDepth 100000 in
theorem ci_6 (l : Launch) (D : va_G) (cA : Nat → ClassId) (h0 sz : Nat) : Met l yi_6 (Cond.code yi_6 bi_6 1 none :: tk_TB) ({ frames := 1, cells := 17, slots := 2958, locals := 12 }) (va_Pc [.ref h0] (fun U => U.heap.size = sz ∧ va_P D tk_cls [(h0, .inr (6, [.int 0, .int 0, .int 0, .null, .null, .null, .null, .null, .null, .null, .int 0, .int 0, .null, .int 0, .int 0, .int 0, .int 0, .int 0, .int 0, .null, .null, .int 0, .int 0, .null, .null, .null, .null, .null, .null, .int 0, .int 0, .int 0, .null, .long 0, .long 0]))] U.heap ∧ va_K D tk_cls (tk_tyl cA) U ∧ va_D (fun _ => True) [(h0, .inr (6, [.int 0, .int 0, .int 0, .null, .null, .null, .null, .null, .null, .null, .int 0, .int 0, .null, .int 0, .int 0, .int 0, .int 0, .int 0, .int 0, .null, .null, .int 0, .int 0, .null, .null, .null, .null, .null, .null, .int 0, .int 0, .int 0, .null, .long 0, .long 0]))])) (va_Qv (fun _ : List Nat => True) (fun u t => va_P D tk_cls [(h0, .inr (6, [.int 0, .int 0, .int 0, .ref (u.getD 0 0), .ref (u.getD 1 0), .ref (u.getD 2 0), .ref (u.getD 3 0), .ref (u.getD 4 0), .ref (u.getD 5 0), .ref (u.getD 6 0), .int 0, .int 0, .ref (u.getD 7 0), .int 0, .int 0, .int 0, .int 0, .int 0, .int 0, .ref (u.getD 8 0), .ref (u.getD 9 0), .int 0, .int 0, .ref (u.getD 10 0), .ref (u.getD 11 0), .ref (u.getD 12 0), .ref (u.getD 13 0), .ref (u.getD 14 0), .ref (u.getD 15 0), .int 0, .int 0, .int 0, .ref (u.getD 16 0), .long 0, .long 0])), ((u.getD 0 0), .inl (cA 0, (60, .inl (fun _ => 0)))), ((u.getD 1 0), .inl (cA 0, (60, .inl (fun _ => 0)))), ((u.getD 2 0), .inl (cA 0, (60, .inl (fun _ => 0)))), ((u.getD 3 0), .inl (cA 0, (60, .inl (fun _ => 0)))), ((u.getD 4 0), .inl (cA 0, (60, .inl (fun _ => 0)))), ((u.getD 5 0), .inl (cA 0, (6, .inl (fun _ => 0)))), ((u.getD 6 0), .inl (cA 0, (320, .inl (fun _ => 0)))), ((u.getD 7 0), .inl (cA 2, (1000, .inl (fun _ => 0)))), ((u.getD 8 0), .inl (cA 0, (4, .inl (fun _ => 0)))), ((u.getD 9 0), .inl (cA 1, (256, .inr (.inl (fun _ => 0))))), ((u.getD 10 0), .inl (cA 1, (256, .inr (.inl (fun _ => 0))))), ((u.getD 11 0), .inl (cA 1, (96, .inr (.inl (fun _ => 0))))), ((u.getD 12 0), .inl (cA 1, (256, .inr (.inl (fun _ => 0))))), ((u.getD 13 0), .inl (cA 1, (96, .inr (.inl (fun _ => 0))))), ((u.getD 14 0), .inl (cA 1, (256, .inr (.inl (fun _ => 0))))), ((u.getD 15 0), .inl (cA 1, (96, .inr (.inl (fun _ => 0))))), ((u.getD 16 0), .inl (cA 0, (16, .inl (fun _ => 0))))] t.heap ∧ va_K D tk_cls (tk_tyl cA) t ∧ va_D (va_A [(h0, .inr (6, [.int 0, .int 0, .int 0, .null, .null, .null, .null, .null, .null, .null, .int 0, .int 0, .null, .int 0, .int 0, .int 0, .int 0, .int 0, .int 0, .null, .null, .int 0, .int 0, .null, .null, .null, .null, .null, .null, .int 0, .int 0, .int 0, .null, .long 0, .long 0]))] sz) [(h0, .inr (6, [.int 0, .int 0, .int 0, .ref (u.getD 0 0), .ref (u.getD 1 0), .ref (u.getD 2 0), .ref (u.getD 3 0), .ref (u.getD 4 0), .ref (u.getD 5 0), .ref (u.getD 6 0), .int 0, .int 0, .ref (u.getD 7 0), .int 0, .int 0, .int 0, .int 0, .int 0, .int 0, .ref (u.getD 8 0), .ref (u.getD 9 0), .int 0, .int 0, .ref (u.getD 10 0), .ref (u.getD 11 0), .ref (u.getD 12 0), .ref (u.getD 13 0), .ref (u.getD 14 0), .ref (u.getD 15 0), .int 0, .int 0, .int 0, .ref (u.getD 16 0), .long 0, .long 0])), ((u.getD 0 0), .inl (cA 0, (60, .inl (fun _ => 0)))), ((u.getD 1 0), .inl (cA 0, (60, .inl (fun _ => 0)))), ((u.getD 2 0), .inl (cA 0, (60, .inl (fun _ => 0)))), ((u.getD 3 0), .inl (cA 0, (60, .inl (fun _ => 0)))), ((u.getD 4 0), .inl (cA 0, (60, .inl (fun _ => 0)))), ((u.getD 5 0), .inl (cA 0, (6, .inl (fun _ => 0)))), ((u.getD 6 0), .inl (cA 0, (320, .inl (fun _ => 0)))), ((u.getD 7 0), .inl (cA 2, (1000, .inl (fun _ => 0)))), ((u.getD 8 0), .inl (cA 0, (4, .inl (fun _ => 0)))), ((u.getD 9 0), .inl (cA 1, (256, .inr (.inl (fun _ => 0))))), ((u.getD 10 0), .inl (cA 1, (256, .inr (.inl (fun _ => 0))))), ((u.getD 11 0), .inl (cA 1, (96, .inr (.inl (fun _ => 0))))), ((u.getD 12 0), .inl (cA 1, (256, .inr (.inl (fun _ => 0))))), ((u.getD 13 0), .inl (cA 1, (96, .inr (.inl (fun _ => 0))))), ((u.getD 14 0), .inl (cA 1, (256, .inr (.inl (fun _ => 0))))), ((u.getD 15 0), .inl (cA 1, (96, .inr (.inl (fun _ => 0))))), ((u.getD 16 0), .inl (cA 0, (16, .inl (fun _ => 0))))]) (va_A [(h0, .inr (6, [.int 0, .int 0, .int 0, .null, .null, .null, .null, .null, .null, .null, .int 0, .int 0, .null, .int 0, .int 0, .int 0, .int 0, .int 0, .int 0, .null, .null, .int 0, .int 0, .null, .null, .null, .null, .null, .null, .int 0, .int 0, .int 0, .null, .long 0, .long 0]))] sz)) 17 2958 (va_A [(h0, .inr (6, [.int 0, .int 0, .int 0, .null, .null, .null, .null, .null, .null, .null, .int 0, .int 0, .null, .int 0, .int 0, .int 0, .int 0, .int 0, .int 0, .null, .null, .int 0, .int 0, .null, .null, .null, .null, .null, .null, .int 0, .int 0, .int 0, .null, .long 0, .long 0]))] sz) := by
  refine Met.ofW (cc := bi_6) (maxL := 1) (ret := none) (by decide) rfl ?_
  intro p e s m args below meth c s₁ B hml hv
  obtain ⟨rfl, hsz, hP, hK, hD0⟩ := hv
  have hx := B.exec
  have hb := B.bytes
  have hr := B.returns
  have hts0 := atoms_spec (ws := Cond.code yi_6 bi_6 1 none :: tk_TB) B.pre
  have hts : ∀ w ∈ tk_TB, w.before #[Value.ref h0] s = true := fun w hw => hts0 w (List.mem_cons_of_mem _ hw)
  have hown : s.vm.findClass (tk_cn 6) = some m.cls := findClass_of_methodNamed B.named
  have hlocks := B.notSynchronized
  have hin : meth.name = "<init>" := (name_of_methodNamed B.named B.method).1
  subst hsz
  have hD := hD0.self (sz := s.heap.size)
  generalize hAe : va_A [(h0, .inr (6, [.int 0, .int 0, .int 0, .null, .null, .null, .null, .null, .null, .null, .int 0, .int 0, .null, .int 0, .int 0, .int 0, .int 0, .int 0, .int 0, .null, .null, .int 0, .int 0, .null, .null, .null, .null, .null, .null, .int 0, .int 0, .int 0, .null, .long 0, .long 0]))] s.heap.size = A at hD ⊢
  have hA : ∀ q : Nat, s.heap.size ≤ q → A q := fun q h => by rw [← hAe]; exact Or.inr h
  have hS : va_S A s.heap s.heap [] := va_S.rf
  have hl := lv_entry ([.ref h0]) (n := 1) (Nat.le_of_ble_eq_true rfl)
  rw [lg_entry_eq]
  generalize (lg_sl ([.ref h0]) ++ List.replicate (1 - (lg_sl ([.ref h0])).length) Slot.unset).toArray = ls at hl ⊢
  have hl : lv_has ls 1 [(0, .ref h0)] := hl
  refine lv_aload_n hx hb di_6_0 rfl (lv_at hl 0 rfl) ?_
  refine W.objInit hx hb hown (hts _ tk_ol_6) (hts _ tk_obj3.1) (hts _ tk_obj3.2) rfl (by rw [hml]; exact hl.1) rfl di_6_1 (Nat.le_of_ble_eq_true rfl) (Nat.le_of_ble_eq_true rfl) ?_
  refine W.eq (g2 := F0 m 4 ls []) rfl ?_
  refine lv_aload_n hx hb di_6_4 rfl (lv_at hl 0 rfl) ?_
  refine lv_bipush (v := 60) hx hb di_6_5 (by decide) ?_
  refine va_newa (atype := .int) (a0 := (60, .inl (fun _ => 0))) hx hb (hts _ tk_arr3.1) (ty := .int) rfl hK hP hD hS hA (fun _ => rfl) (by decide) (by decide) (by decide) (Nat.le_of_ble_eq_true rfl) (Nat.le_of_ble_eq_true rfl) di_6_7 (fun q1 cB H hK hP hD hS => ?_)
  have hcB : cB = cA 0 := tk_same hK rfl (Or.inl rfl)
  subst hcB
  have hK := hK.sub (tys' := tk_tyl cA) [0, 1, 2] rfl
  have hP : va_P D tk_cls [(h0, .inr (6, [.int 0, .int 0, .int 0, .null, .null, .null, .null, .null, .null, .null, .int 0, .int 0, .null, .int 0, .int 0, .int 0, .int 0, .int 0, .int 0, .null, .null, .int 0, .int 0, .null, .null, .null, .null, .null, .null, .int 0, .int 0, .int 0, .null, .long 0, .long 0])), (q1, .inl (cA 0, (60, .inl (fun _ => 0))))] H := hP
  have hD : va_D A [(h0, .inr (6, [.int 0, .int 0, .int 0, .null, .null, .null, .null, .null, .null, .null, .int 0, .int 0, .null, .int 0, .int 0, .int 0, .int 0, .int 0, .int 0, .null, .null, .int 0, .int 0, .null, .null, .null, .null, .null, .null, .int 0, .int 0, .int 0, .null, .long 0, .long 0])), (q1, .inl (cA 0, (60, .inl (fun _ => 0))))] := hD
  refine va_putF (D := D) (ci := 6) (v := .ref q1) (ty := .array .int) (C := tk_cn 6) (T := tk_T 6) (N := 35) (ref := tk_cn 6) hx hb hts (tk_in_ws 6 (by decide)) (tk_ty 6) (tk_tyok 6 (by decide)) (tk_nm 6 (by decide)) hown hK hP hD hS 0 rfl rfl 3 (by decide) (hts _ (tk_tb (tk_fws _ (List.mem_map.mpr ⟨(6, 7, 3), by decide, rfl⟩)) rfl)) (fun _ h9 => h9) rfl hin rfl (by decide +kernel) rfl rfl (Nat.le_of_ble_eq_true rfl) di_6_9 (fun H locs hP hD hS => ?_)
  have hP : va_P D tk_cls [(h0, .inr (6, [.int 0, .int 0, .int 0, .ref q1, .null, .null, .null, .null, .null, .null, .int 0, .int 0, .null, .int 0, .int 0, .int 0, .int 0, .int 0, .int 0, .null, .null, .int 0, .int 0, .null, .null, .null, .null, .null, .null, .int 0, .int 0, .int 0, .null, .long 0, .long 0])), (q1, .inl (cA 0, (60, .inl (fun _ => 0))))] H := hP
  have hD : va_D A [(h0, .inr (6, [.int 0, .int 0, .int 0, .ref q1, .null, .null, .null, .null, .null, .null, .int 0, .int 0, .null, .int 0, .int 0, .int 0, .int 0, .int 0, .int 0, .null, .null, .int 0, .int 0, .null, .null, .null, .null, .null, .null, .int 0, .int 0, .int 0, .null, .long 0, .long 0])), (q1, .inl (cA 0, (60, .inl (fun _ => 0))))] := hD
  refine lv_aload_n hx hb di_6_12 rfl (lv_at hl 0 rfl) ?_
  refine lv_bipush (v := 60) hx hb di_6_13 (by decide) ?_
  refine va_newa (atype := .int) (a0 := (60, .inl (fun _ => 0))) hx hb (hts _ tk_arr3.1) (ty := .int) rfl hK hP hD hS hA (fun _ => rfl) (by decide) (by decide) (by decide) (Nat.le_of_ble_eq_true rfl) (Nat.le_of_ble_eq_true rfl) di_6_15 (fun q2 cB H hK hP hD hS => ?_)
  have hcB : cB = cA 0 := tk_same hK rfl (Or.inl rfl)
  subst hcB
  have hK := hK.sub (tys' := tk_tyl cA) [0, 1, 2] rfl
  have hP : va_P D tk_cls [(h0, .inr (6, [.int 0, .int 0, .int 0, .ref q1, .null, .null, .null, .null, .null, .null, .int 0, .int 0, .null, .int 0, .int 0, .int 0, .int 0, .int 0, .int 0, .null, .null, .int 0, .int 0, .null, .null, .null, .null, .null, .null, .int 0, .int 0, .int 0, .null, .long 0, .long 0])), (q1, .inl (cA 0, (60, .inl (fun _ => 0)))), (q2, .inl (cA 0, (60, .inl (fun _ => 0))))] H := hP
  have hD : va_D A [(h0, .inr (6, [.int 0, .int 0, .int 0, .ref q1, .null, .null, .null, .null, .null, .null, .int 0, .int 0, .null, .int 0, .int 0, .int 0, .int 0, .int 0, .int 0, .null, .null, .int 0, .int 0, .null, .null, .null, .null, .null, .null, .int 0, .int 0, .int 0, .null, .long 0, .long 0])), (q1, .inl (cA 0, (60, .inl (fun _ => 0)))), (q2, .inl (cA 0, (60, .inl (fun _ => 0))))] := hD
  refine va_putF (D := D) (ci := 6) (v := .ref q2) (ty := .array .int) (C := tk_cn 6) (T := tk_T 6) (N := 35) (ref := tk_cn 6) hx hb hts (tk_in_ws 6 (by decide)) (tk_ty 6) (tk_tyok 6 (by decide)) (tk_nm 6 (by decide)) hown hK hP hD hS 0 rfl rfl 4 (by decide) (hts _ (tk_tb (tk_fws _ (List.mem_map.mpr ⟨(6, 13, 4), by decide, rfl⟩)) rfl)) (fun _ h9 => h9) rfl hin rfl (by decide +kernel) rfl rfl (Nat.le_of_ble_eq_true rfl) di_6_17 (fun H locs hP hD hS => ?_)
  have hP : va_P D tk_cls [(h0, .inr (6, [.int 0, .int 0, .int 0, .ref q1, .ref q2, .null, .null, .null, .null, .null, .int 0, .int 0, .null, .int 0, .int 0, .int 0, .int 0, .int 0, .int 0, .null, .null, .int 0, .int 0, .null, .null, .null, .null, .null, .null, .int 0, .int 0, .int 0, .null, .long 0, .long 0])), (q1, .inl (cA 0, (60, .inl (fun _ => 0)))), (q2, .inl (cA 0, (60, .inl (fun _ => 0))))] H := hP
  have hD : va_D A [(h0, .inr (6, [.int 0, .int 0, .int 0, .ref q1, .ref q2, .null, .null, .null, .null, .null, .int 0, .int 0, .null, .int 0, .int 0, .int 0, .int 0, .int 0, .int 0, .null, .null, .int 0, .int 0, .null, .null, .null, .null, .null, .null, .int 0, .int 0, .int 0, .null, .long 0, .long 0])), (q1, .inl (cA 0, (60, .inl (fun _ => 0)))), (q2, .inl (cA 0, (60, .inl (fun _ => 0))))] := hD
  refine lv_aload_n hx hb di_6_20 rfl (lv_at hl 0 rfl) ?_
  refine lv_bipush (v := 60) hx hb di_6_21 (by decide) ?_
  refine va_newa (atype := .int) (a0 := (60, .inl (fun _ => 0))) hx hb (hts _ tk_arr3.1) (ty := .int) rfl hK hP hD hS hA (fun _ => rfl) (by decide) (by decide) (by decide) (Nat.le_of_ble_eq_true rfl) (Nat.le_of_ble_eq_true rfl) di_6_23 (fun q3 cB H hK hP hD hS => ?_)
  have hcB : cB = cA 0 := tk_same hK rfl (Or.inl rfl)
  subst hcB
  have hK := hK.sub (tys' := tk_tyl cA) [0, 1, 2] rfl
  have hP : va_P D tk_cls [(h0, .inr (6, [.int 0, .int 0, .int 0, .ref q1, .ref q2, .null, .null, .null, .null, .null, .int 0, .int 0, .null, .int 0, .int 0, .int 0, .int 0, .int 0, .int 0, .null, .null, .int 0, .int 0, .null, .null, .null, .null, .null, .null, .int 0, .int 0, .int 0, .null, .long 0, .long 0])), (q1, .inl (cA 0, (60, .inl (fun _ => 0)))), (q2, .inl (cA 0, (60, .inl (fun _ => 0)))), (q3, .inl (cA 0, (60, .inl (fun _ => 0))))] H := hP
  have hD : va_D A [(h0, .inr (6, [.int 0, .int 0, .int 0, .ref q1, .ref q2, .null, .null, .null, .null, .null, .int 0, .int 0, .null, .int 0, .int 0, .int 0, .int 0, .int 0, .int 0, .null, .null, .int 0, .int 0, .null, .null, .null, .null, .null, .null, .int 0, .int 0, .int 0, .null, .long 0, .long 0])), (q1, .inl (cA 0, (60, .inl (fun _ => 0)))), (q2, .inl (cA 0, (60, .inl (fun _ => 0)))), (q3, .inl (cA 0, (60, .inl (fun _ => 0))))] := hD
  refine va_putF (D := D) (ci := 6) (v := .ref q3) (ty := .array .int) (C := tk_cn 6) (T := tk_T 6) (N := 35) (ref := tk_cn 6) hx hb hts (tk_in_ws 6 (by decide)) (tk_ty 6) (tk_tyok 6 (by decide)) (tk_nm 6 (by decide)) hown hK hP hD hS 0 rfl rfl 5 (by decide) (hts _ (tk_tb (tk_fws _ (List.mem_map.mpr ⟨(6, 16, 5), by decide, rfl⟩)) rfl)) (fun _ h9 => h9) rfl hin rfl (by decide +kernel) rfl rfl (Nat.le_of_ble_eq_true rfl) di_6_25 (fun H locs hP hD hS => ?_)
  have hP : va_P D tk_cls [(h0, .inr (6, [.int 0, .int 0, .int 0, .ref q1, .ref q2, .ref q3, .null, .null, .null, .null, .int 0, .int 0, .null, .int 0, .int 0, .int 0, .int 0, .int 0, .int 0, .null, .null, .int 0, .int 0, .null, .null, .null, .null, .null, .null, .int 0, .int 0, .int 0, .null, .long 0, .long 0])), (q1, .inl (cA 0, (60, .inl (fun _ => 0)))), (q2, .inl (cA 0, (60, .inl (fun _ => 0)))), (q3, .inl (cA 0, (60, .inl (fun _ => 0))))] H := hP
  have hD : va_D A [(h0, .inr (6, [.int 0, .int 0, .int 0, .ref q1, .ref q2, .ref q3, .null, .null, .null, .null, .int 0, .int 0, .null, .int 0, .int 0, .int 0, .int 0, .int 0, .int 0, .null, .null, .int 0, .int 0, .null, .null, .null, .null, .null, .null, .int 0, .int 0, .int 0, .null, .long 0, .long 0])), (q1, .inl (cA 0, (60, .inl (fun _ => 0)))), (q2, .inl (cA 0, (60, .inl (fun _ => 0)))), (q3, .inl (cA 0, (60, .inl (fun _ => 0))))] := hD
  refine lv_aload_n hx hb di_6_28 rfl (lv_at hl 0 rfl) ?_
  refine lv_bipush (v := 60) hx hb di_6_29 (by decide) ?_
  refine va_newa (atype := .int) (a0 := (60, .inl (fun _ => 0))) hx hb (hts _ tk_arr3.1) (ty := .int) rfl hK hP hD hS hA (fun _ => rfl) (by decide) (by decide) (by decide) (Nat.le_of_ble_eq_true rfl) (Nat.le_of_ble_eq_true rfl) di_6_31 (fun q4 cB H hK hP hD hS => ?_)
  have hcB : cB = cA 0 := tk_same hK rfl (Or.inl rfl)
  subst hcB
  have hK := hK.sub (tys' := tk_tyl cA) [0, 1, 2] rfl
  have hP : va_P D tk_cls [(h0, .inr (6, [.int 0, .int 0, .int 0, .ref q1, .ref q2, .ref q3, .null, .null, .null, .null, .int 0, .int 0, .null, .int 0, .int 0, .int 0, .int 0, .int 0, .int 0, .null, .null, .int 0, .int 0, .null, .null, .null, .null, .null, .null, .int 0, .int 0, .int 0, .null, .long 0, .long 0])), (q1, .inl (cA 0, (60, .inl (fun _ => 0)))), (q2, .inl (cA 0, (60, .inl (fun _ => 0)))), (q3, .inl (cA 0, (60, .inl (fun _ => 0)))), (q4, .inl (cA 0, (60, .inl (fun _ => 0))))] H := hP
  have hD : va_D A [(h0, .inr (6, [.int 0, .int 0, .int 0, .ref q1, .ref q2, .ref q3, .null, .null, .null, .null, .int 0, .int 0, .null, .int 0, .int 0, .int 0, .int 0, .int 0, .int 0, .null, .null, .int 0, .int 0, .null, .null, .null, .null, .null, .null, .int 0, .int 0, .int 0, .null, .long 0, .long 0])), (q1, .inl (cA 0, (60, .inl (fun _ => 0)))), (q2, .inl (cA 0, (60, .inl (fun _ => 0)))), (q3, .inl (cA 0, (60, .inl (fun _ => 0)))), (q4, .inl (cA 0, (60, .inl (fun _ => 0))))] := hD
  refine va_putF (D := D) (ci := 6) (v := .ref q4) (ty := .array .int) (C := tk_cn 6) (T := tk_T 6) (N := 35) (ref := tk_cn 6) hx hb hts (tk_in_ws 6 (by decide)) (tk_ty 6) (tk_tyok 6 (by decide)) (tk_nm 6 (by decide)) hown hK hP hD hS 0 rfl rfl 6 (by decide) (hts _ (tk_tb (tk_fws _ (List.mem_map.mpr ⟨(6, 19, 6), by decide, rfl⟩)) rfl)) (fun _ h9 => h9) rfl hin rfl (by decide +kernel) rfl rfl (Nat.le_of_ble_eq_true rfl) di_6_33 (fun H locs hP hD hS => ?_)
  have hP : va_P D tk_cls [(h0, .inr (6, [.int 0, .int 0, .int 0, .ref q1, .ref q2, .ref q3, .ref q4, .null, .null, .null, .int 0, .int 0, .null, .int 0, .int 0, .int 0, .int 0, .int 0, .int 0, .null, .null, .int 0, .int 0, .null, .null, .null, .null, .null, .null, .int 0, .int 0, .int 0, .null, .long 0, .long 0])), (q1, .inl (cA 0, (60, .inl (fun _ => 0)))), (q2, .inl (cA 0, (60, .inl (fun _ => 0)))), (q3, .inl (cA 0, (60, .inl (fun _ => 0)))), (q4, .inl (cA 0, (60, .inl (fun _ => 0))))] H := hP
  have hD : va_D A [(h0, .inr (6, [.int 0, .int 0, .int 0, .ref q1, .ref q2, .ref q3, .ref q4, .null, .null, .null, .int 0, .int 0, .null, .int 0, .int 0, .int 0, .int 0, .int 0, .int 0, .null, .null, .int 0, .int 0, .null, .null, .null, .null, .null, .null, .int 0, .int 0, .int 0, .null, .long 0, .long 0])), (q1, .inl (cA 0, (60, .inl (fun _ => 0)))), (q2, .inl (cA 0, (60, .inl (fun _ => 0)))), (q3, .inl (cA 0, (60, .inl (fun _ => 0)))), (q4, .inl (cA 0, (60, .inl (fun _ => 0))))] := hD
  refine lv_aload_n hx hb di_6_36 rfl (lv_at hl 0 rfl) ?_
  refine lv_bipush (v := 60) hx hb di_6_37 (by decide) ?_
  refine va_newa (atype := .int) (a0 := (60, .inl (fun _ => 0))) hx hb (hts _ tk_arr3.1) (ty := .int) rfl hK hP hD hS hA (fun _ => rfl) (by decide) (by decide) (by decide) (Nat.le_of_ble_eq_true rfl) (Nat.le_of_ble_eq_true rfl) di_6_39 (fun q5 cB H hK hP hD hS => ?_)
  have hcB : cB = cA 0 := tk_same hK rfl (Or.inl rfl)
  subst hcB
  have hK := hK.sub (tys' := tk_tyl cA) [0, 1, 2] rfl
  have hP : va_P D tk_cls [(h0, .inr (6, [.int 0, .int 0, .int 0, .ref q1, .ref q2, .ref q3, .ref q4, .null, .null, .null, .int 0, .int 0, .null, .int 0, .int 0, .int 0, .int 0, .int 0, .int 0, .null, .null, .int 0, .int 0, .null, .null, .null, .null, .null, .null, .int 0, .int 0, .int 0, .null, .long 0, .long 0])), (q1, .inl (cA 0, (60, .inl (fun _ => 0)))), (q2, .inl (cA 0, (60, .inl (fun _ => 0)))), (q3, .inl (cA 0, (60, .inl (fun _ => 0)))), (q4, .inl (cA 0, (60, .inl (fun _ => 0)))), (q5, .inl (cA 0, (60, .inl (fun _ => 0))))] H := hP
  have hD : va_D A [(h0, .inr (6, [.int 0, .int 0, .int 0, .ref q1, .ref q2, .ref q3, .ref q4, .null, .null, .null, .int 0, .int 0, .null, .int 0, .int 0, .int 0, .int 0, .int 0, .int 0, .null, .null, .int 0, .int 0, .null, .null, .null, .null, .null, .null, .int 0, .int 0, .int 0, .null, .long 0, .long 0])), (q1, .inl (cA 0, (60, .inl (fun _ => 0)))), (q2, .inl (cA 0, (60, .inl (fun _ => 0)))), (q3, .inl (cA 0, (60, .inl (fun _ => 0)))), (q4, .inl (cA 0, (60, .inl (fun _ => 0)))), (q5, .inl (cA 0, (60, .inl (fun _ => 0))))] := hD
  refine va_putF (D := D) (ci := 6) (v := .ref q5) (ty := .array .int) (C := tk_cn 6) (T := tk_T 6) (N := 35) (ref := tk_cn 6) hx hb hts (tk_in_ws 6 (by decide)) (tk_ty 6) (tk_tyok 6 (by decide)) (tk_nm 6 (by decide)) hown hK hP hD hS 0 rfl rfl 7 (by decide) (hts _ (tk_tb (tk_fws _ (List.mem_map.mpr ⟨(6, 22, 7), by decide, rfl⟩)) rfl)) (fun _ h9 => h9) rfl hin rfl (by decide +kernel) rfl rfl (Nat.le_of_ble_eq_true rfl) di_6_41 (fun H locs hP hD hS => ?_)
  have hP : va_P D tk_cls [(h0, .inr (6, [.int 0, .int 0, .int 0, .ref q1, .ref q2, .ref q3, .ref q4, .ref q5, .null, .null, .int 0, .int 0, .null, .int 0, .int 0, .int 0, .int 0, .int 0, .int 0, .null, .null, .int 0, .int 0, .null, .null, .null, .null, .null, .null, .int 0, .int 0, .int 0, .null, .long 0, .long 0])), (q1, .inl (cA 0, (60, .inl (fun _ => 0)))), (q2, .inl (cA 0, (60, .inl (fun _ => 0)))), (q3, .inl (cA 0, (60, .inl (fun _ => 0)))), (q4, .inl (cA 0, (60, .inl (fun _ => 0)))), (q5, .inl (cA 0, (60, .inl (fun _ => 0))))] H := hP
  have hD : va_D A [(h0, .inr (6, [.int 0, .int 0, .int 0, .ref q1, .ref q2, .ref q3, .ref q4, .ref q5, .null, .null, .int 0, .int 0, .null, .int 0, .int 0, .int 0, .int 0, .int 0, .int 0, .null, .null, .int 0, .int 0, .null, .null, .null, .null, .null, .null, .int 0, .int 0, .int 0, .null, .long 0, .long 0])), (q1, .inl (cA 0, (60, .inl (fun _ => 0)))), (q2, .inl (cA 0, (60, .inl (fun _ => 0)))), (q3, .inl (cA 0, (60, .inl (fun _ => 0)))), (q4, .inl (cA 0, (60, .inl (fun _ => 0)))), (q5, .inl (cA 0, (60, .inl (fun _ => 0))))] := hD
  refine lv_aload_n hx hb di_6_44 rfl (lv_at hl 0 rfl) ?_
  refine lv_bipush (v := 6) hx hb di_6_45 (by decide) ?_
  refine va_newa (atype := .int) (a0 := (6, .inl (fun _ => 0))) hx hb (hts _ tk_arr3.1) (ty := .int) rfl hK hP hD hS hA (fun _ => rfl) (by decide) (by decide) (by decide) (Nat.le_of_ble_eq_true rfl) (Nat.le_of_ble_eq_true rfl) di_6_47 (fun q6 cB H hK hP hD hS => ?_)
  have hcB : cB = cA 0 := tk_same hK rfl (Or.inl rfl)
  subst hcB
  have hK := hK.sub (tys' := tk_tyl cA) [0, 1, 2] rfl
  have hP : va_P D tk_cls [(h0, .inr (6, [.int 0, .int 0, .int 0, .ref q1, .ref q2, .ref q3, .ref q4, .ref q5, .null, .null, .int 0, .int 0, .null, .int 0, .int 0, .int 0, .int 0, .int 0, .int 0, .null, .null, .int 0, .int 0, .null, .null, .null, .null, .null, .null, .int 0, .int 0, .int 0, .null, .long 0, .long 0])), (q1, .inl (cA 0, (60, .inl (fun _ => 0)))), (q2, .inl (cA 0, (60, .inl (fun _ => 0)))), (q3, .inl (cA 0, (60, .inl (fun _ => 0)))), (q4, .inl (cA 0, (60, .inl (fun _ => 0)))), (q5, .inl (cA 0, (60, .inl (fun _ => 0)))), (q6, .inl (cA 0, (6, .inl (fun _ => 0))))] H := hP
  have hD : va_D A [(h0, .inr (6, [.int 0, .int 0, .int 0, .ref q1, .ref q2, .ref q3, .ref q4, .ref q5, .null, .null, .int 0, .int 0, .null, .int 0, .int 0, .int 0, .int 0, .int 0, .int 0, .null, .null, .int 0, .int 0, .null, .null, .null, .null, .null, .null, .int 0, .int 0, .int 0, .null, .long 0, .long 0])), (q1, .inl (cA 0, (60, .inl (fun _ => 0)))), (q2, .inl (cA 0, (60, .inl (fun _ => 0)))), (q3, .inl (cA 0, (60, .inl (fun _ => 0)))), (q4, .inl (cA 0, (60, .inl (fun _ => 0)))), (q5, .inl (cA 0, (60, .inl (fun _ => 0)))), (q6, .inl (cA 0, (6, .inl (fun _ => 0))))] := hD
  refine va_putF (D := D) (ci := 6) (v := .ref q6) (ty := .array .int) (C := tk_cn 6) (T := tk_T 6) (N := 35) (ref := tk_cn 6) hx hb hts (tk_in_ws 6 (by decide)) (tk_ty 6) (tk_tyok 6 (by decide)) (tk_nm 6 (by decide)) hown hK hP hD hS 0 rfl rfl 8 (by decide) (hts _ (tk_tb (tk_fws _ (List.mem_map.mpr ⟨(6, 25, 8), by decide, rfl⟩)) rfl)) (fun _ h9 => h9) rfl hin rfl (by decide +kernel) rfl rfl (Nat.le_of_ble_eq_true rfl) di_6_49 (fun H locs hP hD hS => ?_)
  have hP : va_P D tk_cls [(h0, .inr (6, [.int 0, .int 0, .int 0, .ref q1, .ref q2, .ref q3, .ref q4, .ref q5, .ref q6, .null, .int 0, .int 0, .null, .int 0, .int 0, .int 0, .int 0, .int 0, .int 0, .null, .null, .int 0, .int 0, .null, .null, .null, .null, .null, .null, .int 0, .int 0, .int 0, .null, .long 0, .long 0])), (q1, .inl (cA 0, (60, .inl (fun _ => 0)))), (q2, .inl (cA 0, (60, .inl (fun _ => 0)))), (q3, .inl (cA 0, (60, .inl (fun _ => 0)))), (q4, .inl (cA 0, (60, .inl (fun _ => 0)))), (q5, .inl (cA 0, (60, .inl (fun _ => 0)))), (q6, .inl (cA 0, (6, .inl (fun _ => 0))))] H := hP
  have hD : va_D A [(h0, .inr (6, [.int 0, .int 0, .int 0, .ref q1, .ref q2, .ref q3, .ref q4, .ref q5, .ref q6, .null, .int 0, .int 0, .null, .int 0, .int 0, .int 0, .int 0, .int 0, .int 0, .null, .null, .int 0, .int 0, .null, .null, .null, .null, .null, .null, .int 0, .int 0, .int 0, .null, .long 0, .long 0])), (q1, .inl (cA 0, (60, .inl (fun _ => 0)))), (q2, .inl (cA 0, (60, .inl (fun _ => 0)))), (q3, .inl (cA 0, (60, .inl (fun _ => 0)))), (q4, .inl (cA 0, (60, .inl (fun _ => 0)))), (q5, .inl (cA 0, (60, .inl (fun _ => 0)))), (q6, .inl (cA 0, (6, .inl (fun _ => 0))))] := hD
  refine lv_aload_n hx hb di_6_52 rfl (lv_at hl 0 rfl) ?_
  refine lv_sipush (v := 320) hx hb di_6_53 (by decide) ?_
  refine va_newa (atype := .int) (a0 := (320, .inl (fun _ => 0))) hx hb (hts _ tk_arr3.1) (ty := .int) rfl hK hP hD hS hA (fun _ => rfl) (by decide) (by decide) (by decide) (Nat.le_of_ble_eq_true rfl) (Nat.le_of_ble_eq_true rfl) di_6_56 (fun q7 cB H hK hP hD hS => ?_)
  have hcB : cB = cA 0 := tk_same hK rfl (Or.inl rfl)
  subst hcB
  have hK := hK.sub (tys' := tk_tyl cA) [0, 1, 2] rfl
  have hP : va_P D tk_cls [(h0, .inr (6, [.int 0, .int 0, .int 0, .ref q1, .ref q2, .ref q3, .ref q4, .ref q5, .ref q6, .null, .int 0, .int 0, .null, .int 0, .int 0, .int 0, .int 0, .int 0, .int 0, .null, .null, .int 0, .int 0, .null, .null, .null, .null, .null, .null, .int 0, .int 0, .int 0, .null, .long 0, .long 0])), (q1, .inl (cA 0, (60, .inl (fun _ => 0)))), (q2, .inl (cA 0, (60, .inl (fun _ => 0)))), (q3, .inl (cA 0, (60, .inl (fun _ => 0)))), (q4, .inl (cA 0, (60, .inl (fun _ => 0)))), (q5, .inl (cA 0, (60, .inl (fun _ => 0)))), (q6, .inl (cA 0, (6, .inl (fun _ => 0)))), (q7, .inl (cA 0, (320, .inl (fun _ => 0))))] H := hP
  have hD : va_D A [(h0, .inr (6, [.int 0, .int 0, .int 0, .ref q1, .ref q2, .ref q3, .ref q4, .ref q5, .ref q6, .null, .int 0, .int 0, .null, .int 0, .int 0, .int 0, .int 0, .int 0, .int 0, .null, .null, .int 0, .int 0, .null, .null, .null, .null, .null, .null, .int 0, .int 0, .int 0, .null, .long 0, .long 0])), (q1, .inl (cA 0, (60, .inl (fun _ => 0)))), (q2, .inl (cA 0, (60, .inl (fun _ => 0)))), (q3, .inl (cA 0, (60, .inl (fun _ => 0)))), (q4, .inl (cA 0, (60, .inl (fun _ => 0)))), (q5, .inl (cA 0, (60, .inl (fun _ => 0)))), (q6, .inl (cA 0, (6, .inl (fun _ => 0)))), (q7, .inl (cA 0, (320, .inl (fun _ => 0))))] := hD
  refine va_putF (D := D) (ci := 6) (v := .ref q7) (ty := .array .int) (C := tk_cn 6) (T := tk_T 6) (N := 35) (ref := tk_cn 6) hx hb hts (tk_in_ws 6 (by decide)) (tk_ty 6) (tk_tyok 6 (by decide)) (tk_nm 6 (by decide)) hown hK hP hD hS 0 rfl rfl 9 (by decide) (hts _ (tk_tb (tk_fws _ (List.mem_map.mpr ⟨(6, 28, 9), by decide, rfl⟩)) rfl)) (fun _ h9 => h9) rfl hin rfl (by decide +kernel) rfl rfl (Nat.le_of_ble_eq_true rfl) di_6_58 (fun H locs hP hD hS => ?_)
  have hP : va_P D tk_cls [(h0, .inr (6, [.int 0, .int 0, .int 0, .ref q1, .ref q2, .ref q3, .ref q4, .ref q5, .ref q6, .ref q7, .int 0, .int 0, .null, .int 0, .int 0, .int 0, .int 0, .int 0, .int 0, .null, .null, .int 0, .int 0, .null, .null, .null, .null, .null, .null, .int 0, .int 0, .int 0, .null, .long 0, .long 0])), (q1, .inl (cA 0, (60, .inl (fun _ => 0)))), (q2, .inl (cA 0, (60, .inl (fun _ => 0)))), (q3, .inl (cA 0, (60, .inl (fun _ => 0)))), (q4, .inl (cA 0, (60, .inl (fun _ => 0)))), (q5, .inl (cA 0, (60, .inl (fun _ => 0)))), (q6, .inl (cA 0, (6, .inl (fun _ => 0)))), (q7, .inl (cA 0, (320, .inl (fun _ => 0))))] H := hP
  have hD : va_D A [(h0, .inr (6, [.int 0, .int 0, .int 0, .ref q1, .ref q2, .ref q3, .ref q4, .ref q5, .ref q6, .ref q7, .int 0, .int 0, .null, .int 0, .int 0, .int 0, .int 0, .int 0, .int 0, .null, .null, .int 0, .int 0, .null, .null, .null, .null, .null, .null, .int 0, .int 0, .int 0, .null, .long 0, .long 0])), (q1, .inl (cA 0, (60, .inl (fun _ => 0)))), (q2, .inl (cA 0, (60, .inl (fun _ => 0)))), (q3, .inl (cA 0, (60, .inl (fun _ => 0)))), (q4, .inl (cA 0, (60, .inl (fun _ => 0)))), (q5, .inl (cA 0, (60, .inl (fun _ => 0)))), (q6, .inl (cA 0, (6, .inl (fun _ => 0)))), (q7, .inl (cA 0, (320, .inl (fun _ => 0))))] := hD
  refine lv_aload_n hx hb di_6_61 rfl (lv_at hl 0 rfl) ?_
  refine lv_sipush (v := 1000) hx hb di_6_62 (by decide) ?_
  refine va_newa (atype := .byte) (a0 := (1000, .inl (fun _ => 0))) hx hb (hts _ tk_arr3.2.2) (ty := .byte) rfl hK hP hD hS hA (fun _ => rfl) (by decide) (by decide) (by decide) (Nat.le_of_ble_eq_true rfl) (Nat.le_of_ble_eq_true rfl) di_6_65 (fun q8 cB H hK hP hD hS => ?_)
  have hcB : cB = cA 2 := tk_same hK rfl (Or.inr (Or.inr rfl))
  subst hcB
  have hK := hK.sub (tys' := tk_tyl cA) [0, 1, 2] rfl
  have hP : va_P D tk_cls [(h0, .inr (6, [.int 0, .int 0, .int 0, .ref q1, .ref q2, .ref q3, .ref q4, .ref q5, .ref q6, .ref q7, .int 0, .int 0, .null, .int 0, .int 0, .int 0, .int 0, .int 0, .int 0, .null, .null, .int 0, .int 0, .null, .null, .null, .null, .null, .null, .int 0, .int 0, .int 0, .null, .long 0, .long 0])), (q1, .inl (cA 0, (60, .inl (fun _ => 0)))), (q2, .inl (cA 0, (60, .inl (fun _ => 0)))), (q3, .inl (cA 0, (60, .inl (fun _ => 0)))), (q4, .inl (cA 0, (60, .inl (fun _ => 0)))), (q5, .inl (cA 0, (60, .inl (fun _ => 0)))), (q6, .inl (cA 0, (6, .inl (fun _ => 0)))), (q7, .inl (cA 0, (320, .inl (fun _ => 0)))), (q8, .inl (cA 2, (1000, .inl (fun _ => 0))))] H := hP
  have hD : va_D A [(h0, .inr (6, [.int 0, .int 0, .int 0, .ref q1, .ref q2, .ref q3, .ref q4, .ref q5, .ref q6, .ref q7, .int 0, .int 0, .null, .int 0, .int 0, .int 0, .int 0, .int 0, .int 0, .null, .null, .int 0, .int 0, .null, .null, .null, .null, .null, .null, .int 0, .int 0, .int 0, .null, .long 0, .long 0])), (q1, .inl (cA 0, (60, .inl (fun _ => 0)))), (q2, .inl (cA 0, (60, .inl (fun _ => 0)))), (q3, .inl (cA 0, (60, .inl (fun _ => 0)))), (q4, .inl (cA 0, (60, .inl (fun _ => 0)))), (q5, .inl (cA 0, (60, .inl (fun _ => 0)))), (q6, .inl (cA 0, (6, .inl (fun _ => 0)))), (q7, .inl (cA 0, (320, .inl (fun _ => 0)))), (q8, .inl (cA 2, (1000, .inl (fun _ => 0))))] := hD
  refine va_putF (D := D) (ci := 6) (v := .ref q8) (ty := .array .byte) (C := tk_cn 6) (T := tk_T 6) (N := 35) (ref := tk_cn 6) hx hb hts (tk_in_ws 6 (by decide)) (tk_ty 6) (tk_tyok 6 (by decide)) (tk_nm 6 (by decide)) hown hK hP hD hS 0 rfl rfl 12 (by decide) (hts _ (tk_tb (tk_fws _ (List.mem_map.mpr ⟨(6, 31, 12), by decide, rfl⟩)) rfl)) (fun _ h9 => h9) rfl hin rfl (by decide +kernel) rfl rfl (Nat.le_of_ble_eq_true rfl) di_6_67 (fun H locs hP hD hS => ?_)
  have hP : va_P D tk_cls [(h0, .inr (6, [.int 0, .int 0, .int 0, .ref q1, .ref q2, .ref q3, .ref q4, .ref q5, .ref q6, .ref q7, .int 0, .int 0, .ref q8, .int 0, .int 0, .int 0, .int 0, .int 0, .int 0, .null, .null, .int 0, .int 0, .null, .null, .null, .null, .null, .null, .int 0, .int 0, .int 0, .null, .long 0, .long 0])), (q1, .inl (cA 0, (60, .inl (fun _ => 0)))), (q2, .inl (cA 0, (60, .inl (fun _ => 0)))), (q3, .inl (cA 0, (60, .inl (fun _ => 0)))), (q4, .inl (cA 0, (60, .inl (fun _ => 0)))), (q5, .inl (cA 0, (60, .inl (fun _ => 0)))), (q6, .inl (cA 0, (6, .inl (fun _ => 0)))), (q7, .inl (cA 0, (320, .inl (fun _ => 0)))), (q8, .inl (cA 2, (1000, .inl (fun _ => 0))))] H := hP
  have hD : va_D A [(h0, .inr (6, [.int 0, .int 0, .int 0, .ref q1, .ref q2, .ref q3, .ref q4, .ref q5, .ref q6, .ref q7, .int 0, .int 0, .ref q8, .int 0, .int 0, .int 0, .int 0, .int 0, .int 0, .null, .null, .int 0, .int 0, .null, .null, .null, .null, .null, .null, .int 0, .int 0, .int 0, .null, .long 0, .long 0])), (q1, .inl (cA 0, (60, .inl (fun _ => 0)))), (q2, .inl (cA 0, (60, .inl (fun _ => 0)))), (q3, .inl (cA 0, (60, .inl (fun _ => 0)))), (q4, .inl (cA 0, (60, .inl (fun _ => 0)))), (q5, .inl (cA 0, (60, .inl (fun _ => 0)))), (q6, .inl (cA 0, (6, .inl (fun _ => 0)))), (q7, .inl (cA 0, (320, .inl (fun _ => 0)))), (q8, .inl (cA 2, (1000, .inl (fun _ => 0))))] := hD
  refine lv_aload_n hx hb di_6_70 rfl (lv_at hl 0 rfl) ?_
  refine lv_iconst (v := 4) hx hb di_6_71 (by decide) ?_
  refine va_newa (atype := .int) (a0 := (4, .inl (fun _ => 0))) hx hb (hts _ tk_arr3.1) (ty := .int) rfl hK hP hD hS hA (fun _ => rfl) (by decide) (by decide) (by decide) (Nat.le_of_ble_eq_true rfl) (Nat.le_of_ble_eq_true rfl) di_6_72 (fun q9 cB H hK hP hD hS => ?_)
  have hcB : cB = cA 0 := tk_same hK rfl (Or.inl rfl)
  subst hcB
  have hK := hK.sub (tys' := tk_tyl cA) [0, 1, 2] rfl
  have hP : va_P D tk_cls [(h0, .inr (6, [.int 0, .int 0, .int 0, .ref q1, .ref q2, .ref q3, .ref q4, .ref q5, .ref q6, .ref q7, .int 0, .int 0, .ref q8, .int 0, .int 0, .int 0, .int 0, .int 0, .int 0, .null, .null, .int 0, .int 0, .null, .null, .null, .null, .null, .null, .int 0, .int 0, .int 0, .null, .long 0, .long 0])), (q1, .inl (cA 0, (60, .inl (fun _ => 0)))), (q2, .inl (cA 0, (60, .inl (fun _ => 0)))), (q3, .inl (cA 0, (60, .inl (fun _ => 0)))), (q4, .inl (cA 0, (60, .inl (fun _ => 0)))), (q5, .inl (cA 0, (60, .inl (fun _ => 0)))), (q6, .inl (cA 0, (6, .inl (fun _ => 0)))), (q7, .inl (cA 0, (320, .inl (fun _ => 0)))), (q8, .inl (cA 2, (1000, .inl (fun _ => 0)))), (q9, .inl (cA 0, (4, .inl (fun _ => 0))))] H := hP
  have hD : va_D A [(h0, .inr (6, [.int 0, .int 0, .int 0, .ref q1, .ref q2, .ref q3, .ref q4, .ref q5, .ref q6, .ref q7, .int 0, .int 0, .ref q8, .int 0, .int 0, .int 0, .int 0, .int 0, .int 0, .null, .null, .int 0, .int 0, .null, .null, .null, .null, .null, .null, .int 0, .int 0, .int 0, .null, .long 0, .long 0])), (q1, .inl (cA 0, (60, .inl (fun _ => 0)))), (q2, .inl (cA 0, (60, .inl (fun _ => 0)))), (q3, .inl (cA 0, (60, .inl (fun _ => 0)))), (q4, .inl (cA 0, (60, .inl (fun _ => 0)))), (q5, .inl (cA 0, (60, .inl (fun _ => 0)))), (q6, .inl (cA 0, (6, .inl (fun _ => 0)))), (q7, .inl (cA 0, (320, .inl (fun _ => 0)))), (q8, .inl (cA 2, (1000, .inl (fun _ => 0)))), (q9, .inl (cA 0, (4, .inl (fun _ => 0))))] := hD
  refine va_putF (D := D) (ci := 6) (v := .ref q9) (ty := .array .int) (C := tk_cn 6) (T := tk_T 6) (N := 35) (ref := tk_cn 6) hx hb hts (tk_in_ws 6 (by decide)) (tk_ty 6) (tk_tyok 6 (by decide)) (tk_nm 6 (by decide)) hown hK hP hD hS 0 rfl rfl 19 (by decide) (hts _ (tk_tb (tk_fws _ (List.mem_map.mpr ⟨(6, 35, 19), by decide, rfl⟩)) rfl)) (fun _ h9 => h9) rfl hin rfl (by decide +kernel) rfl rfl (Nat.le_of_ble_eq_true rfl) di_6_74 (fun H locs hP hD hS => ?_)
  have hP : va_P D tk_cls [(h0, .inr (6, [.int 0, .int 0, .int 0, .ref q1, .ref q2, .ref q3, .ref q4, .ref q5, .ref q6, .ref q7, .int 0, .int 0, .ref q8, .int 0, .int 0, .int 0, .int 0, .int 0, .int 0, .ref q9, .null, .int 0, .int 0, .null, .null, .null, .null, .null, .null, .int 0, .int 0, .int 0, .null, .long 0, .long 0])), (q1, .inl (cA 0, (60, .inl (fun _ => 0)))), (q2, .inl (cA 0, (60, .inl (fun _ => 0)))), (q3, .inl (cA 0, (60, .inl (fun _ => 0)))), (q4, .inl (cA 0, (60, .inl (fun _ => 0)))), (q5, .inl (cA 0, (60, .inl (fun _ => 0)))), (q6, .inl (cA 0, (6, .inl (fun _ => 0)))), (q7, .inl (cA 0, (320, .inl (fun _ => 0)))), (q8, .inl (cA 2, (1000, .inl (fun _ => 0)))), (q9, .inl (cA 0, (4, .inl (fun _ => 0))))] H := hP
  have hD : va_D A [(h0, .inr (6, [.int 0, .int 0, .int 0, .ref q1, .ref q2, .ref q3, .ref q4, .ref q5, .ref q6, .ref q7, .int 0, .int 0, .ref q8, .int 0, .int 0, .int 0, .int 0, .int 0, .int 0, .ref q9, .null, .int 0, .int 0, .null, .null, .null, .null, .null, .null, .int 0, .int 0, .int 0, .null, .long 0, .long 0])), (q1, .inl (cA 0, (60, .inl (fun _ => 0)))), (q2, .inl (cA 0, (60, .inl (fun _ => 0)))), (q3, .inl (cA 0, (60, .inl (fun _ => 0)))), (q4, .inl (cA 0, (60, .inl (fun _ => 0)))), (q5, .inl (cA 0, (60, .inl (fun _ => 0)))), (q6, .inl (cA 0, (6, .inl (fun _ => 0)))), (q7, .inl (cA 0, (320, .inl (fun _ => 0)))), (q8, .inl (cA 2, (1000, .inl (fun _ => 0)))), (q9, .inl (cA 0, (4, .inl (fun _ => 0))))] := hD
  refine lv_aload_n hx hb di_6_77 rfl (lv_at hl 0 rfl) ?_
  refine lv_sipush (v := 256) hx hb di_6_78 (by decide) ?_
  refine va_newa (atype := .long) (a0 := (256, .inr (.inl (fun _ => 0)))) hx hb (hts _ tk_arr3.2.1) (ty := .long) rfl hK hP hD hS hA (fun _ => rfl) (by decide) (by decide) (by decide) (Nat.le_of_ble_eq_true rfl) (Nat.le_of_ble_eq_true rfl) di_6_81 (fun q10 cB H hK hP hD hS => ?_)
  have hcB : cB = cA 1 := tk_same hK rfl (Or.inr (Or.inl rfl))
  subst hcB
  have hK := hK.sub (tys' := tk_tyl cA) [0, 1, 2] rfl
  have hP : va_P D tk_cls [(h0, .inr (6, [.int 0, .int 0, .int 0, .ref q1, .ref q2, .ref q3, .ref q4, .ref q5, .ref q6, .ref q7, .int 0, .int 0, .ref q8, .int 0, .int 0, .int 0, .int 0, .int 0, .int 0, .ref q9, .null, .int 0, .int 0, .null, .null, .null, .null, .null, .null, .int 0, .int 0, .int 0, .null, .long 0, .long 0])), (q1, .inl (cA 0, (60, .inl (fun _ => 0)))), (q2, .inl (cA 0, (60, .inl (fun _ => 0)))), (q3, .inl (cA 0, (60, .inl (fun _ => 0)))), (q4, .inl (cA 0, (60, .inl (fun _ => 0)))), (q5, .inl (cA 0, (60, .inl (fun _ => 0)))), (q6, .inl (cA 0, (6, .inl (fun _ => 0)))), (q7, .inl (cA 0, (320, .inl (fun _ => 0)))), (q8, .inl (cA 2, (1000, .inl (fun _ => 0)))), (q9, .inl (cA 0, (4, .inl (fun _ => 0)))), (q10, .inl (cA 1, (256, .inr (.inl (fun _ => 0)))))] H := hP
  have hD : va_D A [(h0, .inr (6, [.int 0, .int 0, .int 0, .ref q1, .ref q2, .ref q3, .ref q4, .ref q5, .ref q6, .ref q7, .int 0, .int 0, .ref q8, .int 0, .int 0, .int 0, .int 0, .int 0, .int 0, .ref q9, .null, .int 0, .int 0, .null, .null, .null, .null, .null, .null, .int 0, .int 0, .int 0, .null, .long 0, .long 0])), (q1, .inl (cA 0, (60, .inl (fun _ => 0)))), (q2, .inl (cA 0, (60, .inl (fun _ => 0)))), (q3, .inl (cA 0, (60, .inl (fun _ => 0)))), (q4, .inl (cA 0, (60, .inl (fun _ => 0)))), (q5, .inl (cA 0, (60, .inl (fun _ => 0)))), (q6, .inl (cA 0, (6, .inl (fun _ => 0)))), (q7, .inl (cA 0, (320, .inl (fun _ => 0)))), (q8, .inl (cA 2, (1000, .inl (fun _ => 0)))), (q9, .inl (cA 0, (4, .inl (fun _ => 0)))), (q10, .inl (cA 1, (256, .inr (.inl (fun _ => 0)))))] := hD
  refine va_putF (D := D) (ci := 6) (v := .ref q10) (ty := .array .long) (C := tk_cn 6) (T := tk_T 6) (N := 35) (ref := tk_cn 6) hx hb hts (tk_in_ws 6 (by decide)) (tk_ty 6) (tk_tyok 6 (by decide)) (tk_nm 6 (by decide)) hown hK hP hD hS 0 rfl rfl 20 (by decide) (hts _ (tk_tb (tk_fws _ (List.mem_map.mpr ⟨(6, 38, 20), by decide, rfl⟩)) rfl)) (fun _ h9 => h9) rfl hin rfl (by decide +kernel) rfl rfl (Nat.le_of_ble_eq_true rfl) di_6_83 (fun H locs hP hD hS => ?_)
  have hP : va_P D tk_cls [(h0, .inr (6, [.int 0, .int 0, .int 0, .ref q1, .ref q2, .ref q3, .ref q4, .ref q5, .ref q6, .ref q7, .int 0, .int 0, .ref q8, .int 0, .int 0, .int 0, .int 0, .int 0, .int 0, .ref q9, .ref q10, .int 0, .int 0, .null, .null, .null, .null, .null, .null, .int 0, .int 0, .int 0, .null, .long 0, .long 0])), (q1, .inl (cA 0, (60, .inl (fun _ => 0)))), (q2, .inl (cA 0, (60, .inl (fun _ => 0)))), (q3, .inl (cA 0, (60, .inl (fun _ => 0)))), (q4, .inl (cA 0, (60, .inl (fun _ => 0)))), (q5, .inl (cA 0, (60, .inl (fun _ => 0)))), (q6, .inl (cA 0, (6, .inl (fun _ => 0)))), (q7, .inl (cA 0, (320, .inl (fun _ => 0)))), (q8, .inl (cA 2, (1000, .inl (fun _ => 0)))), (q9, .inl (cA 0, (4, .inl (fun _ => 0)))), (q10, .inl (cA 1, (256, .inr (.inl (fun _ => 0)))))] H := hP
  have hD : va_D A [(h0, .inr (6, [.int 0, .int 0, .int 0, .ref q1, .ref q2, .ref q3, .ref q4, .ref q5, .ref q6, .ref q7, .int 0, .int 0, .ref q8, .int 0, .int 0, .int 0, .int 0, .int 0, .int 0, .ref q9, .ref q10, .int 0, .int 0, .null, .null, .null, .null, .null, .null, .int 0, .int 0, .int 0, .null, .long 0, .long 0])), (q1, .inl (cA 0, (60, .inl (fun _ => 0)))), (q2, .inl (cA 0, (60, .inl (fun _ => 0)))), (q3, .inl (cA 0, (60, .inl (fun _ => 0)))), (q4, .inl (cA 0, (60, .inl (fun _ => 0)))), (q5, .inl (cA 0, (60, .inl (fun _ => 0)))), (q6, .inl (cA 0, (6, .inl (fun _ => 0)))), (q7, .inl (cA 0, (320, .inl (fun _ => 0)))), (q8, .inl (cA 2, (1000, .inl (fun _ => 0)))), (q9, .inl (cA 0, (4, .inl (fun _ => 0)))), (q10, .inl (cA 1, (256, .inr (.inl (fun _ => 0)))))] := hD
  refine lv_aload_n hx hb di_6_86 rfl (lv_at hl 0 rfl) ?_
  refine lv_sipush (v := 256) hx hb di_6_87 (by decide) ?_
  refine va_newa (atype := .long) (a0 := (256, .inr (.inl (fun _ => 0)))) hx hb (hts _ tk_arr3.2.1) (ty := .long) rfl hK hP hD hS hA (fun _ => rfl) (by decide) (by decide) (by decide) (Nat.le_of_ble_eq_true rfl) (Nat.le_of_ble_eq_true rfl) di_6_90 (fun q11 cB H hK hP hD hS => ?_)
  have hcB : cB = cA 1 := tk_same hK rfl (Or.inr (Or.inl rfl))
  subst hcB
  have hK := hK.sub (tys' := tk_tyl cA) [0, 1, 2] rfl
  have hP : va_P D tk_cls [(h0, .inr (6, [.int 0, .int 0, .int 0, .ref q1, .ref q2, .ref q3, .ref q4, .ref q5, .ref q6, .ref q7, .int 0, .int 0, .ref q8, .int 0, .int 0, .int 0, .int 0, .int 0, .int 0, .ref q9, .ref q10, .int 0, .int 0, .null, .null, .null, .null, .null, .null, .int 0, .int 0, .int 0, .null, .long 0, .long 0])), (q1, .inl (cA 0, (60, .inl (fun _ => 0)))), (q2, .inl (cA 0, (60, .inl (fun _ => 0)))), (q3, .inl (cA 0, (60, .inl (fun _ => 0)))), (q4, .inl (cA 0, (60, .inl (fun _ => 0)))), (q5, .inl (cA 0, (60, .inl (fun _ => 0)))), (q6, .inl (cA 0, (6, .inl (fun _ => 0)))), (q7, .inl (cA 0, (320, .inl (fun _ => 0)))), (q8, .inl (cA 2, (1000, .inl (fun _ => 0)))), (q9, .inl (cA 0, (4, .inl (fun _ => 0)))), (q10, .inl (cA 1, (256, .inr (.inl (fun _ => 0))))), (q11, .inl (cA 1, (256, .inr (.inl (fun _ => 0)))))] H := hP
  have hD : va_D A [(h0, .inr (6, [.int 0, .int 0, .int 0, .ref q1, .ref q2, .ref q3, .ref q4, .ref q5, .ref q6, .ref q7, .int 0, .int 0, .ref q8, .int 0, .int 0, .int 0, .int 0, .int 0, .int 0, .ref q9, .ref q10, .int 0, .int 0, .null, .null, .null, .null, .null, .null, .int 0, .int 0, .int 0, .null, .long 0, .long 0])), (q1, .inl (cA 0, (60, .inl (fun _ => 0)))), (q2, .inl (cA 0, (60, .inl (fun _ => 0)))), (q3, .inl (cA 0, (60, .inl (fun _ => 0)))), (q4, .inl (cA 0, (60, .inl (fun _ => 0)))), (q5, .inl (cA 0, (60, .inl (fun _ => 0)))), (q6, .inl (cA 0, (6, .inl (fun _ => 0)))), (q7, .inl (cA 0, (320, .inl (fun _ => 0)))), (q8, .inl (cA 2, (1000, .inl (fun _ => 0)))), (q9, .inl (cA 0, (4, .inl (fun _ => 0)))), (q10, .inl (cA 1, (256, .inr (.inl (fun _ => 0))))), (q11, .inl (cA 1, (256, .inr (.inl (fun _ => 0)))))] := hD
  refine va_putF (D := D) (ci := 6) (v := .ref q11) (ty := .array .long) (C := tk_cn 6) (T := tk_T 6) (N := 35) (ref := tk_cn 6) hx hb hts (tk_in_ws 6 (by decide)) (tk_ty 6) (tk_tyok 6 (by decide)) (tk_nm 6 (by decide)) hown hK hP hD hS 0 rfl rfl 23 (by decide) (hts _ (tk_tb (tk_fws _ (List.mem_map.mpr ⟨(6, 42, 23), by decide, rfl⟩)) rfl)) (fun _ h9 => h9) rfl hin rfl (by decide +kernel) rfl rfl (Nat.le_of_ble_eq_true rfl) di_6_92 (fun H locs hP hD hS => ?_)
  have hP : va_P D tk_cls [(h0, .inr (6, [.int 0, .int 0, .int 0, .ref q1, .ref q2, .ref q3, .ref q4, .ref q5, .ref q6, .ref q7, .int 0, .int 0, .ref q8, .int 0, .int 0, .int 0, .int 0, .int 0, .int 0, .ref q9, .ref q10, .int 0, .int 0, .ref q11, .null, .null, .null, .null, .null, .int 0, .int 0, .int 0, .null, .long 0, .long 0])), (q1, .inl (cA 0, (60, .inl (fun _ => 0)))), (q2, .inl (cA 0, (60, .inl (fun _ => 0)))), (q3, .inl (cA 0, (60, .inl (fun _ => 0)))), (q4, .inl (cA 0, (60, .inl (fun _ => 0)))), (q5, .inl (cA 0, (60, .inl (fun _ => 0)))), (q6, .inl (cA 0, (6, .inl (fun _ => 0)))), (q7, .inl (cA 0, (320, .inl (fun _ => 0)))), (q8, .inl (cA 2, (1000, .inl (fun _ => 0)))), (q9, .inl (cA 0, (4, .inl (fun _ => 0)))), (q10, .inl (cA 1, (256, .inr (.inl (fun _ => 0))))), (q11, .inl (cA 1, (256, .inr (.inl (fun _ => 0)))))] H := hP
  have hD : va_D A [(h0, .inr (6, [.int 0, .int 0, .int 0, .ref q1, .ref q2, .ref q3, .ref q4, .ref q5, .ref q6, .ref q7, .int 0, .int 0, .ref q8, .int 0, .int 0, .int 0, .int 0, .int 0, .int 0, .ref q9, .ref q10, .int 0, .int 0, .ref q11, .null, .null, .null, .null, .null, .int 0, .int 0, .int 0, .null, .long 0, .long 0])), (q1, .inl (cA 0, (60, .inl (fun _ => 0)))), (q2, .inl (cA 0, (60, .inl (fun _ => 0)))), (q3, .inl (cA 0, (60, .inl (fun _ => 0)))), (q4, .inl (cA 0, (60, .inl (fun _ => 0)))), (q5, .inl (cA 0, (60, .inl (fun _ => 0)))), (q6, .inl (cA 0, (6, .inl (fun _ => 0)))), (q7, .inl (cA 0, (320, .inl (fun _ => 0)))), (q8, .inl (cA 2, (1000, .inl (fun _ => 0)))), (q9, .inl (cA 0, (4, .inl (fun _ => 0)))), (q10, .inl (cA 1, (256, .inr (.inl (fun _ => 0))))), (q11, .inl (cA 1, (256, .inr (.inl (fun _ => 0)))))] := hD
  refine lv_aload_n hx hb di_6_95 rfl (lv_at hl 0 rfl) ?_
  refine lv_bipush (v := 96) hx hb di_6_96 (by decide) ?_
  refine va_newa (atype := .long) (a0 := (96, .inr (.inl (fun _ => 0)))) hx hb (hts _ tk_arr3.2.1) (ty := .long) rfl hK hP hD hS hA (fun _ => rfl) (by decide) (by decide) (by decide) (Nat.le_of_ble_eq_true rfl) (Nat.le_of_ble_eq_true rfl) di_6_98 (fun q12 cB H hK hP hD hS => ?_)
  have hcB : cB = cA 1 := tk_same hK rfl (Or.inr (Or.inl rfl))
  subst hcB
  have hK := hK.sub (tys' := tk_tyl cA) [0, 1, 2] rfl
  have hP : va_P D tk_cls [(h0, .inr (6, [.int 0, .int 0, .int 0, .ref q1, .ref q2, .ref q3, .ref q4, .ref q5, .ref q6, .ref q7, .int 0, .int 0, .ref q8, .int 0, .int 0, .int 0, .int 0, .int 0, .int 0, .ref q9, .ref q10, .int 0, .int 0, .ref q11, .null, .null, .null, .null, .null, .int 0, .int 0, .int 0, .null, .long 0, .long 0])), (q1, .inl (cA 0, (60, .inl (fun _ => 0)))), (q2, .inl (cA 0, (60, .inl (fun _ => 0)))), (q3, .inl (cA 0, (60, .inl (fun _ => 0)))), (q4, .inl (cA 0, (60, .inl (fun _ => 0)))), (q5, .inl (cA 0, (60, .inl (fun _ => 0)))), (q6, .inl (cA 0, (6, .inl (fun _ => 0)))), (q7, .inl (cA 0, (320, .inl (fun _ => 0)))), (q8, .inl (cA 2, (1000, .inl (fun _ => 0)))), (q9, .inl (cA 0, (4, .inl (fun _ => 0)))), (q10, .inl (cA 1, (256, .inr (.inl (fun _ => 0))))), (q11, .inl (cA 1, (256, .inr (.inl (fun _ => 0))))), (q12, .inl (cA 1, (96, .inr (.inl (fun _ => 0)))))] H := hP
  have hD : va_D A [(h0, .inr (6, [.int 0, .int 0, .int 0, .ref q1, .ref q2, .ref q3, .ref q4, .ref q5, .ref q6, .ref q7, .int 0, .int 0, .ref q8, .int 0, .int 0, .int 0, .int 0, .int 0, .int 0, .ref q9, .ref q10, .int 0, .int 0, .ref q11, .null, .null, .null, .null, .null, .int 0, .int 0, .int 0, .null, .long 0, .long 0])), (q1, .inl (cA 0, (60, .inl (fun _ => 0)))), (q2, .inl (cA 0, (60, .inl (fun _ => 0)))), (q3, .inl (cA 0, (60, .inl (fun _ => 0)))), (q4, .inl (cA 0, (60, .inl (fun _ => 0)))), (q5, .inl (cA 0, (60, .inl (fun _ => 0)))), (q6, .inl (cA 0, (6, .inl (fun _ => 0)))), (q7, .inl (cA 0, (320, .inl (fun _ => 0)))), (q8, .inl (cA 2, (1000, .inl (fun _ => 0)))), (q9, .inl (cA 0, (4, .inl (fun _ => 0)))), (q10, .inl (cA 1, (256, .inr (.inl (fun _ => 0))))), (q11, .inl (cA 1, (256, .inr (.inl (fun _ => 0))))), (q12, .inl (cA 1, (96, .inr (.inl (fun _ => 0)))))] := hD
  refine va_putF (D := D) (ci := 6) (v := .ref q12) (ty := .array .long) (C := tk_cn 6) (T := tk_T 6) (N := 35) (ref := tk_cn 6) hx hb hts (tk_in_ws 6 (by decide)) (tk_ty 6) (tk_tyok 6 (by decide)) (tk_nm 6 (by decide)) hown hK hP hD hS 0 rfl rfl 24 (by decide) (hts _ (tk_tb (tk_fws _ (List.mem_map.mpr ⟨(6, 45, 24), by decide, rfl⟩)) rfl)) (fun _ h9 => h9) rfl hin rfl (by decide +kernel) rfl rfl (Nat.le_of_ble_eq_true rfl) di_6_100 (fun H locs hP hD hS => ?_)
  have hP : va_P D tk_cls [(h0, .inr (6, [.int 0, .int 0, .int 0, .ref q1, .ref q2, .ref q3, .ref q4, .ref q5, .ref q6, .ref q7, .int 0, .int 0, .ref q8, .int 0, .int 0, .int 0, .int 0, .int 0, .int 0, .ref q9, .ref q10, .int 0, .int 0, .ref q11, .ref q12, .null, .null, .null, .null, .int 0, .int 0, .int 0, .null, .long 0, .long 0])), (q1, .inl (cA 0, (60, .inl (fun _ => 0)))), (q2, .inl (cA 0, (60, .inl (fun _ => 0)))), (q3, .inl (cA 0, (60, .inl (fun _ => 0)))), (q4, .inl (cA 0, (60, .inl (fun _ => 0)))), (q5, .inl (cA 0, (60, .inl (fun _ => 0)))), (q6, .inl (cA 0, (6, .inl (fun _ => 0)))), (q7, .inl (cA 0, (320, .inl (fun _ => 0)))), (q8, .inl (cA 2, (1000, .inl (fun _ => 0)))), (q9, .inl (cA 0, (4, .inl (fun _ => 0)))), (q10, .inl (cA 1, (256, .inr (.inl (fun _ => 0))))), (q11, .inl (cA 1, (256, .inr (.inl (fun _ => 0))))), (q12, .inl (cA 1, (96, .inr (.inl (fun _ => 0)))))] H := hP
  have hD : va_D A [(h0, .inr (6, [.int 0, .int 0, .int 0, .ref q1, .ref q2, .ref q3, .ref q4, .ref q5, .ref q6, .ref q7, .int 0, .int 0, .ref q8, .int 0, .int 0, .int 0, .int 0, .int 0, .int 0, .ref q9, .ref q10, .int 0, .int 0, .ref q11, .ref q12, .null, .null, .null, .null, .int 0, .int 0, .int 0, .null, .long 0, .long 0])), (q1, .inl (cA 0, (60, .inl (fun _ => 0)))), (q2, .inl (cA 0, (60, .inl (fun _ => 0)))), (q3, .inl (cA 0, (60, .inl (fun _ => 0)))), (q4, .inl (cA 0, (60, .inl (fun _ => 0)))), (q5, .inl (cA 0, (60, .inl (fun _ => 0)))), (q6, .inl (cA 0, (6, .inl (fun _ => 0)))), (q7, .inl (cA 0, (320, .inl (fun _ => 0)))), (q8, .inl (cA 2, (1000, .inl (fun _ => 0)))), (q9, .inl (cA 0, (4, .inl (fun _ => 0)))), (q10, .inl (cA 1, (256, .inr (.inl (fun _ => 0))))), (q11, .inl (cA 1, (256, .inr (.inl (fun _ => 0))))), (q12, .inl (cA 1, (96, .inr (.inl (fun _ => 0)))))] := hD
  refine lv_aload_n hx hb di_6_103 rfl (lv_at hl 0 rfl) ?_
  refine lv_sipush (v := 256) hx hb di_6_104 (by decide) ?_
  refine va_newa (atype := .long) (a0 := (256, .inr (.inl (fun _ => 0)))) hx hb (hts _ tk_arr3.2.1) (ty := .long) rfl hK hP hD hS hA (fun _ => rfl) (by decide) (by decide) (by decide) (Nat.le_of_ble_eq_true rfl) (Nat.le_of_ble_eq_true rfl) di_6_107 (fun q13 cB H hK hP hD hS => ?_)
  have hcB : cB = cA 1 := tk_same hK rfl (Or.inr (Or.inl rfl))
  subst hcB
  have hK := hK.sub (tys' := tk_tyl cA) [0, 1, 2] rfl
  have hP : va_P D tk_cls [(h0, .inr (6, [.int 0, .int 0, .int 0, .ref q1, .ref q2, .ref q3, .ref q4, .ref q5, .ref q6, .ref q7, .int 0, .int 0, .ref q8, .int 0, .int 0, .int 0, .int 0, .int 0, .int 0, .ref q9, .ref q10, .int 0, .int 0, .ref q11, .ref q12, .null, .null, .null, .null, .int 0, .int 0, .int 0, .null, .long 0, .long 0])), (q1, .inl (cA 0, (60, .inl (fun _ => 0)))), (q2, .inl (cA 0, (60, .inl (fun _ => 0)))), (q3, .inl (cA 0, (60, .inl (fun _ => 0)))), (q4, .inl (cA 0, (60, .inl (fun _ => 0)))), (q5, .inl (cA 0, (60, .inl (fun _ => 0)))), (q6, .inl (cA 0, (6, .inl (fun _ => 0)))), (q7, .inl (cA 0, (320, .inl (fun _ => 0)))), (q8, .inl (cA 2, (1000, .inl (fun _ => 0)))), (q9, .inl (cA 0, (4, .inl (fun _ => 0)))), (q10, .inl (cA 1, (256, .inr (.inl (fun _ => 0))))), (q11, .inl (cA 1, (256, .inr (.inl (fun _ => 0))))), (q12, .inl (cA 1, (96, .inr (.inl (fun _ => 0))))), (q13, .inl (cA 1, (256, .inr (.inl (fun _ => 0)))))] H := hP
  have hD : va_D A [(h0, .inr (6, [.int 0, .int 0, .int 0, .ref q1, .ref q2, .ref q3, .ref q4, .ref q5, .ref q6, .ref q7, .int 0, .int 0, .ref q8, .int 0, .int 0, .int 0, .int 0, .int 0, .int 0, .ref q9, .ref q10, .int 0, .int 0, .ref q11, .ref q12, .null, .null, .null, .null, .int 0, .int 0, .int 0, .null, .long 0, .long 0])), (q1, .inl (cA 0, (60, .inl (fun _ => 0)))), (q2, .inl (cA 0, (60, .inl (fun _ => 0)))), (q3, .inl (cA 0, (60, .inl (fun _ => 0)))), (q4, .inl (cA 0, (60, .inl (fun _ => 0)))), (q5, .inl (cA 0, (60, .inl (fun _ => 0)))), (q6, .inl (cA 0, (6, .inl (fun _ => 0)))), (q7, .inl (cA 0, (320, .inl (fun _ => 0)))), (q8, .inl (cA 2, (1000, .inl (fun _ => 0)))), (q9, .inl (cA 0, (4, .inl (fun _ => 0)))), (q10, .inl (cA 1, (256, .inr (.inl (fun _ => 0))))), (q11, .inl (cA 1, (256, .inr (.inl (fun _ => 0))))), (q12, .inl (cA 1, (96, .inr (.inl (fun _ => 0))))), (q13, .inl (cA 1, (256, .inr (.inl (fun _ => 0)))))] := hD
  refine va_putF (D := D) (ci := 6) (v := .ref q13) (ty := .array .long) (C := tk_cn 6) (T := tk_T 6) (N := 35) (ref := tk_cn 6) hx hb hts (tk_in_ws 6 (by decide)) (tk_ty 6) (tk_tyok 6 (by decide)) (tk_nm 6 (by decide)) hown hK hP hD hS 0 rfl rfl 25 (by decide) (hts _ (tk_tb (tk_fws _ (List.mem_map.mpr ⟨(6, 48, 25), by decide, rfl⟩)) rfl)) (fun _ h9 => h9) rfl hin rfl (by decide +kernel) rfl rfl (Nat.le_of_ble_eq_true rfl) di_6_109 (fun H locs hP hD hS => ?_)
  have hP : va_P D tk_cls [(h0, .inr (6, [.int 0, .int 0, .int 0, .ref q1, .ref q2, .ref q3, .ref q4, .ref q5, .ref q6, .ref q7, .int 0, .int 0, .ref q8, .int 0, .int 0, .int 0, .int 0, .int 0, .int 0, .ref q9, .ref q10, .int 0, .int 0, .ref q11, .ref q12, .ref q13, .null, .null, .null, .int 0, .int 0, .int 0, .null, .long 0, .long 0])), (q1, .inl (cA 0, (60, .inl (fun _ => 0)))), (q2, .inl (cA 0, (60, .inl (fun _ => 0)))), (q3, .inl (cA 0, (60, .inl (fun _ => 0)))), (q4, .inl (cA 0, (60, .inl (fun _ => 0)))), (q5, .inl (cA 0, (60, .inl (fun _ => 0)))), (q6, .inl (cA 0, (6, .inl (fun _ => 0)))), (q7, .inl (cA 0, (320, .inl (fun _ => 0)))), (q8, .inl (cA 2, (1000, .inl (fun _ => 0)))), (q9, .inl (cA 0, (4, .inl (fun _ => 0)))), (q10, .inl (cA 1, (256, .inr (.inl (fun _ => 0))))), (q11, .inl (cA 1, (256, .inr (.inl (fun _ => 0))))), (q12, .inl (cA 1, (96, .inr (.inl (fun _ => 0))))), (q13, .inl (cA 1, (256, .inr (.inl (fun _ => 0)))))] H := hP
  have hD : va_D A [(h0, .inr (6, [.int 0, .int 0, .int 0, .ref q1, .ref q2, .ref q3, .ref q4, .ref q5, .ref q6, .ref q7, .int 0, .int 0, .ref q8, .int 0, .int 0, .int 0, .int 0, .int 0, .int 0, .ref q9, .ref q10, .int 0, .int 0, .ref q11, .ref q12, .ref q13, .null, .null, .null, .int 0, .int 0, .int 0, .null, .long 0, .long 0])), (q1, .inl (cA 0, (60, .inl (fun _ => 0)))), (q2, .inl (cA 0, (60, .inl (fun _ => 0)))), (q3, .inl (cA 0, (60, .inl (fun _ => 0)))), (q4, .inl (cA 0, (60, .inl (fun _ => 0)))), (q5, .inl (cA 0, (60, .inl (fun _ => 0)))), (q6, .inl (cA 0, (6, .inl (fun _ => 0)))), (q7, .inl (cA 0, (320, .inl (fun _ => 0)))), (q8, .inl (cA 2, (1000, .inl (fun _ => 0)))), (q9, .inl (cA 0, (4, .inl (fun _ => 0)))), (q10, .inl (cA 1, (256, .inr (.inl (fun _ => 0))))), (q11, .inl (cA 1, (256, .inr (.inl (fun _ => 0))))), (q12, .inl (cA 1, (96, .inr (.inl (fun _ => 0))))), (q13, .inl (cA 1, (256, .inr (.inl (fun _ => 0)))))] := hD
  refine lv_aload_n hx hb di_6_112 rfl (lv_at hl 0 rfl) ?_
  refine lv_bipush (v := 96) hx hb di_6_113 (by decide) ?_
  refine va_newa (atype := .long) (a0 := (96, .inr (.inl (fun _ => 0)))) hx hb (hts _ tk_arr3.2.1) (ty := .long) rfl hK hP hD hS hA (fun _ => rfl) (by decide) (by decide) (by decide) (Nat.le_of_ble_eq_true rfl) (Nat.le_of_ble_eq_true rfl) di_6_115 (fun q14 cB H hK hP hD hS => ?_)
  have hcB : cB = cA 1 := tk_same hK rfl (Or.inr (Or.inl rfl))
  subst hcB
  have hK := hK.sub (tys' := tk_tyl cA) [0, 1, 2] rfl
  have hP : va_P D tk_cls [(h0, .inr (6, [.int 0, .int 0, .int 0, .ref q1, .ref q2, .ref q3, .ref q4, .ref q5, .ref q6, .ref q7, .int 0, .int 0, .ref q8, .int 0, .int 0, .int 0, .int 0, .int 0, .int 0, .ref q9, .ref q10, .int 0, .int 0, .ref q11, .ref q12, .ref q13, .null, .null, .null, .int 0, .int 0, .int 0, .null, .long 0, .long 0])), (q1, .inl (cA 0, (60, .inl (fun _ => 0)))), (q2, .inl (cA 0, (60, .inl (fun _ => 0)))), (q3, .inl (cA 0, (60, .inl (fun _ => 0)))), (q4, .inl (cA 0, (60, .inl (fun _ => 0)))), (q5, .inl (cA 0, (60, .inl (fun _ => 0)))), (q6, .inl (cA 0, (6, .inl (fun _ => 0)))), (q7, .inl (cA 0, (320, .inl (fun _ => 0)))), (q8, .inl (cA 2, (1000, .inl (fun _ => 0)))), (q9, .inl (cA 0, (4, .inl (fun _ => 0)))), (q10, .inl (cA 1, (256, .inr (.inl (fun _ => 0))))), (q11, .inl (cA 1, (256, .inr (.inl (fun _ => 0))))), (q12, .inl (cA 1, (96, .inr (.inl (fun _ => 0))))), (q13, .inl (cA 1, (256, .inr (.inl (fun _ => 0))))), (q14, .inl (cA 1, (96, .inr (.inl (fun _ => 0)))))] H := hP
  have hD : va_D A [(h0, .inr (6, [.int 0, .int 0, .int 0, .ref q1, .ref q2, .ref q3, .ref q4, .ref q5, .ref q6, .ref q7, .int 0, .int 0, .ref q8, .int 0, .int 0, .int 0, .int 0, .int 0, .int 0, .ref q9, .ref q10, .int 0, .int 0, .ref q11, .ref q12, .ref q13, .null, .null, .null, .int 0, .int 0, .int 0, .null, .long 0, .long 0])), (q1, .inl (cA 0, (60, .inl (fun _ => 0)))), (q2, .inl (cA 0, (60, .inl (fun _ => 0)))), (q3, .inl (cA 0, (60, .inl (fun _ => 0)))), (q4, .inl (cA 0, (60, .inl (fun _ => 0)))), (q5, .inl (cA 0, (60, .inl (fun _ => 0)))), (q6, .inl (cA 0, (6, .inl (fun _ => 0)))), (q7, .inl (cA 0, (320, .inl (fun _ => 0)))), (q8, .inl (cA 2, (1000, .inl (fun _ => 0)))), (q9, .inl (cA 0, (4, .inl (fun _ => 0)))), (q10, .inl (cA 1, (256, .inr (.inl (fun _ => 0))))), (q11, .inl (cA 1, (256, .inr (.inl (fun _ => 0))))), (q12, .inl (cA 1, (96, .inr (.inl (fun _ => 0))))), (q13, .inl (cA 1, (256, .inr (.inl (fun _ => 0))))), (q14, .inl (cA 1, (96, .inr (.inl (fun _ => 0)))))] := hD
  refine va_putF (D := D) (ci := 6) (v := .ref q14) (ty := .array .long) (C := tk_cn 6) (T := tk_T 6) (N := 35) (ref := tk_cn 6) hx hb hts (tk_in_ws 6 (by decide)) (tk_ty 6) (tk_tyok 6 (by decide)) (tk_nm 6 (by decide)) hown hK hP hD hS 0 rfl rfl 26 (by decide) (hts _ (tk_tb (tk_fws _ (List.mem_map.mpr ⟨(6, 51, 26), by decide, rfl⟩)) rfl)) (fun _ h9 => h9) rfl hin rfl (by decide +kernel) rfl rfl (Nat.le_of_ble_eq_true rfl) di_6_117 (fun H locs hP hD hS => ?_)
  have hP : va_P D tk_cls [(h0, .inr (6, [.int 0, .int 0, .int 0, .ref q1, .ref q2, .ref q3, .ref q4, .ref q5, .ref q6, .ref q7, .int 0, .int 0, .ref q8, .int 0, .int 0, .int 0, .int 0, .int 0, .int 0, .ref q9, .ref q10, .int 0, .int 0, .ref q11, .ref q12, .ref q13, .ref q14, .null, .null, .int 0, .int 0, .int 0, .null, .long 0, .long 0])), (q1, .inl (cA 0, (60, .inl (fun _ => 0)))), (q2, .inl (cA 0, (60, .inl (fun _ => 0)))), (q3, .inl (cA 0, (60, .inl (fun _ => 0)))), (q4, .inl (cA 0, (60, .inl (fun _ => 0)))), (q5, .inl (cA 0, (60, .inl (fun _ => 0)))), (q6, .inl (cA 0, (6, .inl (fun _ => 0)))), (q7, .inl (cA 0, (320, .inl (fun _ => 0)))), (q8, .inl (cA 2, (1000, .inl (fun _ => 0)))), (q9, .inl (cA 0, (4, .inl (fun _ => 0)))), (q10, .inl (cA 1, (256, .inr (.inl (fun _ => 0))))), (q11, .inl (cA 1, (256, .inr (.inl (fun _ => 0))))), (q12, .inl (cA 1, (96, .inr (.inl (fun _ => 0))))), (q13, .inl (cA 1, (256, .inr (.inl (fun _ => 0))))), (q14, .inl (cA 1, (96, .inr (.inl (fun _ => 0)))))] H := hP
  have hD : va_D A [(h0, .inr (6, [.int 0, .int 0, .int 0, .ref q1, .ref q2, .ref q3, .ref q4, .ref q5, .ref q6, .ref q7, .int 0, .int 0, .ref q8, .int 0, .int 0, .int 0, .int 0, .int 0, .int 0, .ref q9, .ref q10, .int 0, .int 0, .ref q11, .ref q12, .ref q13, .ref q14, .null, .null, .int 0, .int 0, .int 0, .null, .long 0, .long 0])), (q1, .inl (cA 0, (60, .inl (fun _ => 0)))), (q2, .inl (cA 0, (60, .inl (fun _ => 0)))), (q3, .inl (cA 0, (60, .inl (fun _ => 0)))), (q4, .inl (cA 0, (60, .inl (fun _ => 0)))), (q5, .inl (cA 0, (60, .inl (fun _ => 0)))), (q6, .inl (cA 0, (6, .inl (fun _ => 0)))), (q7, .inl (cA 0, (320, .inl (fun _ => 0)))), (q8, .inl (cA 2, (1000, .inl (fun _ => 0)))), (q9, .inl (cA 0, (4, .inl (fun _ => 0)))), (q10, .inl (cA 1, (256, .inr (.inl (fun _ => 0))))), (q11, .inl (cA 1, (256, .inr (.inl (fun _ => 0))))), (q12, .inl (cA 1, (96, .inr (.inl (fun _ => 0))))), (q13, .inl (cA 1, (256, .inr (.inl (fun _ => 0))))), (q14, .inl (cA 1, (96, .inr (.inl (fun _ => 0)))))] := hD
  refine lv_aload_n hx hb di_6_120 rfl (lv_at hl 0 rfl) ?_
  refine lv_sipush (v := 256) hx hb di_6_121 (by decide) ?_
  refine va_newa (atype := .long) (a0 := (256, .inr (.inl (fun _ => 0)))) hx hb (hts _ tk_arr3.2.1) (ty := .long) rfl hK hP hD hS hA (fun _ => rfl) (by decide) (by decide) (by decide) (Nat.le_of_ble_eq_true rfl) (Nat.le_of_ble_eq_true rfl) di_6_124 (fun q15 cB H hK hP hD hS => ?_)
  have hcB : cB = cA 1 := tk_same hK rfl (Or.inr (Or.inl rfl))
  subst hcB
  have hK := hK.sub (tys' := tk_tyl cA) [0, 1, 2] rfl
  have hP : va_P D tk_cls [(h0, .inr (6, [.int 0, .int 0, .int 0, .ref q1, .ref q2, .ref q3, .ref q4, .ref q5, .ref q6, .ref q7, .int 0, .int 0, .ref q8, .int 0, .int 0, .int 0, .int 0, .int 0, .int 0, .ref q9, .ref q10, .int 0, .int 0, .ref q11, .ref q12, .ref q13, .ref q14, .null, .null, .int 0, .int 0, .int 0, .null, .long 0, .long 0])), (q1, .inl (cA 0, (60, .inl (fun _ => 0)))), (q2, .inl (cA 0, (60, .inl (fun _ => 0)))), (q3, .inl (cA 0, (60, .inl (fun _ => 0)))), (q4, .inl (cA 0, (60, .inl (fun _ => 0)))), (q5, .inl (cA 0, (60, .inl (fun _ => 0)))), (q6, .inl (cA 0, (6, .inl (fun _ => 0)))), (q7, .inl (cA 0, (320, .inl (fun _ => 0)))), (q8, .inl (cA 2, (1000, .inl (fun _ => 0)))), (q9, .inl (cA 0, (4, .inl (fun _ => 0)))), (q10, .inl (cA 1, (256, .inr (.inl (fun _ => 0))))), (q11, .inl (cA 1, (256, .inr (.inl (fun _ => 0))))), (q12, .inl (cA 1, (96, .inr (.inl (fun _ => 0))))), (q13, .inl (cA 1, (256, .inr (.inl (fun _ => 0))))), (q14, .inl (cA 1, (96, .inr (.inl (fun _ => 0))))), (q15, .inl (cA 1, (256, .inr (.inl (fun _ => 0)))))] H := hP
  have hD : va_D A [(h0, .inr (6, [.int 0, .int 0, .int 0, .ref q1, .ref q2, .ref q3, .ref q4, .ref q5, .ref q6, .ref q7, .int 0, .int 0, .ref q8, .int 0, .int 0, .int 0, .int 0, .int 0, .int 0, .ref q9, .ref q10, .int 0, .int 0, .ref q11, .ref q12, .ref q13, .ref q14, .null, .null, .int 0, .int 0, .int 0, .null, .long 0, .long 0])), (q1, .inl (cA 0, (60, .inl (fun _ => 0)))), (q2, .inl (cA 0, (60, .inl (fun _ => 0)))), (q3, .inl (cA 0, (60, .inl (fun _ => 0)))), (q4, .inl (cA 0, (60, .inl (fun _ => 0)))), (q5, .inl (cA 0, (60, .inl (fun _ => 0)))), (q6, .inl (cA 0, (6, .inl (fun _ => 0)))), (q7, .inl (cA 0, (320, .inl (fun _ => 0)))), (q8, .inl (cA 2, (1000, .inl (fun _ => 0)))), (q9, .inl (cA 0, (4, .inl (fun _ => 0)))), (q10, .inl (cA 1, (256, .inr (.inl (fun _ => 0))))), (q11, .inl (cA 1, (256, .inr (.inl (fun _ => 0))))), (q12, .inl (cA 1, (96, .inr (.inl (fun _ => 0))))), (q13, .inl (cA 1, (256, .inr (.inl (fun _ => 0))))), (q14, .inl (cA 1, (96, .inr (.inl (fun _ => 0))))), (q15, .inl (cA 1, (256, .inr (.inl (fun _ => 0)))))] := hD
  refine va_putF (D := D) (ci := 6) (v := .ref q15) (ty := .array .long) (C := tk_cn 6) (T := tk_T 6) (N := 35) (ref := tk_cn 6) hx hb hts (tk_in_ws 6 (by decide)) (tk_ty 6) (tk_tyok 6 (by decide)) (tk_nm 6 (by decide)) hown hK hP hD hS 0 rfl rfl 27 (by decide) (hts _ (tk_tb (tk_fws _ (List.mem_map.mpr ⟨(6, 54, 27), by decide, rfl⟩)) rfl)) (fun _ h9 => h9) rfl hin rfl (by decide +kernel) rfl rfl (Nat.le_of_ble_eq_true rfl) di_6_126 (fun H locs hP hD hS => ?_)
  have hP : va_P D tk_cls [(h0, .inr (6, [.int 0, .int 0, .int 0, .ref q1, .ref q2, .ref q3, .ref q4, .ref q5, .ref q6, .ref q7, .int 0, .int 0, .ref q8, .int 0, .int 0, .int 0, .int 0, .int 0, .int 0, .ref q9, .ref q10, .int 0, .int 0, .ref q11, .ref q12, .ref q13, .ref q14, .ref q15, .null, .int 0, .int 0, .int 0, .null, .long 0, .long 0])), (q1, .inl (cA 0, (60, .inl (fun _ => 0)))), (q2, .inl (cA 0, (60, .inl (fun _ => 0)))), (q3, .inl (cA 0, (60, .inl (fun _ => 0)))), (q4, .inl (cA 0, (60, .inl (fun _ => 0)))), (q5, .inl (cA 0, (60, .inl (fun _ => 0)))), (q6, .inl (cA 0, (6, .inl (fun _ => 0)))), (q7, .inl (cA 0, (320, .inl (fun _ => 0)))), (q8, .inl (cA 2, (1000, .inl (fun _ => 0)))), (q9, .inl (cA 0, (4, .inl (fun _ => 0)))), (q10, .inl (cA 1, (256, .inr (.inl (fun _ => 0))))), (q11, .inl (cA 1, (256, .inr (.inl (fun _ => 0))))), (q12, .inl (cA 1, (96, .inr (.inl (fun _ => 0))))), (q13, .inl (cA 1, (256, .inr (.inl (fun _ => 0))))), (q14, .inl (cA 1, (96, .inr (.inl (fun _ => 0))))), (q15, .inl (cA 1, (256, .inr (.inl (fun _ => 0)))))] H := hP
  have hD : va_D A [(h0, .inr (6, [.int 0, .int 0, .int 0, .ref q1, .ref q2, .ref q3, .ref q4, .ref q5, .ref q6, .ref q7, .int 0, .int 0, .ref q8, .int 0, .int 0, .int 0, .int 0, .int 0, .int 0, .ref q9, .ref q10, .int 0, .int 0, .ref q11, .ref q12, .ref q13, .ref q14, .ref q15, .null, .int 0, .int 0, .int 0, .null, .long 0, .long 0])), (q1, .inl (cA 0, (60, .inl (fun _ => 0)))), (q2, .inl (cA 0, (60, .inl (fun _ => 0)))), (q3, .inl (cA 0, (60, .inl (fun _ => 0)))), (q4, .inl (cA 0, (60, .inl (fun _ => 0)))), (q5, .inl (cA 0, (60, .inl (fun _ => 0)))), (q6, .inl (cA 0, (6, .inl (fun _ => 0)))), (q7, .inl (cA 0, (320, .inl (fun _ => 0)))), (q8, .inl (cA 2, (1000, .inl (fun _ => 0)))), (q9, .inl (cA 0, (4, .inl (fun _ => 0)))), (q10, .inl (cA 1, (256, .inr (.inl (fun _ => 0))))), (q11, .inl (cA 1, (256, .inr (.inl (fun _ => 0))))), (q12, .inl (cA 1, (96, .inr (.inl (fun _ => 0))))), (q13, .inl (cA 1, (256, .inr (.inl (fun _ => 0))))), (q14, .inl (cA 1, (96, .inr (.inl (fun _ => 0))))), (q15, .inl (cA 1, (256, .inr (.inl (fun _ => 0)))))] := hD
  refine lv_aload_n hx hb di_6_129 rfl (lv_at hl 0 rfl) ?_
  refine lv_bipush (v := 96) hx hb di_6_130 (by decide) ?_
  refine va_newa (atype := .long) (a0 := (96, .inr (.inl (fun _ => 0)))) hx hb (hts _ tk_arr3.2.1) (ty := .long) rfl hK hP hD hS hA (fun _ => rfl) (by decide) (by decide) (by decide) (Nat.le_of_ble_eq_true rfl) (Nat.le_of_ble_eq_true rfl) di_6_132 (fun q16 cB H hK hP hD hS => ?_)
  have hcB : cB = cA 1 := tk_same hK rfl (Or.inr (Or.inl rfl))
  subst hcB
  have hK := hK.sub (tys' := tk_tyl cA) [0, 1, 2] rfl
  have hP : va_P D tk_cls [(h0, .inr (6, [.int 0, .int 0, .int 0, .ref q1, .ref q2, .ref q3, .ref q4, .ref q5, .ref q6, .ref q7, .int 0, .int 0, .ref q8, .int 0, .int 0, .int 0, .int 0, .int 0, .int 0, .ref q9, .ref q10, .int 0, .int 0, .ref q11, .ref q12, .ref q13, .ref q14, .ref q15, .null, .int 0, .int 0, .int 0, .null, .long 0, .long 0])), (q1, .inl (cA 0, (60, .inl (fun _ => 0)))), (q2, .inl (cA 0, (60, .inl (fun _ => 0)))), (q3, .inl (cA 0, (60, .inl (fun _ => 0)))), (q4, .inl (cA 0, (60, .inl (fun _ => 0)))), (q5, .inl (cA 0, (60, .inl (fun _ => 0)))), (q6, .inl (cA 0, (6, .inl (fun _ => 0)))), (q7, .inl (cA 0, (320, .inl (fun _ => 0)))), (q8, .inl (cA 2, (1000, .inl (fun _ => 0)))), (q9, .inl (cA 0, (4, .inl (fun _ => 0)))), (q10, .inl (cA 1, (256, .inr (.inl (fun _ => 0))))), (q11, .inl (cA 1, (256, .inr (.inl (fun _ => 0))))), (q12, .inl (cA 1, (96, .inr (.inl (fun _ => 0))))), (q13, .inl (cA 1, (256, .inr (.inl (fun _ => 0))))), (q14, .inl (cA 1, (96, .inr (.inl (fun _ => 0))))), (q15, .inl (cA 1, (256, .inr (.inl (fun _ => 0))))), (q16, .inl (cA 1, (96, .inr (.inl (fun _ => 0)))))] H := hP
  have hD : va_D A [(h0, .inr (6, [.int 0, .int 0, .int 0, .ref q1, .ref q2, .ref q3, .ref q4, .ref q5, .ref q6, .ref q7, .int 0, .int 0, .ref q8, .int 0, .int 0, .int 0, .int 0, .int 0, .int 0, .ref q9, .ref q10, .int 0, .int 0, .ref q11, .ref q12, .ref q13, .ref q14, .ref q15, .null, .int 0, .int 0, .int 0, .null, .long 0, .long 0])), (q1, .inl (cA 0, (60, .inl (fun _ => 0)))), (q2, .inl (cA 0, (60, .inl (fun _ => 0)))), (q3, .inl (cA 0, (60, .inl (fun _ => 0)))), (q4, .inl (cA 0, (60, .inl (fun _ => 0)))), (q5, .inl (cA 0, (60, .inl (fun _ => 0)))), (q6, .inl (cA 0, (6, .inl (fun _ => 0)))), (q7, .inl (cA 0, (320, .inl (fun _ => 0)))), (q8, .inl (cA 2, (1000, .inl (fun _ => 0)))), (q9, .inl (cA 0, (4, .inl (fun _ => 0)))), (q10, .inl (cA 1, (256, .inr (.inl (fun _ => 0))))), (q11, .inl (cA 1, (256, .inr (.inl (fun _ => 0))))), (q12, .inl (cA 1, (96, .inr (.inl (fun _ => 0))))), (q13, .inl (cA 1, (256, .inr (.inl (fun _ => 0))))), (q14, .inl (cA 1, (96, .inr (.inl (fun _ => 0))))), (q15, .inl (cA 1, (256, .inr (.inl (fun _ => 0))))), (q16, .inl (cA 1, (96, .inr (.inl (fun _ => 0)))))] := hD
  refine va_putF (D := D) (ci := 6) (v := .ref q16) (ty := .array .long) (C := tk_cn 6) (T := tk_T 6) (N := 35) (ref := tk_cn 6) hx hb hts (tk_in_ws 6 (by decide)) (tk_ty 6) (tk_tyok 6 (by decide)) (tk_nm 6 (by decide)) hown hK hP hD hS 0 rfl rfl 28 (by decide) (hts _ (tk_tb (tk_fws _ (List.mem_map.mpr ⟨(6, 57, 28), by decide, rfl⟩)) rfl)) (fun _ h9 => h9) rfl hin rfl (by decide +kernel) rfl rfl (Nat.le_of_ble_eq_true rfl) di_6_134 (fun H locs hP hD hS => ?_)
  have hP : va_P D tk_cls [(h0, .inr (6, [.int 0, .int 0, .int 0, .ref q1, .ref q2, .ref q3, .ref q4, .ref q5, .ref q6, .ref q7, .int 0, .int 0, .ref q8, .int 0, .int 0, .int 0, .int 0, .int 0, .int 0, .ref q9, .ref q10, .int 0, .int 0, .ref q11, .ref q12, .ref q13, .ref q14, .ref q15, .ref q16, .int 0, .int 0, .int 0, .null, .long 0, .long 0])), (q1, .inl (cA 0, (60, .inl (fun _ => 0)))), (q2, .inl (cA 0, (60, .inl (fun _ => 0)))), (q3, .inl (cA 0, (60, .inl (fun _ => 0)))), (q4, .inl (cA 0, (60, .inl (fun _ => 0)))), (q5, .inl (cA 0, (60, .inl (fun _ => 0)))), (q6, .inl (cA 0, (6, .inl (fun _ => 0)))), (q7, .inl (cA 0, (320, .inl (fun _ => 0)))), (q8, .inl (cA 2, (1000, .inl (fun _ => 0)))), (q9, .inl (cA 0, (4, .inl (fun _ => 0)))), (q10, .inl (cA 1, (256, .inr (.inl (fun _ => 0))))), (q11, .inl (cA 1, (256, .inr (.inl (fun _ => 0))))), (q12, .inl (cA 1, (96, .inr (.inl (fun _ => 0))))), (q13, .inl (cA 1, (256, .inr (.inl (fun _ => 0))))), (q14, .inl (cA 1, (96, .inr (.inl (fun _ => 0))))), (q15, .inl (cA 1, (256, .inr (.inl (fun _ => 0))))), (q16, .inl (cA 1, (96, .inr (.inl (fun _ => 0)))))] H := hP
  have hD : va_D A [(h0, .inr (6, [.int 0, .int 0, .int 0, .ref q1, .ref q2, .ref q3, .ref q4, .ref q5, .ref q6, .ref q7, .int 0, .int 0, .ref q8, .int 0, .int 0, .int 0, .int 0, .int 0, .int 0, .ref q9, .ref q10, .int 0, .int 0, .ref q11, .ref q12, .ref q13, .ref q14, .ref q15, .ref q16, .int 0, .int 0, .int 0, .null, .long 0, .long 0])), (q1, .inl (cA 0, (60, .inl (fun _ => 0)))), (q2, .inl (cA 0, (60, .inl (fun _ => 0)))), (q3, .inl (cA 0, (60, .inl (fun _ => 0)))), (q4, .inl (cA 0, (60, .inl (fun _ => 0)))), (q5, .inl (cA 0, (60, .inl (fun _ => 0)))), (q6, .inl (cA 0, (6, .inl (fun _ => 0)))), (q7, .inl (cA 0, (320, .inl (fun _ => 0)))), (q8, .inl (cA 2, (1000, .inl (fun _ => 0)))), (q9, .inl (cA 0, (4, .inl (fun _ => 0)))), (q10, .inl (cA 1, (256, .inr (.inl (fun _ => 0))))), (q11, .inl (cA 1, (256, .inr (.inl (fun _ => 0))))), (q12, .inl (cA 1, (96, .inr (.inl (fun _ => 0))))), (q13, .inl (cA 1, (256, .inr (.inl (fun _ => 0))))), (q14, .inl (cA 1, (96, .inr (.inl (fun _ => 0))))), (q15, .inl (cA 1, (256, .inr (.inl (fun _ => 0))))), (q16, .inl (cA 1, (96, .inr (.inl (fun _ => 0)))))] := hD
  refine lv_aload_n hx hb di_6_137 rfl (lv_at hl 0 rfl) ?_
  refine lv_bipush (v := 16) hx hb di_6_138 (by decide) ?_
  refine va_newa (atype := .int) (a0 := (16, .inl (fun _ => 0))) hx hb (hts _ tk_arr3.1) (ty := .int) rfl hK hP hD hS hA (fun _ => rfl) (by decide) (by decide) (by decide) (Nat.le_of_ble_eq_true rfl) (Nat.le_of_ble_eq_true rfl) di_6_140 (fun q17 cB H hK hP hD hS => ?_)
  have hcB : cB = cA 0 := tk_same hK rfl (Or.inl rfl)
  subst hcB
  have hK := hK.sub (tys' := tk_tyl cA) [0, 1, 2] rfl
  have hP : va_P D tk_cls [(h0, .inr (6, [.int 0, .int 0, .int 0, .ref q1, .ref q2, .ref q3, .ref q4, .ref q5, .ref q6, .ref q7, .int 0, .int 0, .ref q8, .int 0, .int 0, .int 0, .int 0, .int 0, .int 0, .ref q9, .ref q10, .int 0, .int 0, .ref q11, .ref q12, .ref q13, .ref q14, .ref q15, .ref q16, .int 0, .int 0, .int 0, .null, .long 0, .long 0])), (q1, .inl (cA 0, (60, .inl (fun _ => 0)))), (q2, .inl (cA 0, (60, .inl (fun _ => 0)))), (q3, .inl (cA 0, (60, .inl (fun _ => 0)))), (q4, .inl (cA 0, (60, .inl (fun _ => 0)))), (q5, .inl (cA 0, (60, .inl (fun _ => 0)))), (q6, .inl (cA 0, (6, .inl (fun _ => 0)))), (q7, .inl (cA 0, (320, .inl (fun _ => 0)))), (q8, .inl (cA 2, (1000, .inl (fun _ => 0)))), (q9, .inl (cA 0, (4, .inl (fun _ => 0)))), (q10, .inl (cA 1, (256, .inr (.inl (fun _ => 0))))), (q11, .inl (cA 1, (256, .inr (.inl (fun _ => 0))))), (q12, .inl (cA 1, (96, .inr (.inl (fun _ => 0))))), (q13, .inl (cA 1, (256, .inr (.inl (fun _ => 0))))), (q14, .inl (cA 1, (96, .inr (.inl (fun _ => 0))))), (q15, .inl (cA 1, (256, .inr (.inl (fun _ => 0))))), (q16, .inl (cA 1, (96, .inr (.inl (fun _ => 0))))), (q17, .inl (cA 0, (16, .inl (fun _ => 0))))] H := hP
  have hD : va_D A [(h0, .inr (6, [.int 0, .int 0, .int 0, .ref q1, .ref q2, .ref q3, .ref q4, .ref q5, .ref q6, .ref q7, .int 0, .int 0, .ref q8, .int 0, .int 0, .int 0, .int 0, .int 0, .int 0, .ref q9, .ref q10, .int 0, .int 0, .ref q11, .ref q12, .ref q13, .ref q14, .ref q15, .ref q16, .int 0, .int 0, .int 0, .null, .long 0, .long 0])), (q1, .inl (cA 0, (60, .inl (fun _ => 0)))), (q2, .inl (cA 0, (60, .inl (fun _ => 0)))), (q3, .inl (cA 0, (60, .inl (fun _ => 0)))), (q4, .inl (cA 0, (60, .inl (fun _ => 0)))), (q5, .inl (cA 0, (60, .inl (fun _ => 0)))), (q6, .inl (cA 0, (6, .inl (fun _ => 0)))), (q7, .inl (cA 0, (320, .inl (fun _ => 0)))), (q8, .inl (cA 2, (1000, .inl (fun _ => 0)))), (q9, .inl (cA 0, (4, .inl (fun _ => 0)))), (q10, .inl (cA 1, (256, .inr (.inl (fun _ => 0))))), (q11, .inl (cA 1, (256, .inr (.inl (fun _ => 0))))), (q12, .inl (cA 1, (96, .inr (.inl (fun _ => 0))))), (q13, .inl (cA 1, (256, .inr (.inl (fun _ => 0))))), (q14, .inl (cA 1, (96, .inr (.inl (fun _ => 0))))), (q15, .inl (cA 1, (256, .inr (.inl (fun _ => 0))))), (q16, .inl (cA 1, (96, .inr (.inl (fun _ => 0))))), (q17, .inl (cA 0, (16, .inl (fun _ => 0))))] := hD
  refine va_putF (D := D) (ci := 6) (v := .ref q17) (ty := .array .int) (C := tk_cn 6) (T := tk_T 6) (N := 35) (ref := tk_cn 6) hx hb hts (tk_in_ws 6 (by decide)) (tk_ty 6) (tk_tyok 6 (by decide)) (tk_nm 6 (by decide)) hown hK hP hD hS 0 rfl rfl 32 (by decide) (hts _ (tk_tb (tk_fws _ (List.mem_map.mpr ⟨(6, 60, 32), by decide, rfl⟩)) rfl)) (fun _ h9 => h9) rfl hin rfl (by decide +kernel) rfl rfl (Nat.le_of_ble_eq_true rfl) di_6_142 (fun H locs hP hD hS => ?_)
  have hP : va_P D tk_cls [(h0, .inr (6, [.int 0, .int 0, .int 0, .ref q1, .ref q2, .ref q3, .ref q4, .ref q5, .ref q6, .ref q7, .int 0, .int 0, .ref q8, .int 0, .int 0, .int 0, .int 0, .int 0, .int 0, .ref q9, .ref q10, .int 0, .int 0, .ref q11, .ref q12, .ref q13, .ref q14, .ref q15, .ref q16, .int 0, .int 0, .int 0, .ref q17, .long 0, .long 0])), (q1, .inl (cA 0, (60, .inl (fun _ => 0)))), (q2, .inl (cA 0, (60, .inl (fun _ => 0)))), (q3, .inl (cA 0, (60, .inl (fun _ => 0)))), (q4, .inl (cA 0, (60, .inl (fun _ => 0)))), (q5, .inl (cA 0, (60, .inl (fun _ => 0)))), (q6, .inl (cA 0, (6, .inl (fun _ => 0)))), (q7, .inl (cA 0, (320, .inl (fun _ => 0)))), (q8, .inl (cA 2, (1000, .inl (fun _ => 0)))), (q9, .inl (cA 0, (4, .inl (fun _ => 0)))), (q10, .inl (cA 1, (256, .inr (.inl (fun _ => 0))))), (q11, .inl (cA 1, (256, .inr (.inl (fun _ => 0))))), (q12, .inl (cA 1, (96, .inr (.inl (fun _ => 0))))), (q13, .inl (cA 1, (256, .inr (.inl (fun _ => 0))))), (q14, .inl (cA 1, (96, .inr (.inl (fun _ => 0))))), (q15, .inl (cA 1, (256, .inr (.inl (fun _ => 0))))), (q16, .inl (cA 1, (96, .inr (.inl (fun _ => 0))))), (q17, .inl (cA 0, (16, .inl (fun _ => 0))))] H := hP
  have hD : va_D A [(h0, .inr (6, [.int 0, .int 0, .int 0, .ref q1, .ref q2, .ref q3, .ref q4, .ref q5, .ref q6, .ref q7, .int 0, .int 0, .ref q8, .int 0, .int 0, .int 0, .int 0, .int 0, .int 0, .ref q9, .ref q10, .int 0, .int 0, .ref q11, .ref q12, .ref q13, .ref q14, .ref q15, .ref q16, .int 0, .int 0, .int 0, .ref q17, .long 0, .long 0])), (q1, .inl (cA 0, (60, .inl (fun _ => 0)))), (q2, .inl (cA 0, (60, .inl (fun _ => 0)))), (q3, .inl (cA 0, (60, .inl (fun _ => 0)))), (q4, .inl (cA 0, (60, .inl (fun _ => 0)))), (q5, .inl (cA 0, (60, .inl (fun _ => 0)))), (q6, .inl (cA 0, (6, .inl (fun _ => 0)))), (q7, .inl (cA 0, (320, .inl (fun _ => 0)))), (q8, .inl (cA 2, (1000, .inl (fun _ => 0)))), (q9, .inl (cA 0, (4, .inl (fun _ => 0)))), (q10, .inl (cA 1, (256, .inr (.inl (fun _ => 0))))), (q11, .inl (cA 1, (256, .inr (.inl (fun _ => 0))))), (q12, .inl (cA 1, (96, .inr (.inl (fun _ => 0))))), (q13, .inl (cA 1, (256, .inr (.inl (fun _ => 0))))), (q14, .inl (cA 1, (96, .inr (.inl (fun _ => 0))))), (q15, .inl (cA 1, (256, .inr (.inl (fun _ => 0))))), (q16, .inl (cA 1, (96, .inr (.inl (fun _ => 0))))), (q17, .inl (cA 0, (16, .inl (fun _ => 0))))] := hD
  refine lv_aload_n hx hb di_6_145 rfl (lv_at hl 0 rfl) ?_
  refine lv_iconst (v := 0) hx hb di_6_146 (by decide) ?_
  refine va_put (D := D) (ci := 6) (v := .int 0) (ty := .boolean) (C := tk_cn 6) (T := tk_T 6) (N := 35) (ref := tk_cn 6) hx hb hts (tk_in_ws 6 (by decide)) (tk_ty 6) (tk_tyok 6 (by decide)) (tk_nm 6 (by decide)) hown hK hP hD hS 0 rfl rfl 11 (by decide) (hts _ (tk_tb (tk_fws _ (List.mem_map.mpr ⟨(6, 63, 11), by decide, rfl⟩)) rfl)) (fun _ h9 => h9) rfl (by decide +kernel) rfl rfl (Nat.le_of_ble_eq_true rfl) di_6_147 (fun H locs hP hD hS => ?_)
  have hP : va_P D tk_cls [(h0, .inr (6, [.int 0, .int 0, .int 0, .ref q1, .ref q2, .ref q3, .ref q4, .ref q5, .ref q6, .ref q7, .int 0, .int 0, .ref q8, .int 0, .int 0, .int 0, .int 0, .int 0, .int 0, .ref q9, .ref q10, .int 0, .int 0, .ref q11, .ref q12, .ref q13, .ref q14, .ref q15, .ref q16, .int 0, .int 0, .int 0, .ref q17, .long 0, .long 0])), (q1, .inl (cA 0, (60, .inl (fun _ => 0)))), (q2, .inl (cA 0, (60, .inl (fun _ => 0)))), (q3, .inl (cA 0, (60, .inl (fun _ => 0)))), (q4, .inl (cA 0, (60, .inl (fun _ => 0)))), (q5, .inl (cA 0, (60, .inl (fun _ => 0)))), (q6, .inl (cA 0, (6, .inl (fun _ => 0)))), (q7, .inl (cA 0, (320, .inl (fun _ => 0)))), (q8, .inl (cA 2, (1000, .inl (fun _ => 0)))), (q9, .inl (cA 0, (4, .inl (fun _ => 0)))), (q10, .inl (cA 1, (256, .inr (.inl (fun _ => 0))))), (q11, .inl (cA 1, (256, .inr (.inl (fun _ => 0))))), (q12, .inl (cA 1, (96, .inr (.inl (fun _ => 0))))), (q13, .inl (cA 1, (256, .inr (.inl (fun _ => 0))))), (q14, .inl (cA 1, (96, .inr (.inl (fun _ => 0))))), (q15, .inl (cA 1, (256, .inr (.inl (fun _ => 0))))), (q16, .inl (cA 1, (96, .inr (.inl (fun _ => 0))))), (q17, .inl (cA 0, (16, .inl (fun _ => 0))))] H := hP
  have hD : va_D A [(h0, .inr (6, [.int 0, .int 0, .int 0, .ref q1, .ref q2, .ref q3, .ref q4, .ref q5, .ref q6, .ref q7, .int 0, .int 0, .ref q8, .int 0, .int 0, .int 0, .int 0, .int 0, .int 0, .ref q9, .ref q10, .int 0, .int 0, .ref q11, .ref q12, .ref q13, .ref q14, .ref q15, .ref q16, .int 0, .int 0, .int 0, .ref q17, .long 0, .long 0])), (q1, .inl (cA 0, (60, .inl (fun _ => 0)))), (q2, .inl (cA 0, (60, .inl (fun _ => 0)))), (q3, .inl (cA 0, (60, .inl (fun _ => 0)))), (q4, .inl (cA 0, (60, .inl (fun _ => 0)))), (q5, .inl (cA 0, (60, .inl (fun _ => 0)))), (q6, .inl (cA 0, (6, .inl (fun _ => 0)))), (q7, .inl (cA 0, (320, .inl (fun _ => 0)))), (q8, .inl (cA 2, (1000, .inl (fun _ => 0)))), (q9, .inl (cA 0, (4, .inl (fun _ => 0)))), (q10, .inl (cA 1, (256, .inr (.inl (fun _ => 0))))), (q11, .inl (cA 1, (256, .inr (.inl (fun _ => 0))))), (q12, .inl (cA 1, (96, .inr (.inl (fun _ => 0))))), (q13, .inl (cA 1, (256, .inr (.inl (fun _ => 0))))), (q14, .inl (cA 1, (96, .inr (.inl (fun _ => 0))))), (q15, .inl (cA 1, (256, .inr (.inl (fun _ => 0))))), (q16, .inl (cA 1, (96, .inr (.inl (fun _ => 0))))), (q17, .inl (cA 0, (16, .inl (fun _ => 0))))] := hD
  refine W.widen (k := 17) (n := 2958) (Nat.le_of_ble_eq_true rfl) (Nat.le_of_ble_eq_true rfl) ?_
  exact W.vret hx hb hr (fun t ht hW => ⟨⟨[q1, q2, q3, q4, q5, q6, q7, q8, q9, q10, q11, q12, q13, q14, q15, q16, q17], rfl, trivial, by rw [ht]; exact hP, va_K.moved hW.alike hK, hD⟩, hS.F ht⟩) hS.2.2 di_6_150
