theorem dX4_form_29 : decode cX4_form 29 = .ok (.ifCond .ne 12, 3) := by decide +kernel
theorem dX4_form_32 : decode cX4_form 32 = .ok (.aload_n 0, 1) := by decide +kernel
theorem dX4_form_33 : decode cX4_form 33 = .ok (.getfield 13, 3) := by decide +kernel
theorem dX4_form_36 : decode cX4_form 36 = .ok (.iload_n 1, 1) := by decide +kernel
theorem dX4_form_37 : decode cX4_form 37 = .ok (.laload, 1) := by decide +kernel
theorem dX4_form_38 : decode cX4_form 38 = .ok (.goto 23, 3) := by decide +kernel
theorem dX4_form_41 : decode cX4_form 41 = .ok (.iload_n 2, 1) := by decide +kernel
theorem dX4_form_42 : decode cX4_form 42 = .ok (.iconst 1, 1) := by decide +kernel
theorem dX4_form_43 : decode cX4_form 43 = .ok (.if_icmp .ne 12, 3) := by decide +kernel
theorem dX4_form_46 : decode cX4_form 46 = .ok (.aload_n 0, 1) := by decide +kernel
theorem dX4_form_47 : decode cX4_form 47 = .ok (.getfield 17, 3) := by decide +kernel
theorem dX4_form_50 : decode cX4_form 50 = .ok (.iload_n 1, 1) := by decide +kernel
theorem dX4_form_51 : decode cX4_form 51 = .ok (.laload, 1) := by decide +kernel
theorem dX4_form_52 : decode cX4_form 52 = .ok (.goto 9, 3) := by decide +kernel
theorem dX4_form_55 : decode cX4_form 55 = .ok (.aload_n 0, 1) := by decide +kernel
theorem dX4_form_56 : decode cX4_form 56 = .ok (.getfield 20, 3) := by decide +kernel
theorem dX4_form_59 : decode cX4_form 59 = .ok (.iload_n 1, 1) := by decide +kernel
theorem dX4_form_60 : decode cX4_form 60 = .ok (.laload, 1) := by decide +kernel
theorem dX4_form_61 : decode cX4_form 61 = .ok (.l2i, 1) := by decide +kernel
theorem dX4_form_62 : decode cX4_form 62 = .ok (.ireturn, 1) := by decide +kernel
theorem dX4_begin_0 : decode cX4_begin 0 = .ok (.aload_n 0, 1) := by decide +kernel
theorem dX4_begin_1 : decode cX4_begin 1 = .ok (.lload_n 1, 1) := by decide +kernel
theorem dX4_begin_2 : decode cX4_begin 2 = .ok (.putfield 70, 3) := by decide +kernel
theorem dX4_begin_5 : decode cX4_begin 5 = .ok (.aload_n 0, 1) := by decide +kernel
theorem dX4_begin_6 : decode cX4_begin 6 = .ok (.lload_n 3, 1) := by decide +kernel
theorem dX4_begin_7 : decode cX4_begin 7 = .ok (.putfield 74, 3) := by decide +kernel
theorem dX4_begin_10 : decode cX4_begin 10 = .ok (.aload_n 0, 1) := by decide +kernel
theorem dX4_begin_11 : decode cX4_begin 11 = .ok (.lload 5, 2) := by decide +kernel
theorem dX4_begin_13 : decode cX4_begin 13 = .ok (.putfield 77, 3) := by decide +kernel
theorem dX4_begin_16 : decode cX4_begin 16 = .ok (.aload_n 0, 1) := by decide +kernel
theorem dX4_begin_17 : decode cX4_begin 17 = .ok (.lconst 1, 1) := by decide +kernel
theorem dX4_begin_18 : decode cX4_begin 18 = .ok (.putfield 80, 3) := by decide +kernel
theorem dX4_begin_21 : decode cX4_begin 21 = .ok (.aload_n 0, 1) := by decide +kernel
theorem dX4_begin_22 : decode cX4_begin 22 = .ok (.lconst 0, 1) := by decide +kernel
theorem dX4_begin_23 : decode cX4_begin 23 = .ok (.putfield 83, 3) := by decide +kernel
theorem dX4_begin_26 : decode cX4_begin 26 = .ok (.aload_n 0, 1) := by decide +kernel
theorem dX4_begin_27 : decode cX4_begin 27 = .ok (.lconst 0, 1) := by decide +kernel
theorem dX4_begin_28 : decode cX4_begin 28 = .ok (.putfield 86, 3) := by decide +kernel
theorem dX4_begin_31 : decode cX4_begin 31 = .ok (.aload_n 0, 1) := by decide +kernel
theorem dX4_begin_32 : decode cX4_begin 32 = .ok (.lconst 1, 1) := by decide +kernel
theorem dX4_begin_33 : decode cX4_begin 33 = .ok (.putfield 89, 3) := by decide +kernel
theorem dX4_begin_36 : decode cX4_begin 36 = .ok (.return_, 1) := by decide +kernel
theorem dX4_apply_0 : decode cX4_apply 0 = .ok (.aload_n 0, 1) := by decide +kernel
theorem dX4_apply_1 : decode cX4_apply 1 = .ok (.getfield 70, 3) := by decide +kernel
theorem dX4_apply_4 : decode cX4_apply 4 = .ok (.lload_n 1, 1) := by decide +kernel
theorem dX4_apply_5 : decode cX4_apply 5 = .ok (.lmul, 1) := by decide +kernel
theorem dX4_apply_6 : decode cX4_apply 6 = .ok (.lload_n 1, 1) := by decide +kernel
theorem dX4_apply_7 : decode cX4_apply 7 = .ok (.lmul, 1) := by decide +kernel
theorem dX4_apply_8 : decode cX4_apply 8 = .ok (.aload_n 0, 1) := by decide +kernel
theorem dX4_apply_9 : decode cX4_apply 9 = .ok (.getfield 74, 3) := by decide +kernel
theorem dX4_apply_12 : decode cX4_apply 12 = .ok (.lload_n 1, 1) := by decide +kernel
theorem dX4_apply_13 : decode cX4_apply 13 = .ok (.lmul, 1) := by decide +kernel
theorem dX4_apply_14 : decode cX4_apply 14 = .ok (.lload 5, 2) := by decide +kernel
theorem dX4_apply_16 : decode cX4_apply 16 = .ok (.lmul, 1) := by decide +kernel
theorem dX4_apply_17 : decode cX4_apply 17 = .ok (.ladd, 1) := by decide +kernel
theorem dX4_apply_18 : decode cX4_apply 18 = .ok (.aload_n 0, 1) := by decide +kernel
theorem dX4_apply_19 : decode cX4_apply 19 = .ok (.getfield 77, 3) := by decide +kernel
theorem dX4_apply_22 : decode cX4_apply 22 = .ok (.lload 5, 2) := by decide +kernel
theorem dX4_apply_24 : decode cX4_apply 24 = .ok (.lmul, 1) := by decide +kernel
theorem dX4_apply_25 : decode cX4_apply 25 = .ok (.lload 5, 2) := by decide +kernel
theorem dX4_apply_27 : decode cX4_apply 27 = .ok (.lmul, 1) := by decide +kernel
theorem dX4_apply_28 : decode cX4_apply 28 = .ok (.ladd, 1) := by decide +kernel
theorem dX4_apply_29 : decode cX4_apply 29 = .ok (.lstore 9, 2) := by decide +kernel
theorem dX4_apply_31 : decode cX4_apply 31 = .ok (.aload_n 0, 1) := by decide +kernel
theorem dX4_apply_32 : decode cX4_apply 32 = .ok (.getfield 70, 3) := by decide +kernel
theorem dX4_apply_35 : decode cX4_apply 35 = .ok (.lload_n 3, 1) := by decide +kernel
theorem dX4_apply_36 : decode cX4_apply 36 = .ok (.lmul, 1) := by decide +kernel
theorem dX4_apply_37 : decode cX4_apply 37 = .ok (.lload_n 3, 1) := by decide +kernel
theorem dX4_apply_38 : decode cX4_apply 38 = .ok (.lmul, 1) := by decide +kernel
theorem dX4_apply_39 : decode cX4_apply 39 = .ok (.aload_n 0, 1) := by decide +kernel
theorem dX4_apply_40 : decode cX4_apply 40 = .ok (.getfield 74, 3) := by decide +kernel
theorem dX4_apply_43 : decode cX4_apply 43 = .ok (.lload_n 3, 1) := by decide +kernel
theorem dX4_apply_44 : decode cX4_apply 44 = .ok (.lmul, 1) := by decide +kernel
theorem dX4_apply_45 : decode cX4_apply 45 = .ok (.lload 7, 2) := by decide +kernel
theorem dX4_apply_47 : decode cX4_apply 47 = .ok (.lmul, 1) := by decide +kernel
theorem dX4_apply_48 : decode cX4_apply 48 = .ok (.ladd, 1) := by decide +kernel
theorem dX4_apply_49 : decode cX4_apply 49 = .ok (.aload_n 0, 1) := by decide +kernel
theorem dX4_apply_50 : decode cX4_apply 50 = .ok (.getfield 77, 3) := by decide +kernel
theorem dX4_apply_53 : decode cX4_apply 53 = .ok (.lload 7, 2) := by decide +kernel
theorem dX4_apply_55 : decode cX4_apply 55 = .ok (.lmul, 1) := by decide +kernel
theorem dX4_apply_56 : decode cX4_apply 56 = .ok (.lload 7, 2) := by decide +kernel
theorem dX4_apply_58 : decode cX4_apply 58 = .ok (.lmul, 1) := by decide +kernel
theorem dX4_apply_59 : decode cX4_apply 59 = .ok (.ladd, 1) := by decide +kernel
theorem dX4_apply_60 : decode cX4_apply 60 = .ok (.lstore 11, 2) := by decide +kernel
theorem dX4_apply_62 : decode cX4_apply 62 = .ok (.aload_n 0, 1) := by decide +kernel
theorem dX4_apply_63 : decode cX4_apply 63 = .ok (.ldc2_w 92, 3) := by decide +kernel
theorem dX4_apply_66 : decode cX4_apply 66 = .ok (.aload_n 0, 1) := by decide +kernel
theorem dX4_apply_67 : decode cX4_apply 67 = .ok (.getfield 70, 3) := by decide +kernel
theorem dX4_apply_70 : decode cX4_apply 70 = .ok (.lmul, 1) := by decide +kernel
theorem dX4_apply_71 : decode cX4_apply 71 = .ok (.lload_n 1, 1) := by decide +kernel
theorem dX4_apply_72 : decode cX4_apply 72 = .ok (.lmul, 1) := by decide +kernel
theorem dX4_apply_73 : decode cX4_apply 73 = .ok (.lload_n 3, 1) := by decide +kernel
theorem dX4_apply_74 : decode cX4_apply 74 = .ok (.lmul, 1) := by decide +kernel
theorem dX4_apply_75 : decode cX4_apply 75 = .ok (.aload_n 0, 1) := by decide +kernel
theorem dX4_apply_76 : decode cX4_apply 76 = .ok (.getfield 74, 3) := by decide +kernel
theorem dX4_apply_79 : decode cX4_apply 79 = .ok (.lload_n 1, 1) := by decide +kernel
theorem dX4_apply_80 : decode cX4_apply 80 = .ok (.lload 7, 2) := by decide +kernel
theorem dX4_apply_82 : decode cX4_apply 82 = .ok (.lmul, 1) := by decide +kernel
theorem dX4_apply_83 : decode cX4_apply 83 = .ok (.lload_n 3, 1) := by decide +kernel
theorem dX4_apply_84 : decode cX4_apply 84 = .ok (.lload 5, 2) := by decide +kernel
theorem dX4_apply_86 : decode cX4_apply 86 = .ok (.lmul, 1) := by decide +kernel
theorem dX4_apply_87 : decode cX4_apply 87 = .ok (.ladd, 1) := by decide +kernel
theorem dX4_apply_88 : decode cX4_apply 88 = .ok (.lmul, 1) := by decide +kernel
theorem dX4_apply_89 : decode cX4_apply 89 = .ok (.ladd, 1) := by decide +kernel
theorem dX4_apply_90 : decode cX4_apply 90 = .ok (.ldc2_w 92, 3) := by decide +kernel
theorem dX4_apply_93 : decode cX4_apply 93 = .ok (.aload_n 0, 1) := by decide +kernel
theorem dX4_apply_94 : decode cX4_apply 94 = .ok (.getfield 77, 3) := by decide +kernel
theorem dX4_apply_97 : decode cX4_apply 97 = .ok (.lmul, 1) := by decide +kernel
theorem dX4_apply_98 : decode cX4_apply 98 = .ok (.lload 5, 2) := by decide +kernel
theorem dX4_apply_100 : decode cX4_apply 100 = .ok (.lmul, 1) := by decide +kernel
theorem dX4_apply_101 : decode cX4_apply 101 = .ok (.lload 7, 2) := by decide +kernel
theorem dX4_apply_103 : decode cX4_apply 103 = .ok (.lmul, 1) := by decide +kernel
theorem dX4_apply_104 : decode cX4_apply 104 = .ok (.ladd, 1) := by decide +kernel
theorem dX4_apply_105 : decode cX4_apply 105 = .ok (.putfield 74, 3) := by decide +kernel
theorem dX4_apply_108 : decode cX4_apply 108 = .ok (.aload_n 0, 1) := by decide +kernel
theorem dX4_apply_109 : decode cX4_apply 109 = .ok (.lload 9, 2) := by decide +kernel
theorem dX4_apply_111 : decode cX4_apply 111 = .ok (.putfield 70, 3) := by decide +kernel
theorem dX4_apply_114 : decode cX4_apply 114 = .ok (.aload_n 0, 1) := by decide +kernel
theorem dX4_apply_115 : decode cX4_apply 115 = .ok (.lload 11, 2) := by decide +kernel
theorem dX4_apply_117 : decode cX4_apply 117 = .ok (.putfield 77, 3) := by decide +kernel
theorem dX4_apply_120 : decode cX4_apply 120 = .ok (.aload_n 0, 1) := by decide +kernel
theorem dX4_apply_121 : decode cX4_apply 121 = .ok (.getfield 80, 3) := by decide +kernel
theorem dX4_apply_124 : decode cX4_apply 124 = .ok (.lstore 13, 2) := by decide +kernel
theorem dX4_apply_126 : decode cX4_apply 126 = .ok (.aload_n 0, 1) := by decide +kernel
theorem dX4_apply_127 : decode cX4_apply 127 = .ok (.getfield 86, 3) := by decide +kernel
theorem dX4_apply_130 : decode cX4_apply 130 = .ok (.lstore 15, 2) := by decide +kernel
theorem dX4_apply_132 : decode cX4_apply 132 = .ok (.aload_n 0, 1) := by decide +kernel
theorem dX4_apply_133 : decode cX4_apply 133 = .ok (.lload 13, 2) := by decide +kernel
theorem dX4_apply_135 : decode cX4_apply 135 = .ok (.lload_n 1, 1) := by decide +kernel
theorem dX4_apply_136 : decode cX4_apply 136 = .ok (.lmul, 1) := by decide +kernel
theorem dX4_apply_137 : decode cX4_apply 137 = .ok (.aload_n 0, 1) := by decide +kernel
theorem dX4_apply_138 : decode cX4_apply 138 = .ok (.getfield 83, 3) := by decide +kernel
theorem dX4_apply_141 : decode cX4_apply 141 = .ok (.lload 5, 2) := by decide +kernel
theorem dX4_apply_143 : decode cX4_apply 143 = .ok (.lmul, 1) := by decide +kernel
theorem dX4_apply_144 : decode cX4_apply 144 = .ok (.ladd, 1) := by decide +kernel
theorem dX4_apply_145 : decode cX4_apply 145 = .ok (.putfield 80, 3) := by decide +kernel
theorem dX4_apply_148 : decode cX4_apply 148 = .ok (.aload_n 0, 1) := by decide +kernel
theorem dX4_apply_149 : decode cX4_apply 149 = .ok (.lload 13, 2) := by decide +kernel
theorem dX4_apply_151 : decode cX4_apply 151 = .ok (.lload_n 3, 1) := by decide +kernel
theorem dX4_apply_152 : decode cX4_apply 152 = .ok (.lmul, 1) := by decide +kernel
theorem dX4_apply_153 : decode cX4_apply 153 = .ok (.aload_n 0, 1) := by decide +kernel
theorem dX4_apply_154 : decode cX4_apply 154 = .ok (.getfield 83, 3) := by decide +kernel
theorem dX4_apply_157 : decode cX4_apply 157 = .ok (.lload 7, 2) := by decide +kernel
theorem dX4_apply_159 : decode cX4_apply 159 = .ok (.lmul, 1) := by decide +kernel
theorem dX4_apply_160 : decode cX4_apply 160 = .ok (.ladd, 1) := by decide +kernel
theorem dX4_apply_161 : decode cX4_apply 161 = .ok (.putfield 83, 3) := by decide +kernel
theorem dX4_apply_164 : decode cX4_apply 164 = .ok (.aload_n 0, 1) := by decide +kernel
theorem dX4_apply_165 : decode cX4_apply 165 = .ok (.lload 15, 2) := by decide +kernel
theorem dX4_apply_167 : decode cX4_apply 167 = .ok (.lload_n 1, 1) := by decide +kernel
theorem dX4_apply_168 : decode cX4_apply 168 = .ok (.lmul, 1) := by decide +kernel
theorem dX4_apply_169 : decode cX4_apply 169 = .ok (.aload_n 0, 1) := by decide +kernel
theorem dX4_apply_170 : decode cX4_apply 170 = .ok (.getfield 89, 3) := by decide +kernel
theorem dX4_apply_173 : decode cX4_apply 173 = .ok (.lload 5, 2) := by decide +kernel
theorem dX4_apply_175 : decode cX4_apply 175 = .ok (.lmul, 1) := by decide +kernel
theorem dX4_apply_176 : decode cX4_apply 176 = .ok (.ladd, 1) := by decide +kernel
theorem dX4_apply_177 : decode cX4_apply 177 = .ok (.putfield 86, 3) := by decide +kernel
theorem dX4_apply_180 : decode cX4_apply 180 = .ok (.aload_n 0, 1) := by decide +kernel
theorem dX4_apply_181 : decode cX4_apply 181 = .ok (.lload 15, 2) := by decide +kernel
theorem dX4_apply_183 : decode cX4_apply 183 = .ok (.lload_n 3, 1) := by decide +kernel
theorem dX4_apply_184 : decode cX4_apply 184 = .ok (.lmul, 1) := by decide +kernel
theorem dX4_apply_185 : decode cX4_apply 185 = .ok (.aload_n 0, 1) := by decide +kernel
theorem dX4_apply_186 : decode cX4_apply 186 = .ok (.getfield 89, 3) := by decide +kernel
theorem dX4_apply_189 : decode cX4_apply 189 = .ok (.lload 7, 2) := by decide +kernel
theorem dX4_apply_191 : decode cX4_apply 191 = .ok (.lmul, 1) := by decide +kernel
theorem dX4_apply_192 : decode cX4_apply 192 = .ok (.ladd, 1) := by decide +kernel
theorem dX4_apply_193 : decode cX4_apply 193 = .ok (.putfield 89, 3) := by decide +kernel
theorem dX4_apply_196 : decode cX4_apply 196 = .ok (.return_, 1) := by decide +kernel
theorem dX4_shift_0 : decode cX4_shift 0 = .ok (.aload_n 0, 1) := by decide +kernel
theorem dX4_shift_1 : decode cX4_shift 1 = .ok (.getfield 70, 3) := by decide +kernel
theorem dX4_shift_4 : decode cX4_shift 4 = .ok (.aload_n 0, 1) := by decide +kernel
theorem dX4_shift_5 : decode cX4_shift 5 = .ok (.getfield 74, 3) := by decide +kernel
theorem dX4_shift_8 : decode cX4_shift 8 = .ok (.lsub, 1) := by decide +kernel
theorem dX4_shift_9 : decode cX4_shift 9 = .ok (.ldc2_w 92, 3) := by decide +kernel
theorem dX4_shift_12 : decode cX4_shift 12 = .ok (.aload_n 0, 1) := by decide +kernel
theorem dX4_shift_13 : decode cX4_shift 13 = .ok (.getfield 70, 3) := by decide +kernel
theorem dX4_shift_16 : decode cX4_shift 16 = .ok (.lmul, 1) := by decide +kernel
theorem dX4_shift_17 : decode cX4_shift 17 = .ok (.ldiv, 1) := by decide +kernel
theorem dX4_shift_18 : decode cX4_shift 18 = .ok (.lstore_n 1, 1) := by decide +kernel
theorem dX4_shift_19 : decode cX4_shift 19 = .ok (.aload_n 0, 1) := by decide +kernel
theorem dX4_shift_20 : decode cX4_shift 20 = .ok (.getfield 74, 3) := by decide +kernel
theorem dX4_shift_23 : decode cX4_shift 23 = .ok (.ldc2_w 92, 3) := by decide +kernel
theorem dX4_shift_26 : decode cX4_shift 26 = .ok (.aload_n 0, 1) := by decide +kernel
theorem dX4_shift_27 : decode cX4_shift 27 = .ok (.getfield 70, 3) := by decide +kernel
theorem dX4_shift_30 : decode cX4_shift 30 = .ok (.lmul, 1) := by decide +kernel
theorem dX4_shift_31 : decode cX4_shift 31 = .ok (.lload_n 1, 1) := by decide +kernel
theorem dX4_shift_32 : decode cX4_shift 32 = .ok (.lmul, 1) := by decide +kernel
theorem dX4_shift_33 : decode cX4_shift 33 = .ok (.ladd, 1) := by decide +kernel
theorem dX4_shift_34 : decode cX4_shift 34 = .ok (.aload_n 0, 1) := by decide +kernel
theorem dX4_shift_35 : decode cX4_shift 35 = .ok (.getfield 70, 3) := by decide +kernel
theorem dX4_shift_38 : decode cX4_shift 38 = .ok (.lcmp, 1) := by decide +kernel
theorem dX4_shift_39 : decode cX4_shift 39 = .ok (.ifCond .le 10, 3) := by decide +kernel
theorem dX4_shift_42 : decode cX4_shift 42 = .ok (.lload_n 1, 1) := by decide +kernel
theorem dX4_shift_43 : decode cX4_shift 43 = .ok (.lconst 1, 1) := by decide +kernel
theorem dX4_shift_44 : decode cX4_shift 44 = .ok (.lsub, 1) := by decide +kernel
theorem dX4_shift_45 : decode cX4_shift 45 = .ok (.lstore_n 1, 1) := by decide +kernel
theorem dX4_shift_46 : decode cX4_shift 46 = .ok (.goto (-27), 3) := by decide +kernel
theorem dX4_shift_49 : decode cX4_shift 49 = .ok (.aload_n 0, 1) := by decide +kernel
theorem dX4_shift_50 : decode cX4_shift 50 = .ok (.getfield 74, 3) := by decide +kernel
theorem dX4_shift_53 : decode cX4_shift 53 = .ok (.ldc2_w 92, 3) := by decide +kernel
theorem dX4_shift_56 : decode cX4_shift 56 = .ok (.aload_n 0, 1) := by decide +kernel
theorem dX4_shift_57 : decode cX4_shift 57 = .ok (.getfield 70, 3) := by decide +kernel
theorem dX4_shift_60 : decode cX4_shift 60 = .ok (.lmul, 1) := by decide +kernel
theorem dX4_shift_61 : decode cX4_shift 61 = .ok (.lload_n 1, 1) := by decide +kernel
theorem dX4_shift_62 : decode cX4_shift 62 = .ok (.lmul, 1) := by decide +kernel
theorem dX4_shift_63 : decode cX4_shift 63 = .ok (.ladd, 1) := by decide +kernel
theorem dX4_shift_64 : decode cX4_shift 64 = .ok (.aload_n 0, 1) := by decide +kernel
theorem dX4_shift_65 : decode cX4_shift 65 = .ok (.getfield 70, 3) := by decide +kernel
theorem dX4_shift_68 : decode cX4_shift 68 = .ok (.lneg, 1) := by decide +kernel
theorem dX4_shift_69 : decode cX4_shift 69 = .ok (.lcmp, 1) := by decide +kernel
theorem dX4_shift_70 : decode cX4_shift 70 = .ok (.ifCond .gt 10, 3) := by decide +kernel
theorem dX4_shift_73 : decode cX4_shift 73 = .ok (.lload_n 1, 1) := by decide +kernel
theorem dX4_shift_74 : decode cX4_shift 74 = .ok (.lconst 1, 1) := by decide +kernel
theorem dX4_shift_75 : decode cX4_shift 75 = .ok (.ladd, 1) := by decide +kernel
theorem dX4_shift_76 : decode cX4_shift 76 = .ok (.lstore_n 1, 1) := by decide +kernel
theorem dX4_shift_77 : decode cX4_shift 77 = .ok (.goto (-28), 3) := by decide +kernel
theorem dX4_shift_80 : decode cX4_shift 80 = .ok (.lload_n 1, 1) := by decide +kernel
theorem dX4_shift_81 : decode cX4_shift 81 = .ok (.lreturn, 1) := by decide +kernel
set_option maxRecDepth 20000 in
theorem ggX4_steps_X4_isReduced : GoodIn wsX4_steps wsX4_isReduced := goodIn_r _ [8, 9, 10, 7, 11] (by decide +kernel) (by decide +kernel)
set_option maxRecDepth 20000 in
theorem gX4_steps_X4_isReduced : GoodIn wsX4_steps (va_wsS RX4 49 yX4_isReduced wsX4_isReduced) := goodIn_app (goodIn_of _ (by decide +kernel)) ggX4_steps_X4_isReduced
set_option maxRecDepth 20000 in
theorem ggX4_steps_X4_size : GoodIn wsX4_steps wsX4_size := goodIn_r _ [11] (by decide +kernel) (by decide +kernel)
set_option maxRecDepth 20000 in
theorem gX4_steps_X4_size : GoodIn wsX4_steps (va_wsS RX4 41 yX4_size wsX4_size) := goodIn_app (goodIn_of _ (by decide +kernel)) ggX4_steps_X4_size
set_option maxRecDepth 20000 in
theorem ggX4_steps_X4_shift : GoodIn wsX4_steps wsX4_shift := goodIn_r _ [15, 1, 2, 16, 25, 26, 27, 28, 29, 30, 31, 32, 33, 34, 35, 36, 37, 38, 39, 40, 41, 42] (by decide +kernel) (by decide +kernel)
set_option maxRecDepth 20000 in
theorem gX4_steps_X4_shift : GoodIn wsX4_steps (wsV RX4 94 RX4 yX4_shift wsX4_shift) := goodIn_app (goodIn_of _ (by decide +kernel)) ggX4_steps_X4_shift
set_option maxRecDepth 20000 in
theorem ggX4_steps_X4_apply : GoodIn wsX4_steps wsX4_apply := goodIn_r _ [20, 1, 2, 3, 16, 21, 22, 23, 24, 25, 26, 27, 28, 29, 30, 31, 32, 33, 34, 35, 36, 37, 38, 39, 40, 41, 42] (by decide +kernel) (by decide +kernel)
set_option maxRecDepth 20000 in
theorem gX4_steps_X4_apply : GoodIn wsX4_steps (wsV RX4 98 RX4 yX4_apply wsX4_apply) := goodIn_app (goodIn_of _ (by decide +kernel)) ggX4_steps_X4_apply
theorem dX4_steps_0 : decode cX4_steps 0 = .ok (.iconst 0, 1) := by decide +kernel
theorem dX4_steps_1 : decode cX4_steps 1 = .ok (.istore_n 1, 1) := by decide +kernel
theorem dX4_steps_2 : decode cX4_steps 2 = .ok (.aload_n 0, 1) := by decide +kernel
theorem dX4_steps_3 : decode cX4_steps 3 = .ok (.getfield 70, 3) := by decide +kernel
theorem dX4_steps_6 : decode cX4_steps 6 = .ok (.aload_n 0, 1) := by decide +kernel
theorem dX4_steps_7 : decode cX4_steps 7 = .ok (.getfield 74, 3) := by decide +kernel
theorem dX4_steps_10 : decode cX4_steps 10 = .ok (.aload_n 0, 1) := by decide +kernel
theorem dX4_steps_11 : decode cX4_steps 11 = .ok (.getfield 77, 3) := by decide +kernel
theorem dX4_steps_14 : decode cX4_steps 14 = .ok (.invokestatic 49, 3) := by decide +kernel
theorem dX4_steps_17 : decode cX4_steps 17 = .ok (.ifCond .ne 61, 3) := by decide +kernel
theorem dX4_steps_20 : decode cX4_steps 20 = .ok (.aload_n 0, 1) := by decide +kernel
theorem dX4_steps_21 : decode cX4_steps 21 = .ok (.getfield 74, 3) := by decide +kernel
theorem dX4_steps_24 : decode cX4_steps 24 = .ok (.invokestatic 41, 3) := by decide +kernel
theorem dX4_steps_27 : decode cX4_steps 27 = .ok (.aload_n 0, 1) := by decide +kernel
theorem dX4_steps_28 : decode cX4_steps 28 = .ok (.getfield 70, 3) := by decide +kernel
theorem dX4_steps_31 : decode cX4_steps 31 = .ok (.lcmp, 1) := by decide +kernel
theorem dX4_steps_32 : decode cX4_steps 32 = .ok (.ifCond .gt 16, 3) := by decide +kernel
theorem dX4_steps_35 : decode cX4_steps 35 = .ok (.aload_n 0, 1) := by decide +kernel
theorem dX4_steps_36 : decode cX4_steps 36 = .ok (.getfield 74, 3) := by decide +kernel
theorem dX4_steps_39 : decode cX4_steps 39 = .ok (.aload_n 0, 1) := by decide +kernel
theorem dX4_steps_40 : decode cX4_steps 40 = .ok (.getfield 70, 3) := by decide +kernel
theorem dX4_steps_43 : decode cX4_steps 43 = .ok (.lneg, 1) := by decide +kernel
theorem dX4_steps_44 : decode cX4_steps 44 = .ok (.lcmp, 1) := by decide +kernel
theorem dX4_steps_45 : decode cX4_steps 45 = .ok (.ifCond .ne 17, 3) := by decide +kernel
theorem dX4_steps_48 : decode cX4_steps 48 = .ok (.aload_n 0, 1) := by decide +kernel
theorem dX4_steps_49 : decode cX4_steps 49 = .ok (.lconst 1, 1) := by decide +kernel
theorem dX4_steps_50 : decode cX4_steps 50 = .ok (.aload_n 0, 1) := by decide +kernel
theorem dX4_steps_51 : decode cX4_steps 51 = .ok (.invokevirtual 94, 3) := by decide +kernel
theorem dX4_steps_54 : decode cX4_steps 54 = .ok (.lconst 0, 1) := by decide +kernel
theorem dX4_steps_55 : decode cX4_steps 55 = .ok (.lconst 1, 1) := by decide +kernel
theorem dX4_steps_56 : decode cX4_steps 56 = .ok (.invokevirtual 98, 3) := by decide +kernel
theorem dX4_steps_59 : decode cX4_steps 59 = .ok (.goto 13, 3) := by decide +kernel
theorem dX4_steps_62 : decode cX4_steps 62 = .ok (.aload_n 0, 1) := by decide +kernel
theorem dX4_steps_63 : decode cX4_steps 63 = .ok (.lconst 0, 1) := by decide +kernel
theorem dX4_steps_64 : decode cX4_steps 64 = .ok (.ldc2_w 102, 3) := by decide +kernel
theorem dX4_steps_67 : decode cX4_steps 67 = .ok (.lconst 1, 1) := by decide +kernel
theorem dX4_steps_68 : decode cX4_steps 68 = .ok (.lconst 0, 1) := by decide +kernel
theorem dX4_steps_69 : decode cX4_steps 69 = .ok (.invokevirtual 98, 3) := by decide +kernel
theorem dX4_steps_72 : decode cX4_steps 72 = .ok (.iinc 1 1, 3) := by decide +kernel
theorem dX4_steps_75 : decode cX4_steps 75 = .ok (.goto (-73), 3) := by decide +kernel
theorem dX4_steps_78 : decode cX4_steps 78 = .ok (.iload_n 1, 1) := by decide +kernel
theorem dX4_steps_79 : decode cX4_steps 79 = .ok (.ireturn, 1) := by decide +kernel
set_option maxRecDepth 20000 in
theorem ggX4_reduce_X4_outside : GoodIn wsX4_reduce wsX4_outside := goodIn_r _ [15] (by decide +kernel) (by decide +kernel)
set_option maxRecDepth 20000 in
theorem gX4_reduce_X4_outside : GoodIn wsX4_reduce (va_wsS RX4 59 yX4_outside wsX4_outside) := goodIn_app (goodIn_of _ (by decide +kernel)) ggX4_reduce_X4_outside
set_option maxRecDepth 20000 in
theorem ggX4_reduce_X4_primitive : GoodIn wsX4_reduce wsX4_primitive := goodIn_r _ [18, 19, 20, 14, 21, 22, 23, 24] (by decide +kernel) (by decide +kernel)
set_option maxRecDepth 20000 in
theorem gX4_reduce_X4_primitive : GoodIn wsX4_reduce (va_wsS RX4 53 yX4_primitive wsX4_primitive) := goodIn_app (goodIn_of _ (by decide +kernel)) ggX4_reduce_X4_primitive
set_option maxRecDepth 20000 in
theorem ggX4_reduce_X4_refuse : GoodIn wsX4_reduce wsX4_refuse := goodIn_r _ [28, 2, 50, 51, 52, 53, 54, 55, 56, 57, 58, 59, 60, 61, 62, 63, 64, 65, 66, 67] (by decide +kernel) (by decide +kernel)
set_option maxRecDepth 20000 in
theorem gX4_reduce_X4_refuse : GoodIn wsX4_reduce (wsV RX4 63 RX4 yX4_refuse wsX4_refuse) := goodIn_app (goodIn_of _ (by decide +kernel)) ggX4_reduce_X4_refuse
set_option maxRecDepth 20000 in
theorem ggX4_reduce_X4_begin : GoodIn wsX4_reduce wsX4_begin := goodIn_r _ [32, 5, 6, 7, 8, 9, 10, 11, 50, 51, 52, 53, 54, 55, 56, 57, 58, 59, 60, 61, 62, 63, 64, 65, 66, 67] (by decide +kernel) (by decide +kernel)
set_option maxRecDepth 20000 in
theorem gX4_reduce_X4_begin : GoodIn wsX4_reduce (wsV RX4 106 RX4 yX4_begin wsX4_begin) := goodIn_app (goodIn_of _ (by decide +kernel)) ggX4_reduce_X4_begin
set_option maxRecDepth 20000 in
theorem ggX4_reduce_X4_steps : GoodIn wsX4_reduce wsX4_steps := goodIn_r _ [36, 5, 6, 7, 37, 38, 39, 14, 40, 22, 23, 24, 41, 42, 43, 44, 45, 46, 47, 48, 49, 8, 10, 9, 11, 50, 51, 52, 53, 54, 55, 56, 57, 58, 59, 60, 61, 62, 63, 64, 65, 66, 67] (by decide +kernel) (by decide +kernel)
set_option maxRecDepth 20000 in
theorem gX4_reduce_X4_steps : GoodIn wsX4_reduce (wsV RX4 110 RX4 yX4_steps wsX4_steps) := goodIn_app (goodIn_of _ (by decide +kernel)) ggX4_reduce_X4_steps
theorem dX4_reduce_0 : decode cX4_reduce 0 = .ok (.iload_n 1, 1) := by decide +kernel
theorem dX4_reduce_1 : decode cX4_reduce 1 = .ok (.iconst 1, 1) := by decide +kernel
theorem dX4_reduce_2 : decode cX4_reduce 2 = .ok (.sipush 20000, 3) := by decide +kernel
theorem dX4_reduce_5 : decode cX4_reduce 5 = .ok (.invokestatic 59, 3) := by decide +kernel
theorem dX4_reduce_8 : decode cX4_reduce 8 = .ok (.ifCond .ne 33, 3) := by decide +kernel
theorem dX4_reduce_11 : decode cX4_reduce 11 = .ok (.iload_n 2, 1) := by decide +kernel
theorem dX4_reduce_12 : decode cX4_reduce 12 = .ok (.sipush (-20000), 3) := by decide +kernel
theorem dX4_reduce_15 : decode cX4_reduce 15 = .ok (.sipush 20000, 3) := by decide +kernel
theorem dX4_reduce_18 : decode cX4_reduce 18 = .ok (.invokestatic 59, 3) := by decide +kernel
theorem dX4_reduce_21 : decode cX4_reduce 21 = .ok (.ifCond .ne 20, 3) := by decide +kernel
theorem dX4_reduce_24 : decode cX4_reduce 24 = .ok (.iload_n 3, 1) := by decide +kernel
theorem dX4_reduce_25 : decode cX4_reduce 25 = .ok (.sipush (-20000), 3) := by decide +kernel
theorem dX4_reduce_28 : decode cX4_reduce 28 = .ok (.sipush 20000, 3) := by decide +kernel
theorem dX4_reduce_31 : decode cX4_reduce 31 = .ok (.invokestatic 59, 3) := by decide +kernel
theorem dX4_reduce_34 : decode cX4_reduce 34 = .ok (.ifCond .ne 7, 3) := by decide +kernel
theorem dX4_reduce_37 : decode cX4_reduce 37 = .ok (.iconst 1, 1) := by decide +kernel
theorem dX4_reduce_38 : decode cX4_reduce 38 = .ok (.goto 4, 3) := by decide +kernel
theorem dX4_reduce_41 : decode cX4_reduce 41 = .ok (.iconst 0, 1) := by decide +kernel
theorem dX4_reduce_42 : decode cX4_reduce 42 = .ok (.istore 4, 2) := by decide +kernel
theorem dX4_reduce_44 : decode cX4_reduce 44 = .ok (.iload 4, 2) := by decide +kernel
theorem dX4_reduce_46 : decode cX4_reduce 46 = .ok (.ifCond .eq 35, 3) := by decide +kernel
theorem dX4_reduce_49 : decode cX4_reduce 49 = .ok (.iload_n 2, 1) := by decide +kernel
theorem dX4_reduce_50 : decode cX4_reduce 50 = .ok (.i2l, 1) := by decide +kernel
theorem dX4_reduce_51 : decode cX4_reduce 51 = .ok (.iload_n 2, 1) := by decide +kernel
theorem dX4_reduce_52 : decode cX4_reduce 52 = .ok (.i2l, 1) := by decide +kernel
theorem dX4_reduce_53 : decode cX4_reduce 53 = .ok (.lmul, 1) := by decide +kernel
theorem dX4_reduce_54 : decode cX4_reduce 54 = .ok (.ldc2_w 104, 3) := by decide +kernel
theorem dX4_reduce_57 : decode cX4_reduce 57 = .ok (.iload_n 1, 1) := by decide +kernel
theorem dX4_reduce_58 : decode cX4_reduce 58 = .ok (.i2l, 1) := by decide +kernel
theorem dX4_reduce_59 : decode cX4_reduce 59 = .ok (.lmul, 1) := by decide +kernel
theorem dX4_reduce_60 : decode cX4_reduce 60 = .ok (.iload_n 3, 1) := by decide +kernel
theorem dX4_reduce_61 : decode cX4_reduce 61 = .ok (.i2l, 1) := by decide +kernel
theorem dX4_reduce_62 : decode cX4_reduce 62 = .ok (.lmul, 1) := by decide +kernel
theorem dX4_reduce_63 : decode cX4_reduce 63 = .ok (.lsub, 1) := by decide +kernel
theorem dX4_reduce_64 : decode cX4_reduce 64 = .ok (.lconst 0, 1) := by decide +kernel
theorem dX4_reduce_65 : decode cX4_reduce 65 = .ok (.lcmp, 1) := by decide +kernel
theorem dX4_reduce_66 : decode cX4_reduce 66 = .ok (.ifCond .ge 15, 3) := by decide +kernel
theorem dX4_reduce_69 : decode cX4_reduce 69 = .ok (.iload_n 1, 1) := by decide +kernel
theorem dX4_reduce_70 : decode cX4_reduce 70 = .ok (.i2l, 1) := by decide +kernel
theorem dX4_reduce_71 : decode cX4_reduce 71 = .ok (.iload_n 2, 1) := by decide +kernel
theorem dX4_reduce_72 : decode cX4_reduce 72 = .ok (.i2l, 1) := by decide +kernel
theorem dX4_reduce_73 : decode cX4_reduce 73 = .ok (.iload_n 3, 1) := by decide +kernel
theorem dX4_reduce_74 : decode cX4_reduce 74 = .ok (.i2l, 1) := by decide +kernel
theorem dX4_reduce_75 : decode cX4_reduce 75 = .ok (.invokestatic 53, 3) := by decide +kernel
theorem dX4_reduce_78 : decode cX4_reduce 78 = .ok (.ifCond .ne 9, 3) := by decide +kernel
theorem dX4_reduce_81 : decode cX4_reduce 81 = .ok (.aload_n 0, 1) := by decide +kernel
theorem dX4_reduce_82 : decode cX4_reduce 82 = .ok (.iconst 1, 1) := by decide +kernel
theorem dX4_reduce_83 : decode cX4_reduce 83 = .ok (.invokevirtual 63, 3) := by decide +kernel
theorem dX4_reduce_86 : decode cX4_reduce 86 = .ok (.ireturn, 1) := by decide +kernel
theorem dX4_reduce_87 : decode cX4_reduce 87 = .ok (.aload_n 0, 1) := by decide +kernel
theorem dX4_reduce_88 : decode cX4_reduce 88 = .ok (.iconst 0, 1) := by decide +kernel
theorem dX4_reduce_89 : decode cX4_reduce 89 = .ok (.putfield 38, 3) := by decide +kernel
theorem dX4_reduce_92 : decode cX4_reduce 92 = .ok (.aload_n 0, 1) := by decide +kernel
theorem dX4_reduce_93 : decode cX4_reduce 93 = .ok (.iload_n 1, 1) := by decide +kernel
theorem dX4_reduce_94 : decode cX4_reduce 94 = .ok (.i2l, 1) := by decide +kernel
theorem dX4_reduce_95 : decode cX4_reduce 95 = .ok (.iload_n 2, 1) := by decide +kernel
theorem dX4_reduce_96 : decode cX4_reduce 96 = .ok (.i2l, 1) := by decide +kernel
theorem dX4_reduce_97 : decode cX4_reduce 97 = .ok (.iload_n 3, 1) := by decide +kernel
theorem dX4_reduce_98 : decode cX4_reduce 98 = .ok (.i2l, 1) := by decide +kernel
theorem dX4_reduce_99 : decode cX4_reduce 99 = .ok (.invokevirtual 106, 3) := by decide +kernel
theorem dX4_reduce_102 : decode cX4_reduce 102 = .ok (.aload_n 0, 1) := by decide +kernel
theorem dX4_reduce_103 : decode cX4_reduce 103 = .ok (.invokevirtual 110, 3) := by decide +kernel
theorem dX4_reduce_106 : decode cX4_reduce 106 = .ok (.istore 5, 2) := by decide +kernel
theorem dX4_reduce_108 : decode cX4_reduce 108 = .ok (.aload_n 0, 1) := by decide +kernel
theorem dX4_reduce_109 : decode cX4_reduce 109 = .ok (.iconst 1, 1) := by decide +kernel
theorem dX4_reduce_110 : decode cX4_reduce 110 = .ok (.putfield 114, 3) := by decide +kernel
theorem dX4_reduce_113 : decode cX4_reduce 113 = .ok (.aload_n 0, 1) := by decide +kernel
theorem dX4_reduce_114 : decode cX4_reduce 114 = .ok (.getfield 23, 3) := by decide +kernel
theorem dX4_reduce_117 : decode cX4_reduce 117 = .ok (.iconst 0, 1) := by decide +kernel
theorem dX4_reduce_118 : decode cX4_reduce 118 = .ok (.aload_n 0, 1) := by decide +kernel
theorem dX4_reduce_119 : decode cX4_reduce 119 = .ok (.getfield 70, 3) := by decide +kernel
theorem dX4_reduce_122 : decode cX4_reduce 122 = .ok (.lastore, 1) := by decide +kernel
theorem dX4_reduce_123 : decode cX4_reduce 123 = .ok (.aload_n 0, 1) := by decide +kernel
theorem dX4_reduce_124 : decode cX4_reduce 124 = .ok (.getfield 23, 3) := by decide +kernel
theorem dX4_reduce_127 : decode cX4_reduce 127 = .ok (.iconst 1, 1) := by decide +kernel
theorem dX4_reduce_128 : decode cX4_reduce 128 = .ok (.aload_n 0, 1) := by decide +kernel
theorem dX4_reduce_129 : decode cX4_reduce 129 = .ok (.getfield 74, 3) := by decide +kernel
theorem dX4_reduce_132 : decode cX4_reduce 132 = .ok (.lastore, 1) := by decide +kernel
theorem dX4_reduce_133 : decode cX4_reduce 133 = .ok (.aload_n 0, 1) := by decide +kernel
theorem dX4_reduce_134 : decode cX4_reduce 134 = .ok (.getfield 23, 3) := by decide +kernel
theorem dX4_reduce_137 : decode cX4_reduce 137 = .ok (.iconst 2, 1) := by decide +kernel
theorem dX4_reduce_138 : decode cX4_reduce 138 = .ok (.aload_n 0, 1) := by decide +kernel
theorem dX4_reduce_139 : decode cX4_reduce 139 = .ok (.getfield 77, 3) := by decide +kernel
theorem dX4_reduce_142 : decode cX4_reduce 142 = .ok (.lastore, 1) := by decide +kernel
theorem dX4_reduce_143 : decode cX4_reduce 143 = .ok (.aload_n 0, 1) := by decide +kernel
theorem dX4_reduce_144 : decode cX4_reduce 144 = .ok (.getfield 23, 3) := by decide +kernel
theorem dX4_reduce_147 : decode cX4_reduce 147 = .ok (.iconst 3, 1) := by decide +kernel
theorem dX4_reduce_148 : decode cX4_reduce 148 = .ok (.aload_n 0, 1) := by decide +kernel
theorem dX4_reduce_149 : decode cX4_reduce 149 = .ok (.getfield 80, 3) := by decide +kernel
theorem dX4_reduce_152 : decode cX4_reduce 152 = .ok (.lastore, 1) := by decide +kernel
theorem dX4_reduce_153 : decode cX4_reduce 153 = .ok (.aload_n 0, 1) := by decide +kernel
theorem dX4_reduce_154 : decode cX4_reduce 154 = .ok (.getfield 23, 3) := by decide +kernel
theorem dX4_reduce_157 : decode cX4_reduce 157 = .ok (.iconst 4, 1) := by decide +kernel
theorem dX4_reduce_158 : decode cX4_reduce 158 = .ok (.aload_n 0, 1) := by decide +kernel
theorem dX4_reduce_159 : decode cX4_reduce 159 = .ok (.getfield 83, 3) := by decide +kernel
theorem dX4_reduce_162 : decode cX4_reduce 162 = .ok (.lastore, 1) := by decide +kernel
theorem dX4_reduce_163 : decode cX4_reduce 163 = .ok (.aload_n 0, 1) := by decide +kernel
theorem dX4_reduce_164 : decode cX4_reduce 164 = .ok (.getfield 23, 3) := by decide +kernel
theorem dX4_reduce_167 : decode cX4_reduce 167 = .ok (.iconst 5, 1) := by decide +kernel
theorem dX4_reduce_168 : decode cX4_reduce 168 = .ok (.aload_n 0, 1) := by decide +kernel
theorem dX4_reduce_169 : decode cX4_reduce 169 = .ok (.getfield 86, 3) := by decide +kernel
theorem dX4_reduce_172 : decode cX4_reduce 172 = .ok (.lastore, 1) := by decide +kernel
theorem dX4_reduce_173 : decode cX4_reduce 173 = .ok (.aload_n 0, 1) := by decide +kernel
theorem dX4_reduce_174 : decode cX4_reduce 174 = .ok (.getfield 23, 3) := by decide +kernel
theorem dX4_reduce_177 : decode cX4_reduce 177 = .ok (.bipush 6, 2) := by decide +kernel
theorem dX4_reduce_179 : decode cX4_reduce 179 = .ok (.aload_n 0, 1) := by decide +kernel
theorem dX4_reduce_180 : decode cX4_reduce 180 = .ok (.getfield 89, 3) := by decide +kernel
theorem dX4_reduce_183 : decode cX4_reduce 183 = .ok (.lastore, 1) := by decide +kernel
theorem dX4_reduce_184 : decode cX4_reduce 184 = .ok (.iload 5, 2) := by decide +kernel
theorem dX4_reduce_186 : decode cX4_reduce 186 = .ok (.ireturn, 1) := by decide +kernel
theorem dX4_classOf_0 : decode cX4_classOf 0 = .ok (.iconst (-1), 1) := by decide +kernel
theorem dX4_classOf_1 : decode cX4_classOf 1 = .ok (.istore 7, 2) := by decide +kernel
theorem dX4_classOf_3 : decode cX4_classOf 3 = .ok (.iconst 0, 1) := by decide +kernel
theorem dX4_classOf_4 : decode cX4_classOf 4 = .ok (.istore 8, 2) := by decide +kernel
theorem dX4_classOf_6 : decode cX4_classOf 6 = .ok (.iload 8, 2) := by decide +kernel
theorem dX4_classOf_8 : decode cX4_classOf 8 = .ok (.aload_n 0, 1) := by decide +kernel
theorem dX4_classOf_9 : decode cX4_classOf 9 = .ok (.getfield 56, 3) := by decide +kernel
theorem dX4_classOf_12 : decode cX4_classOf 12 = .ok (.if_icmp .ge 55, 3) := by decide +kernel
theorem dX4_classOf_15 : decode cX4_classOf 15 = .ok (.aload_n 0, 1) := by decide +kernel
theorem dX4_classOf_16 : decode cX4_classOf 16 = .ok (.getfield 13, 3) := by decide +kernel
theorem dX4_classOf_19 : decode cX4_classOf 19 = .ok (.iload 8, 2) := by decide +kernel
theorem dX4_classOf_21 : decode cX4_classOf 21 = .ok (.laload, 1) := by decide +kernel
theorem dX4_classOf_22 : decode cX4_classOf 22 = .ok (.lload_n 1, 1) := by decide +kernel
theorem dX4_classOf_23 : decode cX4_classOf 23 = .ok (.lcmp, 1) := by decide +kernel
theorem dX4_classOf_24 : decode cX4_classOf 24 = .ok (.ifCond .ne 33, 3) := by decide +kernel
theorem dX4_classOf_27 : decode cX4_classOf 27 = .ok (.aload_n 0, 1) := by decide +kernel
theorem dX4_classOf_28 : decode cX4_classOf 28 = .ok (.getfield 17, 3) := by decide +kernel
theorem dX4_classOf_31 : decode cX4_classOf 31 = .ok (.iload 8, 2) := by decide +kernel
theorem dX4_classOf_33 : decode cX4_classOf 33 = .ok (.laload, 1) := by decide +kernel
theorem dX4_classOf_34 : decode cX4_classOf 34 = .ok (.lload_n 3, 1) := by decide +kernel
theorem dX4_classOf_35 : decode cX4_classOf 35 = .ok (.lcmp, 1) := by decide +kernel
theorem dX4_classOf_36 : decode cX4_classOf 36 = .ok (.ifCond .ne 21, 3) := by decide +kernel
theorem dX4_classOf_39 : decode cX4_classOf 39 = .ok (.aload_n 0, 1) := by decide +kernel
theorem dX4_classOf_40 : decode cX4_classOf 40 = .ok (.getfield 20, 3) := by decide +kernel
theorem dX4_classOf_43 : decode cX4_classOf 43 = .ok (.iload 8, 2) := by decide +kernel
theorem dX4_classOf_45 : decode cX4_classOf 45 = .ok (.laload, 1) := by decide +kernel
theorem dX4_classOf_46 : decode cX4_classOf 46 = .ok (.lload 5, 2) := by decide +kernel
theorem dX4_classOf_48 : decode cX4_classOf 48 = .ok (.lcmp, 1) := by decide +kernel
theorem dX4_classOf_49 : decode cX4_classOf 49 = .ok (.ifCond .ne 8, 3) := by decide +kernel
theorem dX4_classOf_52 : decode cX4_classOf 52 = .ok (.iload 8, 2) := by decide +kernel
theorem dX4_classOf_54 : decode cX4_classOf 54 = .ok (.goto 5, 3) := by decide +kernel
theorem dX4_classOf_57 : decode cX4_classOf 57 = .ok (.iload 7, 2) := by decide +kernel
theorem dX4_classOf_59 : decode cX4_classOf 59 = .ok (.istore 7, 2) := by decide +kernel
theorem dX4_classOf_61 : decode cX4_classOf 61 = .ok (.iinc 8 1, 3) := by decide +kernel
theorem dX4_classOf_64 : decode cX4_classOf 64 = .ok (.goto (-58), 3) := by decide +kernel
theorem dX4_classOf_67 : decode cX4_classOf 67 = .ok (.iload 7, 2) := by decide +kernel
theorem dX4_classOf_69 : decode cX4_classOf 69 = .ok (.ireturn, 1) := by decide +kernel
set_option maxRecDepth 20000 in
theorem ggX4_reduced_X4_outside : GoodIn wsX4_reduced wsX4_outside := goodIn_r _ [8] (by decide +kernel) (by decide +kernel)
set_option maxRecDepth 20000 in
theorem gX4_reduced_X4_outside : GoodIn wsX4_reduced (va_wsS RX4 59 yX4_outside wsX4_outside) := goodIn_app (goodIn_of _ (by decide +kernel)) ggX4_reduced_X4_outside
set_option maxRecDepth 20000 in
theorem ggX4_reduced_X4_refuse : GoodIn wsX4_reduced wsX4_refuse := goodIn_r _ [12, 2, 21, 22, 23, 24, 25, 26, 27, 28, 29, 30, 31, 32, 33, 34, 35, 36, 37, 38] (by decide +kernel) (by decide +kernel)
set_option maxRecDepth 20000 in
theorem gX4_reduced_X4_refuse : GoodIn wsX4_reduced (wsV RX4 63 RX4 yX4_refuse wsX4_refuse) := goodIn_app (goodIn_of _ (by decide +kernel)) ggX4_reduced_X4_refuse
set_option maxRecDepth 20000 in
theorem ggX4_reduced_X4_classOf : GoodIn wsX4_reduced wsX4_classOf := goodIn_r _ [16, 17, 18, 19, 20, 21, 22, 23, 24, 25, 26, 27, 28, 29, 30, 31, 32, 33, 34, 35, 36, 37, 38] (by decide +kernel) (by decide +kernel)
set_option maxRecDepth 20000 in
theorem gX4_reduced_X4_classOf : GoodIn wsX4_reduced (wsV RX4 118 RX4 yX4_classOf wsX4_classOf) := goodIn_app (goodIn_of _ (by decide +kernel)) ggX4_reduced_X4_classOf
theorem dX4_reduced_0 : decode cX4_reduced 0 = .ok (.aload_n 0, 1) := by decide +kernel
theorem dX4_reduced_1 : decode cX4_reduced 1 = .ok (.getfield 114, 3) := by decide +kernel
theorem dX4_reduced_4 : decode cX4_reduced 4 = .ok (.ifCond .eq 13, 3) := by decide +kernel
theorem dX4_reduced_7 : decode cX4_reduced 7 = .ok (.iload_n 1, 1) := by decide +kernel
theorem dX4_reduced_8 : decode cX4_reduced 8 = .ok (.iconst 0, 1) := by decide +kernel
theorem dX4_reduced_9 : decode cX4_reduced 9 = .ok (.bipush 8, 2) := by decide +kernel
theorem dX4_reduced_11 : decode cX4_reduced 11 = .ok (.invokestatic 59, 3) := by decide +kernel
theorem dX4_reduced_14 : decode cX4_reduced 14 = .ok (.ifCond .eq 9, 3) := by decide +kernel
theorem dX4_reduced_17 : decode cX4_reduced 17 = .ok (.aload_n 0, 1) := by decide +kernel
theorem dX4_reduced_18 : decode cX4_reduced 18 = .ok (.iconst 1, 1) := by decide +kernel
theorem dX4_reduced_19 : decode cX4_reduced 19 = .ok (.invokevirtual 63, 3) := by decide +kernel
theorem dX4_reduced_22 : decode cX4_reduced 22 = .ok (.ireturn, 1) := by decide +kernel
theorem dX4_reduced_23 : decode cX4_reduced 23 = .ok (.aload_n 0, 1) := by decide +kernel
theorem dX4_reduced_24 : decode cX4_reduced 24 = .ok (.iconst 0, 1) := by decide +kernel
theorem dX4_reduced_25 : decode cX4_reduced 25 = .ok (.putfield 38, 3) := by decide +kernel
theorem dX4_reduced_28 : decode cX4_reduced 28 = .ok (.iload_n 1, 1) := by decide +kernel
theorem dX4_reduced_29 : decode cX4_reduced 29 = .ok (.bipush 7, 2) := by decide +kernel
theorem dX4_reduced_31 : decode cX4_reduced 31 = .ok (.if_icmp .ge 11, 3) := by decide +kernel
theorem dX4_reduced_34 : decode cX4_reduced 34 = .ok (.aload_n 0, 1) := by decide +kernel
theorem dX4_reduced_35 : decode cX4_reduced 35 = .ok (.getfield 23, 3) := by decide +kernel
theorem dX4_reduced_38 : decode cX4_reduced 38 = .ok (.iload_n 1, 1) := by decide +kernel
theorem dX4_reduced_39 : decode cX4_reduced 39 = .ok (.laload, 1) := by decide +kernel
theorem dX4_reduced_40 : decode cX4_reduced 40 = .ok (.l2i, 1) := by decide +kernel
theorem dX4_reduced_41 : decode cX4_reduced 41 = .ok (.ireturn, 1) := by decide +kernel
theorem dX4_reduced_42 : decode cX4_reduced 42 = .ok (.iload_n 1, 1) := by decide +kernel
theorem dX4_reduced_43 : decode cX4_reduced 43 = .ok (.bipush 7, 2) := by decide +kernel
theorem dX4_reduced_45 : decode cX4_reduced 45 = .ok (.if_icmp .ne 38, 3) := by decide +kernel
theorem dX4_reduced_48 : decode cX4_reduced 48 = .ok (.aload_n 0, 1) := by decide +kernel
theorem dX4_reduced_49 : decode cX4_reduced 49 = .ok (.getfield 23, 3) := by decide +kernel
theorem dX4_reduced_52 : decode cX4_reduced 52 = .ok (.iconst 1, 1) := by decide +kernel
theorem dX4_reduced_53 : decode cX4_reduced 53 = .ok (.laload, 1) := by decide +kernel
theorem dX4_reduced_54 : decode cX4_reduced 54 = .ok (.aload_n 0, 1) := by decide +kernel
theorem dX4_reduced_55 : decode cX4_reduced 55 = .ok (.getfield 23, 3) := by decide +kernel
theorem dX4_reduced_58 : decode cX4_reduced 58 = .ok (.iconst 1, 1) := by decide +kernel
theorem dX4_reduced_59 : decode cX4_reduced 59 = .ok (.laload, 1) := by decide +kernel
theorem dX4_reduced_60 : decode cX4_reduced 60 = .ok (.lmul, 1) := by decide +kernel
theorem dX4_reduced_61 : decode cX4_reduced 61 = .ok (.ldc2_w 104, 3) := by decide +kernel
theorem dX4_reduced_64 : decode cX4_reduced 64 = .ok (.aload_n 0, 1) := by decide +kernel
theorem dX4_reduced_65 : decode cX4_reduced 65 = .ok (.getfield 23, 3) := by decide +kernel
theorem dX4_reduced_68 : decode cX4_reduced 68 = .ok (.iconst 0, 1) := by decide +kernel
theorem dX4_reduced_69 : decode cX4_reduced 69 = .ok (.laload, 1) := by decide +kernel
theorem dX4_reduced_70 : decode cX4_reduced 70 = .ok (.lmul, 1) := by decide +kernel
theorem dX4_reduced_71 : decode cX4_reduced 71 = .ok (.aload_n 0, 1) := by decide +kernel
theorem dX4_reduced_72 : decode cX4_reduced 72 = .ok (.getfield 23, 3) := by decide +kernel
theorem dX4_reduced_75 : decode cX4_reduced 75 = .ok (.iconst 2, 1) := by decide +kernel
theorem dX4_reduced_76 : decode cX4_reduced 76 = .ok (.laload, 1) := by decide +kernel
theorem dX4_reduced_77 : decode cX4_reduced 77 = .ok (.lmul, 1) := by decide +kernel
theorem dX4_reduced_78 : decode cX4_reduced 78 = .ok (.lsub, 1) := by decide +kernel
theorem dX4_reduced_79 : decode cX4_reduced 79 = .ok (.l2i, 1) := by decide +kernel
theorem dX4_reduced_80 : decode cX4_reduced 80 = .ok (.goto 25, 3) := by decide +kernel
theorem dX4_reduced_83 : decode cX4_reduced 83 = .ok (.aload_n 0, 1) := by decide +kernel
theorem dX4_reduced_84 : decode cX4_reduced 84 = .ok (.aload_n 0, 1) := by decide +kernel
theorem dX4_reduced_85 : decode cX4_reduced 85 = .ok (.getfield 23, 3) := by decide +kernel
theorem dX4_reduced_88 : decode cX4_reduced 88 = .ok (.iconst 0, 1) := by decide +kernel
theorem dX4_reduced_89 : decode cX4_reduced 89 = .ok (.laload, 1) := by decide +kernel
theorem dX4_reduced_90 : decode cX4_reduced 90 = .ok (.aload_n 0, 1) := by decide +kernel
theorem dX4_reduced_91 : decode cX4_reduced 91 = .ok (.getfield 23, 3) := by decide +kernel
theorem dX4_reduced_94 : decode cX4_reduced 94 = .ok (.iconst 1, 1) := by decide +kernel
theorem dX4_reduced_95 : decode cX4_reduced 95 = .ok (.laload, 1) := by decide +kernel
theorem dX4_reduced_96 : decode cX4_reduced 96 = .ok (.aload_n 0, 1) := by decide +kernel
theorem dX4_reduced_97 : decode cX4_reduced 97 = .ok (.getfield 23, 3) := by decide +kernel
theorem dX4_reduced_100 : decode cX4_reduced 100 = .ok (.iconst 2, 1) := by decide +kernel
theorem dX4_reduced_101 : decode cX4_reduced 101 = .ok (.laload, 1) := by decide +kernel
theorem dX4_reduced_102 : decode cX4_reduced 102 = .ok (.invokevirtual 118, 3) := by decide +kernel
theorem dX4_reduced_105 : decode cX4_reduced 105 = .ok (.ireturn, 1) := by decide +kernel
set_option maxRecDepth 20000 in
theorem ggX4_away_X4_common : GoodIn wsX4_away wsX4_common := goodIn_r _ [8, 9, 10, 7, 11] (by decide +kernel) (by decide +kernel)
set_option maxRecDepth 20000 in
theorem gX4_away_X4_common : GoodIn wsX4_away (va_wsS RX4 45 yX4_common wsX4_common) := goodIn_app (goodIn_of _ (by decide +kernel)) ggX4_away_X4_common
set_option maxRecDepth 20000 in
theorem ggX4_away_X4_begin : GoodIn wsX4_away wsX4_begin := goodIn_r _ [15, 16, 17, 18, 19, 20, 21, 22, 34, 35, 36, 37, 38, 39, 40, 41, 42, 43, 44, 45, 46, 47, 48, 49, 50, 51] (by decide +kernel) (by decide +kernel)
set_option maxRecDepth 20000 in
theorem gX4_away_X4_begin : GoodIn wsX4_away (wsV RX4 106 RX4 yX4_begin wsX4_begin) := goodIn_app (goodIn_of _ (by decide +kernel)) ggX4_away_X4_begin
set_option maxRecDepth 20000 in
theorem ggX4_away_X4_complete : GoodIn wsX4_away wsX4_complete := goodIn_r _ [26, 27, 28, 29, 30, 31, 7, 32, 16, 17, 18, 33, 19, 21, 20, 22, 34, 35, 36, 37, 38, 39, 40, 41, 42, 43, 44, 45, 46, 47, 48, 49, 50, 51] (by decide +kernel) (by decide +kernel)
set_option maxRecDepth 20000 in
theorem gX4_away_X4_complete : GoodIn wsX4_away (wsV RX4 124 RX4 yX4_complete wsX4_complete) := goodIn_app (goodIn_of _ (by decide +kernel)) ggX4_away_X4_complete
theorem dX4_away_0 : decode cX4_away 0 = .ok (.lconst 1, 1) := by decide +kernel
theorem dX4_away_1 : decode cX4_away 1 = .ok (.lstore 4, 2) := by decide +kernel
theorem dX4_away_3 : decode cX4_away 3 = .ok (.lload 4, 2) := by decide +kernel
theorem dX4_away_5 : decode cX4_away 5 = .ok (.ldc2_w 122, 3) := by decide +kernel
theorem dX4_away_8 : decode cX4_away 8 = .ok (.lcmp, 1) := by decide +kernel
theorem dX4_away_9 : decode cX4_away 9 = .ok (.ifCond .ge 164, 3) := by decide +kernel
theorem dX4_away_12 : decode cX4_away 12 = .ok (.lconst 0, 1) := by decide +kernel
theorem dX4_away_13 : decode cX4_away 13 = .ok (.lstore 6, 2) := by decide +kernel
theorem dX4_away_15 : decode cX4_away 15 = .ok (.lload 6, 2) := by decide +kernel
theorem dX4_away_17 : decode cX4_away 17 = .ok (.lload 4, 2) := by decide +kernel
theorem dX4_away_19 : decode cX4_away 19 = .ok (.lcmp, 1) := by decide +kernel
theorem dX4_away_20 : decode cX4_away 20 = .ok (.ifCond .gt 144, 3) := by decide +kernel
theorem dX4_away_23 : decode cX4_away 23 = .ok (.lconst 0, 1) := by decide +kernel
theorem dX4_away_24 : decode cX4_away 24 = .ok (.lstore 8, 2) := by decide +kernel
theorem dX4_away_26 : decode cX4_away 26 = .ok (.lload 8, 2) := by decide +kernel
theorem dX4_away_28 : decode cX4_away 28 = .ok (.lload 4, 2) := by decide +kernel
theorem dX4_away_30 : decode cX4_away 30 = .ok (.lcmp, 1) := by decide +kernel
theorem dX4_away_31 : decode cX4_away 31 = .ok (.ifCond .gt 124, 3) := by decide +kernel
theorem dX4_away_34 : decode cX4_away 34 = .ok (.lload 6, 2) := by decide +kernel
theorem dX4_away_36 : decode cX4_away 36 = .ok (.lload 4, 2) := by decide +kernel
theorem dX4_away_38 : decode cX4_away 38 = .ok (.lcmp, 1) := by decide +kernel
theorem dX4_away_39 : decode cX4_away 39 = .ok (.ifCond .eq 11, 3) := by decide +kernel
theorem dX4_away_42 : decode cX4_away 42 = .ok (.lload 8, 2) := by decide +kernel
theorem dX4_away_44 : decode cX4_away 44 = .ok (.lload 4, 2) := by decide +kernel
theorem dX4_away_46 : decode cX4_away 46 = .ok (.lcmp, 1) := by decide +kernel
theorem dX4_away_47 : decode cX4_away 47 = .ok (.ifCond .ne 99, 3) := by decide +kernel
theorem dX4_away_50 : decode cX4_away 50 = .ok (.lload 6, 2) := by decide +kernel
theorem dX4_away_52 : decode cX4_away 52 = .ok (.lload 8, 2) := by decide +kernel
theorem dX4_away_54 : decode cX4_away 54 = .ok (.invokestatic 45, 3) := by decide +kernel
theorem dX4_away_57 : decode cX4_away 57 = .ok (.lconst 1, 1) := by decide +kernel
theorem dX4_away_58 : decode cX4_away 58 = .ok (.lcmp, 1) := by decide +kernel
theorem dX4_away_59 : decode cX4_away 59 = .ok (.ifCond .eq 6, 3) := by decide +kernel
theorem dX4_away_62 : decode cX4_away 62 = .ok (.goto 84, 3) := by decide +kernel
theorem dX4_away_65 : decode cX4_away 65 = .ok (.aload_n 0, 1) := by decide +kernel
theorem dX4_away_66 : decode cX4_away 66 = .ok (.getfield 13, 3) := by decide +kernel
theorem dX4_away_69 : decode cX4_away 69 = .ok (.iload_n 1, 1) := by decide +kernel
theorem dX4_away_70 : decode cX4_away 70 = .ok (.laload, 1) := by decide +kernel
theorem dX4_away_71 : decode cX4_away 71 = .ok (.lload 6, 2) := by decide +kernel
