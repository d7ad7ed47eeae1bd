theorem kd_Mo_read_0 : decode prog_8_method_27_code 0 = .ok (.aload_n 0, 1) := by decide +kernel
theorem kd_Mo_read_1 : decode prog_8_method_27_code 1 = .ok (.getfield 66, 3) := by decide +kernel
theorem kd_Mo_read_4 : decode prog_8_method_27_code 4 = .ok (.iload_n 1, 1) := by decide +kernel
theorem kd_Mo_read_5 : decode prog_8_method_27_code 5 = .ok (.iaload, 1) := by decide +kernel
theorem kd_Mo_read_6 : decode prog_8_method_27_code 6 = .ok (.istore_n 2, 1) := by decide +kernel
theorem kd_Mo_read_7 : decode prog_8_method_27_code 7 = .ok (.iload_n 2, 1) := by decide +kernel
theorem kd_Mo_read_8 : decode prog_8_method_27_code 8 = .ok (.aload_n 0, 1) := by decide +kernel
theorem kd_Mo_read_9 : decode prog_8_method_27_code 9 = .ok (.getfield 136, 3) := by decide +kernel
theorem kd_Mo_read_12 : decode prog_8_method_27_code 12 = .ok (.iadd, 1) := by decide +kernel
theorem kd_Mo_read_13 : decode prog_8_method_27_code 13 = .ok (.istore_n 3, 1) := by decide +kernel
theorem kd_Mo_read_14 : decode prog_8_method_27_code 14 = .ok (.iconst 0, 1) := by decide +kernel
theorem kd_Mo_read_15 : decode prog_8_method_27_code 15 = .ok (.istore 4, 2) := by decide +kernel
theorem kd_Mo_read_17 : decode prog_8_method_27_code 17 = .ok (.iload 4, 2) := by decide +kernel
theorem kd_Mo_read_19 : decode prog_8_method_27_code 19 = .ok (.aload_n 0, 1) := by decide +kernel
theorem kd_Mo_read_20 : decode prog_8_method_27_code 20 = .ok (.getfield 136, 3) := by decide +kernel
theorem kd_Mo_read_23 : decode prog_8_method_27_code 23 = .ok (.if_icmp .ge 31, 3) := by decide +kernel
theorem kd_Mo_read_26 : decode prog_8_method_27_code 26 = .ok (.aload_n 0, 1) := by decide +kernel
theorem kd_Mo_read_27 : decode prog_8_method_27_code 27 = .ok (.getfield 69, 3) := by decide +kernel
theorem kd_Mo_read_30 : decode prog_8_method_27_code 30 = .ok (.sipush 300, 3) := by decide +kernel
theorem kd_Mo_read_33 : decode prog_8_method_27_code 33 = .ok (.iload_n 1, 1) := by decide +kernel
theorem kd_Mo_read_34 : decode prog_8_method_27_code 34 = .ok (.imul, 1) := by decide +kernel
theorem kd_Mo_read_35 : decode prog_8_method_27_code 35 = .ok (.iload_n 2, 1) := by decide +kernel
theorem kd_Mo_read_36 : decode prog_8_method_27_code 36 = .ok (.iadd, 1) := by decide +kernel
theorem kd_Mo_read_37 : decode prog_8_method_27_code 37 = .ok (.iload 4, 2) := by decide +kernel
theorem kd_Mo_read_39 : decode prog_8_method_27_code 39 = .ok (.iadd, 1) := by decide +kernel
theorem kd_Mo_read_40 : decode prog_8_method_27_code 40 = .ok (.aload_n 0, 1) := by decide +kernel
theorem kd_Mo_read_41 : decode prog_8_method_27_code 41 = .ok (.getfield 72, 3) := by decide +kernel
theorem kd_Mo_read_44 : decode prog_8_method_27_code 44 = .ok (.iload 4, 2) := by decide +kernel
theorem kd_Mo_read_46 : decode prog_8_method_27_code 46 = .ok (.iaload, 1) := by decide +kernel
theorem kd_Mo_read_47 : decode prog_8_method_27_code 47 = .ok (.iastore, 1) := by decide +kernel
theorem kd_Mo_read_48 : decode prog_8_method_27_code 48 = .ok (.iinc 4 1, 3) := by decide +kernel
theorem kd_Mo_read_51 : decode prog_8_method_27_code 51 = .ok (.goto (-34), 3) := by decide +kernel
theorem kd_Mo_read_54 : decode prog_8_method_27_code 54 = .ok (.iconst 0, 1) := by decide +kernel
theorem kd_Mo_read_55 : decode prog_8_method_27_code 55 = .ok (.istore 4, 2) := by decide +kernel
theorem kd_Mo_read_57 : decode prog_8_method_27_code 57 = .ok (.aload_n 0, 1) := by decide +kernel
theorem kd_Mo_read_58 : decode prog_8_method_27_code 58 = .ok (.iconst (-1), 1) := by decide +kernel
theorem kd_Mo_read_59 : decode prog_8_method_27_code 59 = .ok (.putfield 143, 3) := by decide +kernel
theorem kd_Mo_read_62 : decode prog_8_method_27_code 62 = .ok (.iconst 1, 1) := by decide +kernel
theorem kd_Mo_read_63 : decode prog_8_method_27_code 63 = .ok (.istore 5, 2) := by decide +kernel
theorem kd_Mo_read_65 : decode prog_8_method_27_code 65 = .ok (.iconst 0, 1) := by decide +kernel
theorem kd_Mo_read_66 : decode prog_8_method_27_code 66 = .ok (.istore 6, 2) := by decide +kernel
theorem kd_Mo_read_68 : decode prog_8_method_27_code 68 = .ok (.iload 6, 2) := by decide +kernel
theorem kd_Mo_read_70 : decode prog_8_method_27_code 70 = .ok (.bipush 20, 2) := by decide +kernel
theorem kd_Mo_read_72 : decode prog_8_method_27_code 72 = .ok (.if_icmp .ge 148, 3) := by decide +kernel
theorem kd_Mo_read_75 : decode prog_8_method_27_code 75 = .ok (.iload 5, 2) := by decide +kernel
theorem kd_Mo_read_77 : decode prog_8_method_27_code 77 = .ok (.ifCond .eq 143, 3) := by decide +kernel
theorem kd_Mo_read_80 : decode prog_8_method_27_code 80 = .ok (.iload 4, 2) := by decide +kernel
theorem kd_Mo_read_82 : decode prog_8_method_27_code 82 = .ok (.iconst 1, 1) := by decide +kernel
theorem kd_Mo_read_83 : decode prog_8_method_27_code 83 = .ok (.iadd, 1) := by decide +kernel
theorem kd_Mo_read_84 : decode prog_8_method_27_code 84 = .ok (.iload_n 3, 1) := by decide +kernel
theorem kd_Mo_read_85 : decode prog_8_method_27_code 85 = .ok (.if_icmp .ge 23, 3) := by decide +kernel
theorem kd_Mo_read_88 : decode prog_8_method_27_code 88 = .ok (.iconst 2, 1) := by decide +kernel
theorem kd_Mo_read_89 : decode prog_8_method_27_code 89 = .ok (.aload_n 0, 1) := by decide +kernel
theorem kd_Mo_read_90 : decode prog_8_method_27_code 90 = .ok (.getfield 69, 3) := by decide +kernel
theorem kd_Mo_read_93 : decode prog_8_method_27_code 93 = .ok (.sipush 300, 3) := by decide +kernel
theorem kd_Mo_read_96 : decode prog_8_method_27_code 96 = .ok (.iload_n 1, 1) := by decide +kernel
theorem kd_Mo_read_97 : decode prog_8_method_27_code 97 = .ok (.imul, 1) := by decide +kernel
theorem kd_Mo_read_98 : decode prog_8_method_27_code 98 = .ok (.iload 4, 2) := by decide +kernel
theorem kd_Mo_read_100 : decode prog_8_method_27_code 100 = .ok (.iadd, 1) := by decide +kernel
theorem kd_Mo_read_101 : decode prog_8_method_27_code 101 = .ok (.iconst 1, 1) := by decide +kernel
theorem kd_Mo_read_102 : decode prog_8_method_27_code 102 = .ok (.iadd, 1) := by decide +kernel
theorem kd_Mo_read_103 : decode prog_8_method_27_code 103 = .ok (.iaload, 1) := by decide +kernel
theorem kd_Mo_read_104 : decode prog_8_method_27_code 104 = .ok (.iadd, 1) := by decide +kernel
theorem kd_Mo_read_105 : decode prog_8_method_27_code 105 = .ok (.goto 6, 3) := by decide +kernel
theorem kd_Mo_read_108 : decode prog_8_method_27_code 108 = .ok (.sipush 600, 3) := by decide +kernel
theorem kd_Mo_read_111 : decode prog_8_method_27_code 111 = .ok (.istore 7, 2) := by decide +kernel
theorem kd_Mo_read_113 : decode prog_8_method_27_code 113 = .ok (.iload 4, 2) := by decide +kernel
theorem kd_Mo_read_115 : decode prog_8_method_27_code 115 = .ok (.iload 7, 2) := by decide +kernel
theorem kd_Mo_read_117 : decode prog_8_method_27_code 117 = .ok (.iadd, 1) := by decide +kernel
theorem kd_Mo_read_118 : decode prog_8_method_27_code 118 = .ok (.iload_n 3, 1) := by decide +kernel
theorem kd_Mo_read_119 : decode prog_8_method_27_code 119 = .ok (.if_icmp .gt 7, 3) := by decide +kernel
theorem kd_Mo_read_122 : decode prog_8_method_27_code 122 = .ok (.iconst 1, 1) := by decide +kernel
theorem kd_Mo_read_123 : decode prog_8_method_27_code 123 = .ok (.goto 4, 3) := by decide +kernel
theorem kd_Mo_read_126 : decode prog_8_method_27_code 126 = .ok (.iconst 0, 1) := by decide +kernel
theorem kd_Mo_read_127 : decode prog_8_method_27_code 127 = .ok (.istore 5, 2) := by decide +kernel
theorem kd_Mo_read_129 : decode prog_8_method_27_code 129 = .ok (.iload 5, 2) := by decide +kernel
theorem kd_Mo_read_131 : decode prog_8_method_27_code 131 = .ok (.ifCond .eq 66, 3) := by decide +kernel
theorem kd_Mo_read_134 : decode prog_8_method_27_code 134 = .ok (.aload_n 0, 1) := by decide +kernel
theorem kd_Mo_read_135 : decode prog_8_method_27_code 135 = .ok (.getfield 69, 3) := by decide +kernel
theorem kd_Mo_read_138 : decode prog_8_method_27_code 138 = .ok (.sipush 300, 3) := by decide +kernel
theorem kd_Mo_read_141 : decode prog_8_method_27_code 141 = .ok (.iload_n 1, 1) := by decide +kernel
theorem kd_Mo_read_142 : decode prog_8_method_27_code 142 = .ok (.imul, 1) := by decide +kernel
theorem kd_Mo_read_143 : decode prog_8_method_27_code 143 = .ok (.iload 4, 2) := by decide +kernel
theorem kd_Mo_read_145 : decode prog_8_method_27_code 145 = .ok (.iadd, 1) := by decide +kernel
theorem kd_Mo_read_146 : decode prog_8_method_27_code 146 = .ok (.iaload, 1) := by decide +kernel
theorem kd_Mo_read_147 : decode prog_8_method_27_code 147 = .ok (.bipush 24, 2) := by decide +kernel
theorem kd_Mo_read_149 : decode prog_8_method_27_code 149 = .ok (.if_icmp .ne 48, 3) := by decide +kernel
theorem kd_Mo_read_152 : decode prog_8_method_27_code 152 = .ok (.aload_n 0, 1) := by decide +kernel
theorem kd_Mo_read_153 : decode prog_8_method_27_code 153 = .ok (.getfield 143, 3) := by decide +kernel
theorem kd_Mo_read_156 : decode prog_8_method_27_code 156 = .ok (.ifCond .ge 41, 3) := by decide +kernel
theorem kd_Mo_read_159 : decode prog_8_method_27_code 159 = .ok (.aload_n 0, 1) := by decide +kernel
theorem kd_Mo_read_160 : decode prog_8_method_27_code 160 = .ok (.iload 4, 2) := by decide +kernel
theorem kd_Mo_read_162 : decode prog_8_method_27_code 162 = .ok (.iload 7, 2) := by decide +kernel
theorem kd_Mo_read_164 : decode prog_8_method_27_code 164 = .ok (.iadd, 1) := by decide +kernel
theorem kd_Mo_read_165 : decode prog_8_method_27_code 165 = .ok (.iload_n 2, 1) := by decide +kernel
theorem kd_Mo_read_166 : decode prog_8_method_27_code 166 = .ok (.isub, 1) := by decide +kernel
theorem kd_Mo_read_167 : decode prog_8_method_27_code 167 = .ok (.putfield 143, 3) := by decide +kernel
theorem kd_Mo_read_170 : decode prog_8_method_27_code 170 = .ok (.aload_n 0, 1) := by decide +kernel
theorem kd_Mo_read_171 : decode prog_8_method_27_code 171 = .ok (.iload 7, 2) := by decide +kernel
theorem kd_Mo_read_173 : decode prog_8_method_27_code 173 = .ok (.iconst 2, 1) := by decide +kernel
theorem kd_Mo_read_174 : decode prog_8_method_27_code 174 = .ok (.isub, 1) := by decide +kernel
theorem kd_Mo_read_175 : decode prog_8_method_27_code 175 = .ok (.putfield 146, 3) := by decide +kernel
theorem kd_Mo_read_178 : decode prog_8_method_27_code 178 = .ok (.aload_n 0, 1) := by decide +kernel
theorem kd_Mo_read_179 : decode prog_8_method_27_code 179 = .ok (.aload_n 0, 1) := by decide +kernel
theorem kd_Mo_read_180 : decode prog_8_method_27_code 180 = .ok (.getfield 69, 3) := by decide +kernel
theorem kd_Mo_read_183 : decode prog_8_method_27_code 183 = .ok (.sipush 300, 3) := by decide +kernel
theorem kd_Mo_read_186 : decode prog_8_method_27_code 186 = .ok (.iload_n 1, 1) := by decide +kernel
theorem kd_Mo_read_187 : decode prog_8_method_27_code 187 = .ok (.imul, 1) := by decide +kernel
theorem kd_Mo_read_188 : decode prog_8_method_27_code 188 = .ok (.iload 4, 2) := by decide +kernel
theorem kd_Mo_read_190 : decode prog_8_method_27_code 190 = .ok (.iadd, 1) := by decide +kernel
theorem kd_Mo_read_191 : decode prog_8_method_27_code 191 = .ok (.iconst 2, 1) := by decide +kernel
theorem kd_Mo_read_192 : decode prog_8_method_27_code 192 = .ok (.iadd, 1) := by decide +kernel
theorem kd_Mo_read_193 : decode prog_8_method_27_code 193 = .ok (.iaload, 1) := by decide +kernel
theorem kd_Mo_read_194 : decode prog_8_method_27_code 194 = .ok (.putfield 149, 3) := by decide +kernel
theorem kd_Mo_read_197 : decode prog_8_method_27_code 197 = .ok (.iload 5, 2) := by decide +kernel
theorem kd_Mo_read_199 : decode prog_8_method_27_code 199 = .ok (.ifCond .eq 11, 3) := by decide +kernel
theorem kd_Mo_read_202 : decode prog_8_method_27_code 202 = .ok (.iload 4, 2) := by decide +kernel
theorem kd_Mo_read_204 : decode prog_8_method_27_code 204 = .ok (.iload 7, 2) := by decide +kernel
theorem kd_Mo_read_206 : decode prog_8_method_27_code 206 = .ok (.iadd, 1) := by decide +kernel
theorem kd_Mo_read_207 : decode prog_8_method_27_code 207 = .ok (.goto 5, 3) := by decide +kernel
theorem kd_Mo_read_210 : decode prog_8_method_27_code 210 = .ok (.iload 4, 2) := by decide +kernel
theorem kd_Mo_read_212 : decode prog_8_method_27_code 212 = .ok (.istore 4, 2) := by decide +kernel
theorem kd_Mo_read_214 : decode prog_8_method_27_code 214 = .ok (.iinc 6 1, 3) := by decide +kernel
theorem kd_Mo_read_217 : decode prog_8_method_27_code 217 = .ok (.goto (-149), 3) := by decide +kernel
theorem kd_Mo_read_220 : decode prog_8_method_27_code 220 = .ok (.aload_n 0, 1) := by decide +kernel
theorem kd_Mo_read_221 : decode prog_8_method_27_code 221 = .ok (.iload 4, 2) := by decide +kernel
theorem kd_Mo_read_223 : decode prog_8_method_27_code 223 = .ok (.putfield 152, 3) := by decide +kernel
theorem kd_Mo_read_226 : decode prog_8_method_27_code 226 = .ok (.return_, 1) := by decide +kernel
def kc_Mo_read_220 (Po : Option Value → qa_M → Prop) : qa_K := (qi_aload 0 (qi_iload 4 (qi_pi 7 219 (qi_vret (0, 0) Po))))
def kc_Mo_read_212 (Po : Option Value → qa_M → Prop) (k68 : qa_K) : qa_K := (qi_istore 4 (qi_iinc 6 (nI 1) k68))
def kc_Mo_read_197 (Po : Option Value → qa_M → Prop) (k68 : qa_K) : qa_K := (qi_iload 5 (qi_ifeq (qi_iload 4 (kc_Mo_read_212 Po k68)) (qi_iload 4 (qi_iload 7 (qi_iadd (kc_Mo_read_212 Po k68))))))
def kc_Mo_read_127 (Po : Option Value → qa_M → Prop) (k68 : qa_K) : qa_K := (qi_istore 5 (qi_iload 5 (qi_ifeq (kc_Mo_read_197 Po k68) (qi_aload 0 (qi_gp 7 212 (qi_ic (nI 300) (qi_iload 1 (qi_imul (qi_iload 4 (qi_iadd (qi_iald 1212 (qi_ic (nI 24) (qi_icne (kc_Mo_read_197 Po k68) (qi_aload 0 (qi_gi 7 216 (qi_ifge (kc_Mo_read_197 Po k68) (qi_aload 0 (qi_iload 4 (qi_iload 7 (qi_iadd (qi_iload 2 (qi_isub (qi_pi 7 216 (qi_aload 0 (qi_iload 7 (qi_ic (nI 2) (qi_isub (qi_pi 7 217 (qi_aload 0 (qi_aload 0 (qi_gp 7 212 (qi_ic (nI 300) (qi_iload 1 (qi_imul (qi_iload 4 (qi_iadd (qi_ic (nI 2) (qi_iadd (qi_iald 1212 (qi_pi 7 218 (kc_Mo_read_197 Po k68)))))))))))))))))))))))))))))))))))))))))
def kc_Mo_read_111 (Po : Option Value → qa_M → Prop) (k68 : qa_K) : qa_K := (qi_istore 7 (qi_iload 4 (qi_iload 7 (qi_iadd (qi_iload 3 (qi_icgt (qi_ic (nI 0) (kc_Mo_read_127 Po k68)) (qi_ic (nI 1) (kc_Mo_read_127 Po k68))))))))
def kb_Mo_read_68 (Po : Option Value → qa_M → Prop) (k68 : qa_K) : qa_K := (qi_iload 6 (qi_ic (nI 20) (qi_icge (kc_Mo_read_220 Po) (qi_iload 5 (qi_ifeq (kc_Mo_read_220 Po) (qi_iload 4 (qi_ic (nI 1) (qi_iadd (qi_iload 3 (qi_icge (qi_ic (nI 600) (kc_Mo_read_111 Po k68)) (qi_ic (nI 2) (qi_aload 0 (qi_gp 7 212 (qi_ic (nI 300) (qi_iload 1 (qi_imul (qi_iload 4 (qi_iadd (qi_ic (nI 1) (qi_iadd (qi_iald 1212 (qi_iadd (kc_Mo_read_111 Po k68)))))))))))))))))))))))
def kc_Mo_read_68 (Po : Option Value → qa_M → Prop) : qa_K := qi_loop (kb_Mo_read_68 Po)
def kb_Mo_read_17 (Po : Option Value → qa_M → Prop) (k17 : qa_K) : qa_K := (qi_iload 4 (qi_aload 0 (qi_gi 7 214 (qi_icge (qi_ic (nI 0) (qi_istore 4 (qi_aload 0 (qi_ic (-1) (qi_pi 7 216 (qi_ic (nI 1) (qi_istore 5 (qi_ic (nI 0) (qi_istore 6 (kc_Mo_read_68 Po)))))))))) (qi_aload 0 (qi_gp 7 212 (qi_ic (nI 300) (qi_iload 1 (qi_imul (qi_iload 2 (qi_iadd (qi_iload 4 (qi_iadd (qi_aload 0 (qi_gp 7 215 (qi_iload 4 (qi_iald 1215 (qi_iast 1212 (qi_iinc 4 (nI 1) k17)))))))))))))))))))
def kc_Mo_read_17 (Po : Option Value → qa_M → Prop) : qa_K := qi_loop (kb_Mo_read_17 Po)
def kc_Mo_read_0 (Po : Option Value → qa_M → Prop) : qa_K := (qi_aload 0 (qi_gp 7 211 (qi_iload 1 (qi_iald 1211 (qi_istore 2 (qi_iload 2 (qi_aload 0 (qi_gi 7 214 (qi_iadd (qi_istore 3 (qi_ic (nI 0) (qi_istore 4 (kc_Mo_read_17 Po)))))))))))))
abbrev kS_Mo_read (l : Launch) (D : va_G) (E : Nat → ClassId) (B : Nat) (sc : qa_Z) (Po : Option Value → qa_M → Prop) (pc : Nat) (k : qa_K) : Prop := qa_S l "SealedRecordsModel" prog_8_method_27_code 8 none false D E B rm_Mo_read sc (qa_Qf D E B rm_Mo_read Po) pc k
theorem ks_Mo_read_220 (l : Launch) (D : va_G) (E : Nat → ClassId) (B : Nat) (sc : qa_Z) (Po : Option Value → qa_M → Prop) : kS_Mo_read l D E B sc Po 220 (kc_Mo_read_220 Po) := (qs_aload_n kd_Mo_read_220 rfl (qs_iload kd_Mo_read_221 (fp_219 ww_350 kd_Mo_read_223 (qs_vret kd_Mo_read_226))))
theorem ks_Mo_read_212 (l : Launch) (D : va_G) (E : Nat → ClassId) (B : Nat) (sc : qa_Z) (Po : Option Value → qa_M → Prop) {k68 : qa_K} (hk68 : kS_Mo_read l D E B sc Po 68 k68) : kS_Mo_read l D E B sc Po 212 (kc_Mo_read_212 Po k68) := (qs_istore kd_Mo_read_212 (by decide) (qs_iinc kd_Mo_read_214 (by decide) (by decide) (qs_goto (tgt := 68) kd_Mo_read_217 (by decide) hk68)))
theorem ks_Mo_read_197 (l : Launch) (D : va_G) (E : Nat → ClassId) (B : Nat) (sc : qa_Z) (Po : Option Value → qa_M → Prop) {k68 : qa_K} (hk68 : kS_Mo_read l D E B sc Po 68 k68) : kS_Mo_read l D E B sc Po 197 (kc_Mo_read_197 Po k68) := (qs_iload kd_Mo_read_197 (qs_ifeq (tgt := 210) kd_Mo_read_199 (by decide) (qs_iload kd_Mo_read_210 (ks_Mo_read_212 l D E B sc Po hk68)) (qs_iload kd_Mo_read_202 (qs_iload kd_Mo_read_204 (qs_iadd kd_Mo_read_206 (qs_goto (tgt := 212) kd_Mo_read_207 (by decide) (ks_Mo_read_212 l D E B sc Po hk68)))))))
theorem ks_Mo_read_127 (l : Launch) (D : va_G) (E : Nat → ClassId) (B : Nat) (sc : qa_Z) (Po : Option Value → qa_M → Prop) {k68 : qa_K} (hk68 : kS_Mo_read l D E B sc Po 68 k68) : kS_Mo_read l D E B sc Po 127 (kc_Mo_read_127 Po k68) := (qs_istore kd_Mo_read_127 (by decide) (qs_iload kd_Mo_read_129 (qs_ifeq (tgt := 197) kd_Mo_read_131 (by decide) (ks_Mo_read_197 l D E B sc Po hk68) (qs_aload_n kd_Mo_read_134 rfl (fg_212 ww_297 kd_Mo_read_135 (qs_sipush kd_Mo_read_138 (by decide) (qs_iload_n kd_Mo_read_141 rfl (qs_imul kd_Mo_read_142 (qs_iload kd_Mo_read_143 (qs_iadd kd_Mo_read_145 (qs_iald (κ := 1212) rfl (by decide) kd_Mo_read_146 (qs_bipush kd_Mo_read_147 (by decide) (qs_icne (tgt := 197) kd_Mo_read_149 (by decide) (ks_Mo_read_197 l D E B sc Po hk68) (qs_aload_n kd_Mo_read_152 rfl (fg_216 ww_351 kd_Mo_read_153 (qs_ifge (tgt := 197) kd_Mo_read_156 (by decide) (ks_Mo_read_197 l D E B sc Po hk68) (qs_aload_n kd_Mo_read_159 rfl (qs_iload kd_Mo_read_160 (qs_iload kd_Mo_read_162 (qs_iadd kd_Mo_read_164 (qs_iload_n kd_Mo_read_165 rfl (qs_isub kd_Mo_read_166 (fp_216 ww_351 kd_Mo_read_167 (qs_aload_n kd_Mo_read_170 rfl (qs_iload kd_Mo_read_171 (qs_iconst kd_Mo_read_173 (by decide) (qs_isub kd_Mo_read_174 (fp_217 ww_352 kd_Mo_read_175 (qs_aload_n kd_Mo_read_178 rfl (qs_aload_n kd_Mo_read_179 rfl (fg_212 ww_297 kd_Mo_read_180 (qs_sipush kd_Mo_read_183 (by decide) (qs_iload_n kd_Mo_read_186 rfl (qs_imul kd_Mo_read_187 (qs_iload kd_Mo_read_188 (qs_iadd kd_Mo_read_190 (qs_iconst kd_Mo_read_191 (by decide) (qs_iadd kd_Mo_read_192 (qs_iald (κ := 1212) rfl (by decide) kd_Mo_read_193 (fp_218 ww_353 kd_Mo_read_194 (ks_Mo_read_197 l D E B sc Po hk68)))))))))))))))))))))))))))))))))))))))))
theorem ks_Mo_read_111 (l : Launch) (D : va_G) (E : Nat → ClassId) (B : Nat) (sc : qa_Z) (Po : Option Value → qa_M → Prop) {k68 : qa_K} (hk68 : kS_Mo_read l D E B sc Po 68 k68) : kS_Mo_read l D E B sc Po 111 (kc_Mo_read_111 Po k68) := (qs_istore kd_Mo_read_111 (by decide) (qs_iload kd_Mo_read_113 (qs_iload kd_Mo_read_115 (qs_iadd kd_Mo_read_117 (qs_iload_n kd_Mo_read_118 rfl (qs_icgt (tgt := 126) kd_Mo_read_119 (by decide) (qs_iconst kd_Mo_read_126 (by decide) (ks_Mo_read_127 l D E B sc Po hk68)) (qs_iconst kd_Mo_read_122 (by decide) (qs_goto (tgt := 127) kd_Mo_read_123 (by decide) (ks_Mo_read_127 l D E B sc Po hk68)))))))))
theorem kt_Mo_read_68 (l : Launch) (D : va_G) (E : Nat → ClassId) (B : Nat) (sc : qa_Z) (Po : Option Value → qa_M → Prop) {k68 : qa_K} (hk68 : kS_Mo_read l D E B sc Po 68 k68) : kS_Mo_read l D E B sc Po 68 (kb_Mo_read_68 Po k68) := (qs_iload kd_Mo_read_68 (qs_bipush kd_Mo_read_70 (by decide) (qs_icge (tgt := 220) kd_Mo_read_72 (by decide) (ks_Mo_read_220 l D E B sc Po) (qs_iload kd_Mo_read_75 (qs_ifeq (tgt := 220) kd_Mo_read_77 (by decide) (ks_Mo_read_220 l D E B sc Po) (qs_iload kd_Mo_read_80 (qs_iconst kd_Mo_read_82 (by decide) (qs_iadd kd_Mo_read_83 (qs_iload_n kd_Mo_read_84 rfl (qs_icge (tgt := 108) kd_Mo_read_85 (by decide) (qs_sipush kd_Mo_read_108 (by decide) (ks_Mo_read_111 l D E B sc Po hk68)) (qs_iconst kd_Mo_read_88 (by decide) (qs_aload_n kd_Mo_read_89 rfl (fg_212 ww_297 kd_Mo_read_90 (qs_sipush kd_Mo_read_93 (by decide) (qs_iload_n kd_Mo_read_96 rfl (qs_imul kd_Mo_read_97 (qs_iload kd_Mo_read_98 (qs_iadd kd_Mo_read_100 (qs_iconst kd_Mo_read_101 (by decide) (qs_iadd kd_Mo_read_102 (qs_iald (κ := 1212) rfl (by decide) kd_Mo_read_103 (qs_iadd kd_Mo_read_104 (qs_goto (tgt := 111) kd_Mo_read_105 (by decide) (ks_Mo_read_111 l D E B sc Po hk68))))))))))))))))))))))))
theorem ks_Mo_read_68 (l : Launch) (D : va_G) (E : Nat → ClassId) (B : Nat) (sc : qa_Z) (Po : Option Value → qa_M → Prop) : kS_Mo_read l D E B sc Po 68 (kc_Mo_read_68 Po) := qs_loop fun k68 hk68 => kt_Mo_read_68 l D E B sc Po hk68
theorem kt_Mo_read_17 (l : Launch) (D : va_G) (E : Nat → ClassId) (B : Nat) (sc : qa_Z) (Po : Option Value → qa_M → Prop) {k17 : qa_K} (hk17 : kS_Mo_read l D E B sc Po 17 k17) : kS_Mo_read l D E B sc Po 17 (kb_Mo_read_17 Po k17) := (qs_iload kd_Mo_read_17 (qs_aload_n kd_Mo_read_19 rfl (fg_214 ww_345 kd_Mo_read_20 (qs_icge (tgt := 54) kd_Mo_read_23 (by decide) (qs_iconst kd_Mo_read_54 (by decide) (qs_istore kd_Mo_read_55 (by decide) (qs_aload_n kd_Mo_read_57 rfl (qs_iconst kd_Mo_read_58 (by decide) (fp_216 ww_351 kd_Mo_read_59 (qs_iconst kd_Mo_read_62 (by decide) (qs_istore kd_Mo_read_63 (by decide) (qs_iconst kd_Mo_read_65 (by decide) (qs_istore kd_Mo_read_66 (by decide) (ks_Mo_read_68 l D E B sc Po)))))))))) (qs_aload_n kd_Mo_read_26 rfl (fg_212 ww_297 kd_Mo_read_27 (qs_sipush kd_Mo_read_30 (by decide) (qs_iload_n kd_Mo_read_33 rfl (qs_imul kd_Mo_read_34 (qs_iload_n kd_Mo_read_35 rfl (qs_iadd kd_Mo_read_36 (qs_iload kd_Mo_read_37 (qs_iadd kd_Mo_read_39 (qs_aload_n kd_Mo_read_40 rfl (fg_215 ww_298 kd_Mo_read_41 (qs_iload kd_Mo_read_44 (qs_iald (κ := 1215) rfl (by decide) kd_Mo_read_46 (qs_iast (κ := 1212) rfl (by decide) kd_Mo_read_47 (qs_iinc kd_Mo_read_48 (by decide) (by decide) (qs_goto (tgt := 17) kd_Mo_read_51 (by decide) hk17))))))))))))))))))))
theorem ks_Mo_read_17 (l : Launch) (D : va_G) (E : Nat → ClassId) (B : Nat) (sc : qa_Z) (Po : Option Value → qa_M → Prop) : kS_Mo_read l D E B sc Po 17 (kc_Mo_read_17 Po) := qs_loop fun k17 hk17 => kt_Mo_read_17 l D E B sc Po hk17
theorem ks_Mo_read_0 (l : Launch) (D : va_G) (E : Nat → ClassId) (B : Nat) (sc : qa_Z) (Po : Option Value → qa_M → Prop) : kS_Mo_read l D E B sc Po 0 (kc_Mo_read_0 Po) := (qs_aload_n kd_Mo_read_0 rfl (fg_211 ww_296 kd_Mo_read_1 (qs_iload_n kd_Mo_read_4 rfl (qs_iald (κ := 1211) rfl (by decide) kd_Mo_read_5 (qs_istore_n kd_Mo_read_6 rfl (by decide) (qs_iload_n kd_Mo_read_7 rfl (qs_aload_n kd_Mo_read_8 rfl (fg_214 ww_345 kd_Mo_read_9 (qs_iadd kd_Mo_read_12 (qs_istore_n kd_Mo_read_13 rfl (by decide) (qs_iconst kd_Mo_read_14 (by decide) (qs_istore kd_Mo_read_15 (by decide) (ks_Mo_read_17 l D E B sc Po)))))))))))))
def sp_Mo_read : qa_sp := fun args M Po => match args with
  | [.ref a0, .int a1] => kc_Mo_read_0 Po (0, 0) [some (.ref a0), some (.int a1), none, none, none, none, none, none] [] M
  | _ => False
theorem ct_Mo_read (l : Launch) (sc : qa_Z) : qa_T l ym_Mo_read (Cond.code ym_Mo_read prog_8_method_27_code 8 none :: q_W0) rm_Mo_read sc (sp_Mo_read) := by
  intro D E B args M Po h
  unfold sp_Mo_read at h
  split at h
  · exact qa_ct (ini := false) (by decide) (by decide) (Nat.le_of_ble_eq_true rfl) (qa_lvok rfl) (ks_Mo_read_0 l D E B sc Po) h
  · exact h.elim
theorem kd_Mo_keep_0 : decode prog_8_method_28_code 0 = .ok (.aload_n 0, 1) := by decide +kernel
theorem kd_Mo_keep_1 : decode prog_8_method_28_code 1 = .ok (.getfield 66, 3) := by decide +kernel
theorem kd_Mo_keep_4 : decode prog_8_method_28_code 4 = .ok (.iload_n 1, 1) := by decide +kernel
theorem kd_Mo_keep_5 : decode prog_8_method_28_code 5 = .ok (.iaload, 1) := by decide +kernel
theorem kd_Mo_keep_6 : decode prog_8_method_28_code 6 = .ok (.aload_n 0, 1) := by decide +kernel
theorem kd_Mo_keep_7 : decode prog_8_method_28_code 7 = .ok (.getfield 136, 3) := by decide +kernel
theorem kd_Mo_keep_10 : decode prog_8_method_28_code 10 = .ok (.iadd, 1) := by decide +kernel
theorem kd_Mo_keep_11 : decode prog_8_method_28_code 11 = .ok (.istore_n 2, 1) := by decide +kernel
theorem kd_Mo_keep_12 : decode prog_8_method_28_code 12 = .ok (.aload_n 0, 1) := by decide +kernel
theorem kd_Mo_keep_13 : decode prog_8_method_28_code 13 = .ok (.getfield 152, 3) := by decide +kernel
theorem kd_Mo_keep_16 : decode prog_8_method_28_code 16 = .ok (.istore_n 3, 1) := by decide +kernel
theorem kd_Mo_keep_17 : decode prog_8_method_28_code 17 = .ok (.iload_n 3, 1) := by decide +kernel
theorem kd_Mo_keep_18 : decode prog_8_method_28_code 18 = .ok (.iload_n 2, 1) := by decide +kernel
theorem kd_Mo_keep_19 : decode prog_8_method_28_code 19 = .ok (.if_icmp .ge 38, 3) := by decide +kernel
theorem kd_Mo_keep_22 : decode prog_8_method_28_code 22 = .ok (.aload_n 0, 1) := by decide +kernel
theorem kd_Mo_keep_23 : decode prog_8_method_28_code 23 = .ok (.getfield 69, 3) := by decide +kernel
theorem kd_Mo_keep_26 : decode prog_8_method_28_code 26 = .ok (.sipush 300, 3) := by decide +kernel
theorem kd_Mo_keep_29 : decode prog_8_method_28_code 29 = .ok (.iload_n 1, 1) := by decide +kernel
theorem kd_Mo_keep_30 : decode prog_8_method_28_code 30 = .ok (.imul, 1) := by decide +kernel
theorem kd_Mo_keep_31 : decode prog_8_method_28_code 31 = .ok (.iload_n 3, 1) := by decide +kernel
theorem kd_Mo_keep_32 : decode prog_8_method_28_code 32 = .ok (.iadd, 1) := by decide +kernel
theorem kd_Mo_keep_33 : decode prog_8_method_28_code 33 = .ok (.aload_n 0, 1) := by decide +kernel
theorem kd_Mo_keep_34 : decode prog_8_method_28_code 34 = .ok (.getfield 152, 3) := by decide +kernel
theorem kd_Mo_keep_37 : decode prog_8_method_28_code 37 = .ok (.isub, 1) := by decide +kernel
theorem kd_Mo_keep_38 : decode prog_8_method_28_code 38 = .ok (.aload_n 0, 1) := by decide +kernel
theorem kd_Mo_keep_39 : decode prog_8_method_28_code 39 = .ok (.getfield 69, 3) := by decide +kernel
theorem kd_Mo_keep_42 : decode prog_8_method_28_code 42 = .ok (.sipush 300, 3) := by decide +kernel
theorem kd_Mo_keep_45 : decode prog_8_method_28_code 45 = .ok (.iload_n 1, 1) := by decide +kernel
theorem kd_Mo_keep_46 : decode prog_8_method_28_code 46 = .ok (.imul, 1) := by decide +kernel
theorem kd_Mo_keep_47 : decode prog_8_method_28_code 47 = .ok (.iload_n 3, 1) := by decide +kernel
theorem kd_Mo_keep_48 : decode prog_8_method_28_code 48 = .ok (.iadd, 1) := by decide +kernel
theorem kd_Mo_keep_49 : decode prog_8_method_28_code 49 = .ok (.iaload, 1) := by decide +kernel
theorem kd_Mo_keep_50 : decode prog_8_method_28_code 50 = .ok (.iastore, 1) := by decide +kernel
theorem kd_Mo_keep_51 : decode prog_8_method_28_code 51 = .ok (.iinc 3 1, 3) := by decide +kernel
theorem kd_Mo_keep_54 : decode prog_8_method_28_code 54 = .ok (.goto (-37), 3) := by decide +kernel
theorem kd_Mo_keep_57 : decode prog_8_method_28_code 57 = .ok (.aload_n 0, 1) := by decide +kernel
theorem kd_Mo_keep_58 : decode prog_8_method_28_code 58 = .ok (.getfield 66, 3) := by decide +kernel
theorem kd_Mo_keep_61 : decode prog_8_method_28_code 61 = .ok (.iload_n 1, 1) := by decide +kernel
theorem kd_Mo_keep_62 : decode prog_8_method_28_code 62 = .ok (.iload_n 2, 1) := by decide +kernel
theorem kd_Mo_keep_63 : decode prog_8_method_28_code 63 = .ok (.aload_n 0, 1) := by decide +kernel
theorem kd_Mo_keep_64 : decode prog_8_method_28_code 64 = .ok (.getfield 152, 3) := by decide +kernel
theorem kd_Mo_keep_67 : decode prog_8_method_28_code 67 = .ok (.isub, 1) := by decide +kernel
theorem kd_Mo_keep_68 : decode prog_8_method_28_code 68 = .ok (.iastore, 1) := by decide +kernel
theorem kd_Mo_keep_69 : decode prog_8_method_28_code 69 = .ok (.return_, 1) := by decide +kernel
def kb_Mo_keep_17 (Po : Option Value → qa_M → Prop) (k17 : qa_K) : qa_K := (qi_iload 3 (qi_iload 2 (qi_icge (qi_aload 0 (qi_gp 7 211 (qi_iload 1 (qi_iload 2 (qi_aload 0 (qi_gi 7 219 (qi_isub (qi_iast 1211 (qi_vret (0, 0) Po))))))))) (qi_aload 0 (qi_gp 7 212 (qi_ic (nI 300) (qi_iload 1 (qi_imul (qi_iload 3 (qi_iadd (qi_aload 0 (qi_gi 7 219 (qi_isub (qi_aload 0 (qi_gp 7 212 (qi_ic (nI 300) (qi_iload 1 (qi_imul (qi_iload 3 (qi_iadd (qi_iald 1212 (qi_iast 1212 (qi_iinc 3 (nI 1) k17)))))))))))))))))))))))
def kc_Mo_keep_17 (Po : Option Value → qa_M → Prop) : qa_K := qi_loop (kb_Mo_keep_17 Po)
def kc_Mo_keep_0 (Po : Option Value → qa_M → Prop) : qa_K := (qi_aload 0 (qi_gp 7 211 (qi_iload 1 (qi_iald 1211 (qi_aload 0 (qi_gi 7 214 (qi_iadd (qi_istore 2 (qi_aload 0 (qi_gi 7 219 (qi_istore 3 (kc_Mo_keep_17 Po))))))))))))
abbrev kS_Mo_keep (l : Launch) (D : va_G) (E : Nat → ClassId) (B : Nat) (sc : qa_Z) (Po : Option Value → qa_M → Prop) (pc : Nat) (k : qa_K) : Prop := qa_S l "SealedRecordsModel" prog_8_method_28_code 4 none false D E B rm_Mo_keep sc (qa_Qf D E B rm_Mo_keep Po) pc k
theorem kt_Mo_keep_17 (l : Launch) (D : va_G) (E : Nat → ClassId) (B : Nat) (sc : qa_Z) (Po : Option Value → qa_M → Prop) {k17 : qa_K} (hk17 : kS_Mo_keep l D E B sc Po 17 k17) : kS_Mo_keep l D E B sc Po 17 (kb_Mo_keep_17 Po k17) := (qs_iload_n kd_Mo_keep_17 rfl (qs_iload_n kd_Mo_keep_18 rfl (qs_icge (tgt := 57) kd_Mo_keep_19 (by decide) (qs_aload_n kd_Mo_keep_57 rfl (fg_211 ww_296 kd_Mo_keep_58 (qs_iload_n kd_Mo_keep_61 rfl (qs_iload_n kd_Mo_keep_62 rfl (qs_aload_n kd_Mo_keep_63 rfl (fg_219 ww_350 kd_Mo_keep_64 (qs_isub kd_Mo_keep_67 (qs_iast (κ := 1211) rfl (by decide) kd_Mo_keep_68 (qs_vret kd_Mo_keep_69))))))))) (qs_aload_n kd_Mo_keep_22 rfl (fg_212 ww_297 kd_Mo_keep_23 (qs_sipush kd_Mo_keep_26 (by decide) (qs_iload_n kd_Mo_keep_29 rfl (qs_imul kd_Mo_keep_30 (qs_iload_n kd_Mo_keep_31 rfl (qs_iadd kd_Mo_keep_32 (qs_aload_n kd_Mo_keep_33 rfl (fg_219 ww_350 kd_Mo_keep_34 (qs_isub kd_Mo_keep_37 (qs_aload_n kd_Mo_keep_38 rfl (fg_212 ww_297 kd_Mo_keep_39 (qs_sipush kd_Mo_keep_42 (by decide) (qs_iload_n kd_Mo_keep_45 rfl (qs_imul kd_Mo_keep_46 (qs_iload_n kd_Mo_keep_47 rfl (qs_iadd kd_Mo_keep_48 (qs_iald (κ := 1212) rfl (by decide) kd_Mo_keep_49 (qs_iast (κ := 1212) rfl (by decide) kd_Mo_keep_50 (qs_iinc kd_Mo_keep_51 (by decide) (by decide) (qs_goto (tgt := 17) kd_Mo_keep_54 (by decide) hk17))))))))))))))))))))))))
theorem ks_Mo_keep_17 (l : Launch) (D : va_G) (E : Nat → ClassId) (B : Nat) (sc : qa_Z) (Po : Option Value → qa_M → Prop) : kS_Mo_keep l D E B sc Po 17 (kc_Mo_keep_17 Po) := qs_loop fun k17 hk17 => kt_Mo_keep_17 l D E B sc Po hk17
theorem ks_Mo_keep_0 (l : Launch) (D : va_G) (E : Nat → ClassId) (B : Nat) (sc : qa_Z) (Po : Option Value → qa_M → Prop) : kS_Mo_keep l D E B sc Po 0 (kc_Mo_keep_0 Po) := (qs_aload_n kd_Mo_keep_0 rfl (fg_211 ww_296 kd_Mo_keep_1 (qs_iload_n kd_Mo_keep_4 rfl (qs_iald (κ := 1211) rfl (by decide) kd_Mo_keep_5 (qs_aload_n kd_Mo_keep_6 rfl (fg_214 ww_345 kd_Mo_keep_7 (qs_iadd kd_Mo_keep_10 (qs_istore_n kd_Mo_keep_11 rfl (by decide) (qs_aload_n kd_Mo_keep_12 rfl (fg_219 ww_350 kd_Mo_keep_13 (qs_istore_n kd_Mo_keep_16 rfl (by decide) (ks_Mo_keep_17 l D E B sc Po))))))))))))
def sp_Mo_keep : qa_sp := fun args M Po => match args with
  | [.ref a0, .int a1] => kc_Mo_keep_0 Po (0, 0) [some (.ref a0), some (.int a1), none, none] [] M
  | _ => False
theorem ct_Mo_keep (l : Launch) (sc : qa_Z) : qa_T l ym_Mo_keep (Cond.code ym_Mo_keep prog_8_method_28_code 4 none :: q_W0) rm_Mo_keep sc (sp_Mo_keep) := by
  intro D E B args M Po h
  unfold sp_Mo_keep at h
  split at h
  · exact qa_ct (ini := false) (by decide) (by decide) (Nat.le_of_ble_eq_true rfl) (qa_lvok rfl) (ks_Mo_keep_0 l D E B sc Po) h
  · exact h.elim
theorem kd_Mo_judge_0 : decode prog_8_method_29_code 0 = .ok (.aload_n 0, 1) := by decide +kernel
theorem kd_Mo_judge_1 : decode prog_8_method_29_code 1 = .ok (.getfield 17, 3) := by decide +kernel
theorem kd_Mo_judge_4 : decode prog_8_method_29_code 4 = .ok (.iconst 2, 1) := by decide +kernel
theorem kd_Mo_judge_5 : decode prog_8_method_29_code 5 = .ok (.iload_n 1, 1) := by decide +kernel
theorem kd_Mo_judge_6 : decode prog_8_method_29_code 6 = .ok (.iadd, 1) := by decide +kernel
theorem kd_Mo_judge_7 : decode prog_8_method_29_code 7 = .ok (.iaload, 1) := by decide +kernel
theorem kd_Mo_judge_8 : decode prog_8_method_29_code 8 = .ok (.istore_n 2, 1) := by decide +kernel
theorem kd_Mo_judge_9 : decode prog_8_method_29_code 9 = .ok (.aload_n 0, 1) := by decide +kernel
theorem kd_Mo_judge_10 : decode prog_8_method_29_code 10 = .ok (.getfield 133, 3) := by decide +kernel
theorem kd_Mo_judge_13 : decode prog_8_method_29_code 13 = .ok (.bipush 21, 2) := by decide +kernel
theorem kd_Mo_judge_15 : decode prog_8_method_29_code 15 = .ok (.if_icmp .lt 44, 3) := by decide +kernel
theorem kd_Mo_judge_18 : decode prog_8_method_29_code 18 = .ok (.aload_n 0, 1) := by decide +kernel
theorem kd_Mo_judge_19 : decode prog_8_method_29_code 19 = .ok (.getfield 133, 3) := by decide +kernel
theorem kd_Mo_judge_22 : decode prog_8_method_29_code 22 = .ok (.bipush 23, 2) := by decide +kernel
theorem kd_Mo_judge_24 : decode prog_8_method_29_code 24 = .ok (.if_icmp .gt 35, 3) := by decide +kernel
theorem kd_Mo_judge_27 : decode prog_8_method_29_code 27 = .ok (.aload_n 0, 1) := by decide +kernel
theorem kd_Mo_judge_28 : decode prog_8_method_29_code 28 = .ok (.getfield 133, 3) := by decide +kernel
theorem kd_Mo_judge_31 : decode prog_8_method_29_code 31 = .ok (.bipush 23, 2) := by decide +kernel
theorem kd_Mo_judge_33 : decode prog_8_method_29_code 33 = .ok (.if_icmp .ne 8, 3) := by decide +kernel
theorem kd_Mo_judge_36 : decode prog_8_method_29_code 36 = .ok (.iload_n 2, 1) := by decide +kernel
theorem kd_Mo_judge_37 : decode prog_8_method_29_code 37 = .ok (.iconst 2, 1) := by decide +kernel
theorem kd_Mo_judge_38 : decode prog_8_method_29_code 38 = .ok (.if_icmp .ne 21, 3) := by decide +kernel
theorem kd_Mo_judge_41 : decode prog_8_method_29_code 41 = .ok (.aload_n 0, 1) := by decide +kernel
theorem kd_Mo_judge_42 : decode prog_8_method_29_code 42 = .ok (.getfield 66, 3) := by decide +kernel
theorem kd_Mo_judge_45 : decode prog_8_method_29_code 45 = .ok (.iload_n 1, 1) := by decide +kernel
theorem kd_Mo_judge_46 : decode prog_8_method_29_code 46 = .ok (.iaload, 1) := by decide +kernel
theorem kd_Mo_judge_47 : decode prog_8_method_29_code 47 = .ok (.ifCond .le 15, 3) := by decide +kernel
theorem kd_Mo_judge_50 : decode prog_8_method_29_code 50 = .ok (.aload_n 0, 1) := by decide +kernel
theorem kd_Mo_judge_51 : decode prog_8_method_29_code 51 = .ok (.getfield 133, 3) := by decide +kernel
theorem kd_Mo_judge_54 : decode prog_8_method_29_code 54 = .ok (.bipush 22, 2) := by decide +kernel
theorem kd_Mo_judge_56 : decode prog_8_method_29_code 56 = .ok (.if_icmp .eq 6, 3) := by decide +kernel
theorem kd_Mo_judge_59 : decode prog_8_method_29_code 59 = .ok (.bipush 10, 2) := by decide +kernel
theorem kd_Mo_judge_61 : decode prog_8_method_29_code 61 = .ok (.ireturn, 1) := by decide +kernel
theorem kd_Mo_judge_62 : decode prog_8_method_29_code 62 = .ok (.aload_n 0, 1) := by decide +kernel
theorem kd_Mo_judge_63 : decode prog_8_method_29_code 63 = .ok (.getfield 133, 3) := by decide +kernel
theorem kd_Mo_judge_66 : decode prog_8_method_29_code 66 = .ok (.bipush 21, 2) := by decide +kernel
theorem kd_Mo_judge_68 : decode prog_8_method_29_code 68 = .ok (.if_icmp .ne 18, 3) := by decide +kernel
theorem kd_Mo_judge_71 : decode prog_8_method_29_code 71 = .ok (.aload_n 0, 1) := by decide +kernel
theorem kd_Mo_judge_72 : decode prog_8_method_29_code 72 = .ok (.getfield 136, 3) := by decide +kernel
theorem kd_Mo_judge_75 : decode prog_8_method_29_code 75 = .ok (.iconst 2, 1) := by decide +kernel
theorem kd_Mo_judge_76 : decode prog_8_method_29_code 76 = .ok (.if_icmp .ne 7, 3) := by decide +kernel
theorem kd_Mo_judge_79 : decode prog_8_method_29_code 79 = .ok (.iconst 0, 1) := by decide +kernel
theorem kd_Mo_judge_80 : decode prog_8_method_29_code 80 = .ok (.goto 5, 3) := by decide +kernel
theorem kd_Mo_judge_83 : decode prog_8_method_29_code 83 = .ok (.bipush 50, 2) := by decide +kernel
theorem kd_Mo_judge_85 : decode prog_8_method_29_code 85 = .ok (.ireturn, 1) := by decide +kernel
theorem kd_Mo_judge_86 : decode prog_8_method_29_code 86 = .ok (.aload_n 0, 1) := by decide +kernel
theorem kd_Mo_judge_87 : decode prog_8_method_29_code 87 = .ok (.getfield 133, 3) := by decide +kernel
theorem kd_Mo_judge_90 : decode prog_8_method_29_code 90 = .ok (.bipush 23, 2) := by decide +kernel
theorem kd_Mo_judge_92 : decode prog_8_method_29_code 92 = .ok (.if_icmp .ne 5, 3) := by decide +kernel
theorem kd_Mo_judge_95 : decode prog_8_method_29_code 95 = .ok (.iconst 0, 1) := by decide +kernel
theorem kd_Mo_judge_96 : decode prog_8_method_29_code 96 = .ok (.ireturn, 1) := by decide +kernel
theorem kd_Mo_judge_97 : decode prog_8_method_29_code 97 = .ok (.aload_n 0, 1) := by decide +kernel
theorem kd_Mo_judge_98 : decode prog_8_method_29_code 98 = .ok (.getfield 136, 3) := by decide +kernel
theorem kd_Mo_judge_101 : decode prog_8_method_29_code 101 = .ok (.ifCond .ne 6, 3) := by decide +kernel
theorem kd_Mo_judge_104 : decode prog_8_method_29_code 104 = .ok (.bipush 10, 2) := by decide +kernel
theorem kd_Mo_judge_106 : decode prog_8_method_29_code 106 = .ok (.ireturn, 1) := by decide +kernel
theorem kd_Mo_judge_107 : decode prog_8_method_29_code 107 = .ok (.aload_n 0, 1) := by decide +kernel
theorem kd_Mo_judge_108 : decode prog_8_method_29_code 108 = .ok (.iload_n 1, 1) := by decide +kernel
theorem kd_Mo_judge_109 : decode prog_8_method_29_code 109 = .ok (.invokevirtual 155, 3) := by decide +kernel
theorem kd_Mo_judge_112 : decode prog_8_method_29_code 112 = .ok (.aload_n 0, 1) := by decide +kernel
theorem kd_Mo_judge_113 : decode prog_8_method_29_code 113 = .ok (.getfield 143, 3) := by decide +kernel
theorem kd_Mo_judge_116 : decode prog_8_method_29_code 116 = .ok (.ifCond .ge 5, 3) := by decide +kernel
theorem kd_Mo_judge_119 : decode prog_8_method_29_code 119 = .ok (.iconst 0, 1) := by decide +kernel
theorem kd_Mo_judge_120 : decode prog_8_method_29_code 120 = .ok (.ireturn, 1) := by decide +kernel
theorem kd_Mo_judge_121 : decode prog_8_method_29_code 121 = .ok (.iload_n 2, 1) := by decide +kernel
theorem kd_Mo_judge_122 : decode prog_8_method_29_code 122 = .ok (.iconst 2, 1) := by decide +kernel
theorem kd_Mo_judge_123 : decode prog_8_method_29_code 123 = .ok (.if_icmp .eq 6, 3) := by decide +kernel
theorem kd_Mo_judge_126 : decode prog_8_method_29_code 126 = .ok (.bipush 10, 2) := by decide +kernel
theorem kd_Mo_judge_128 : decode prog_8_method_29_code 128 = .ok (.ireturn, 1) := by decide +kernel
theorem kd_Mo_judge_129 : decode prog_8_method_29_code 129 = .ok (.aload_n 0, 1) := by decide +kernel
theorem kd_Mo_judge_130 : decode prog_8_method_29_code 130 = .ok (.getfield 146, 3) := by decide +kernel
theorem kd_Mo_judge_133 : decode prog_8_method_29_code 133 = .ok (.iconst 1, 1) := by decide +kernel
theorem kd_Mo_judge_134 : decode prog_8_method_29_code 134 = .ok (.if_icmp .eq 6, 3) := by decide +kernel
theorem kd_Mo_judge_137 : decode prog_8_method_29_code 137 = .ok (.bipush 50, 2) := by decide +kernel
theorem kd_Mo_judge_139 : decode prog_8_method_29_code 139 = .ok (.ireturn, 1) := by decide +kernel
theorem kd_Mo_judge_140 : decode prog_8_method_29_code 140 = .ok (.aload_n 0, 1) := by decide +kernel
theorem kd_Mo_judge_141 : decode prog_8_method_29_code 141 = .ok (.getfield 149, 3) := by decide +kernel
theorem kd_Mo_judge_144 : decode prog_8_method_29_code 144 = .ok (.iconst 1, 1) := by decide +kernel
theorem kd_Mo_judge_145 : decode prog_8_method_29_code 145 = .ok (.if_icmp .le 8, 3) := by decide +kernel
theorem kd_Mo_judge_148 : decode prog_8_method_29_code 148 = .ok (.bipush 47, 2) := by decide +kernel
theorem kd_Mo_judge_150 : decode prog_8_method_29_code 150 = .ok (.goto 20, 3) := by decide +kernel
theorem kd_Mo_judge_153 : decode prog_8_method_29_code 153 = .ok (.aload_n 0, 1) := by decide +kernel
theorem kd_Mo_judge_154 : decode prog_8_method_29_code 154 = .ok (.getfield 143, 3) := by decide +kernel
theorem kd_Mo_judge_157 : decode prog_8_method_29_code 157 = .ok (.aload_n 0, 1) := by decide +kernel
theorem kd_Mo_judge_158 : decode prog_8_method_29_code 158 = .ok (.getfield 136, 3) := by decide +kernel
theorem kd_Mo_judge_161 : decode prog_8_method_29_code 161 = .ok (.if_icmp .eq 8, 3) := by decide +kernel
theorem kd_Mo_judge_164 : decode prog_8_method_29_code 164 = .ok (.bipush 10, 2) := by decide +kernel
theorem kd_Mo_judge_166 : decode prog_8_method_29_code 166 = .ok (.goto 4, 3) := by decide +kernel
theorem kd_Mo_judge_169 : decode prog_8_method_29_code 169 = .ok (.iconst 0, 1) := by decide +kernel
theorem kd_Mo_judge_170 : decode prog_8_method_29_code 170 = .ok (.ireturn, 1) := by decide +kernel
def kc_Mo_judge_170 (Po : Option Value → qa_M → Prop) : qa_K := (qi_iret (0, 0) Po)
def kc_Mo_judge_85 (Po : Option Value → qa_M → Prop) : qa_K := (qi_iret (0, 0) Po)
def kc_Mo_judge_62 (Po : Option Value → qa_M → Prop) : qa_K := (qi_aload 0 (qi_gi 7 213 (qi_ic (nI 21) (qi_icne (qi_aload 0 (qi_gi 7 213 (qi_ic (nI 23) (qi_icne (qi_aload 0 (qi_gi 7 214 (qi_ifne (qi_aload 0 (qi_iload 1 (qi_callv 2 7 (0, 0) sp_Mo_read (qi_aload 0 (qi_gi 7 216 (qi_ifge (qi_iload 2 (qi_ic (nI 2) (qi_iceq (qi_aload 0 (qi_gi 7 217 (qi_ic (nI 1) (qi_iceq (qi_aload 0 (qi_gi 7 218 (qi_ic (nI 1) (qi_icle (qi_aload 0 (qi_gi 7 216 (qi_aload 0 (qi_gi 7 214 (qi_iceq (qi_ic (nI 0) (kc_Mo_judge_170 Po)) (qi_ic (nI 10) (kc_Mo_judge_170 Po))))))) (qi_ic (nI 47) (kc_Mo_judge_170 Po)))))) (qi_ic (nI 50) (qi_iret (0, 0) Po)))))) (qi_ic (nI 10) (qi_iret (0, 0) Po))))) (qi_ic (nI 0) (qi_iret (0, 0) Po)))))))) (qi_ic (nI 10) (qi_iret (0, 0) Po))))) (qi_ic (nI 0) (qi_iret (0, 0) Po)))))) (qi_aload 0 (qi_gi 7 214 (qi_ic (nI 2) (qi_icne (qi_ic (nI 50) (kc_Mo_judge_85 Po)) (qi_ic (nI 0) (kc_Mo_judge_85 Po))))))))))
def kc_Mo_judge_59 (Po : Option Value → qa_M → Prop) : qa_K := (qi_ic (nI 10) (qi_iret (0, 0) Po))
def kc_Mo_judge_41 (Po : Option Value → qa_M → Prop) : qa_K := (qi_aload 0 (qi_gp 7 211 (qi_iload 1 (qi_iald 1211 (qi_ifle (kc_Mo_judge_62 Po) (qi_aload 0 (qi_gi 7 213 (qi_ic (nI 22) (qi_iceq (kc_Mo_judge_62 Po) (kc_Mo_judge_59 Po))))))))))
def kc_Mo_judge_0 (Po : Option Value → qa_M → Prop) : qa_K := (qi_aload 0 (qi_gp 7 195 (qi_ic (nI 2) (qi_iload 1 (qi_iadd (qi_iald 1195 (qi_istore 2 (qi_aload 0 (qi_gi 7 213 (qi_ic (nI 21) (qi_iclt (kc_Mo_judge_59 Po) (qi_aload 0 (qi_gi 7 213 (qi_ic (nI 23) (qi_icgt (kc_Mo_judge_59 Po) (qi_aload 0 (qi_gi 7 213 (qi_ic (nI 23) (qi_icne (kc_Mo_judge_41 Po) (qi_iload 2 (qi_ic (nI 2) (qi_icne (kc_Mo_judge_59 Po) (kc_Mo_judge_41 Po)))))))))))))))))))))))
abbrev kS_Mo_judge (l : Launch) (D : va_G) (E : Nat → ClassId) (B : Nat) (sc : qa_Z) (Po : Option Value → qa_M → Prop) (pc : Nat) (k : qa_K) : Prop := qa_S l "SealedRecordsModel" prog_8_method_29_code 3 (some .int) false D E B rm_Mo_judge sc (qa_Qf D E B rm_Mo_judge Po) pc k
theorem ks_Mo_judge_170 (l : Launch) (D : va_G) (E : Nat → ClassId) (B : Nat) (sc : qa_Z) (Po : Option Value → qa_M → Prop) : kS_Mo_judge l D E B sc Po 170 (kc_Mo_judge_170 Po) := (qs_iret kd_Mo_judge_170)
theorem ks_Mo_judge_85 (l : Launch) (D : va_G) (E : Nat → ClassId) (B : Nat) (sc : qa_Z) (Po : Option Value → qa_M → Prop) : kS_Mo_judge l D E B sc Po 85 (kc_Mo_judge_85 Po) := (qs_iret kd_Mo_judge_85)
theorem ks_Mo_judge_62 (l : Launch) (D : va_G) (E : Nat → ClassId) (B : Nat) (sc : qa_Z) (Po : Option Value → qa_M → Prop) : kS_Mo_judge l D E B sc Po 62 (kc_Mo_judge_62 Po) := (qs_aload_n kd_Mo_judge_62 rfl (fg_213 ww_344 kd_Mo_judge_63 (qs_bipush kd_Mo_judge_66 (by decide) (qs_icne (tgt := 86) kd_Mo_judge_68 (by decide) (qs_aload_n kd_Mo_judge_86 rfl (fg_213 ww_344 kd_Mo_judge_87 (qs_bipush kd_Mo_judge_90 (by decide) (qs_icne (tgt := 97) kd_Mo_judge_92 (by decide) (qs_aload_n kd_Mo_judge_97 rfl (fg_214 ww_345 kd_Mo_judge_98 (qs_ifne (tgt := 107) kd_Mo_judge_101 (by decide) (qs_aload_n kd_Mo_judge_107 rfl (qs_iload_n kd_Mo_judge_108 rfl (qs_callv (ci := 6) (ct_Mo_read l sc) ww_354 (by decide) rfl (by decide) ww_355 ww_356 ww_357 ww_13 yd_Mo_read kd_Mo_judge_109 (qs_aload_n kd_Mo_judge_112 rfl (fg_216 ww_351 kd_Mo_judge_113 (qs_ifge (tgt := 121) kd_Mo_judge_116 (by decide) (qs_iload_n kd_Mo_judge_121 rfl (qs_iconst kd_Mo_judge_122 (by decide) (qs_iceq (tgt := 129) kd_Mo_judge_123 (by decide) (qs_aload_n kd_Mo_judge_129 rfl (fg_217 ww_352 kd_Mo_judge_130 (qs_iconst kd_Mo_judge_133 (by decide) (qs_iceq (tgt := 140) kd_Mo_judge_134 (by decide) (qs_aload_n kd_Mo_judge_140 rfl (fg_218 ww_353 kd_Mo_judge_141 (qs_iconst kd_Mo_judge_144 (by decide) (qs_icle (tgt := 153) kd_Mo_judge_145 (by decide) (qs_aload_n kd_Mo_judge_153 rfl (fg_216 ww_351 kd_Mo_judge_154 (qs_aload_n kd_Mo_judge_157 rfl (fg_214 ww_345 kd_Mo_judge_158 (qs_iceq (tgt := 169) kd_Mo_judge_161 (by decide) (qs_iconst kd_Mo_judge_169 (by decide) (ks_Mo_judge_170 l D E B sc Po)) (qs_bipush kd_Mo_judge_164 (by decide) (qs_goto (tgt := 170) kd_Mo_judge_166 (by decide) (ks_Mo_judge_170 l D E B sc Po)))))))) (qs_bipush kd_Mo_judge_148 (by decide) (qs_goto (tgt := 170) kd_Mo_judge_150 (by decide) (ks_Mo_judge_170 l D E B sc Po))))))) (qs_bipush kd_Mo_judge_137 (by decide) (qs_iret kd_Mo_judge_139)))))) (qs_bipush kd_Mo_judge_126 (by decide) (qs_iret kd_Mo_judge_128))))) (qs_iconst kd_Mo_judge_119 (by decide) (qs_iret kd_Mo_judge_120)))))))) (qs_bipush kd_Mo_judge_104 (by decide) (qs_iret kd_Mo_judge_106))))) (qs_iconst kd_Mo_judge_95 (by decide) (qs_iret kd_Mo_judge_96)))))) (qs_aload_n kd_Mo_judge_71 rfl (fg_214 ww_345 kd_Mo_judge_72 (qs_iconst kd_Mo_judge_75 (by decide) (qs_icne (tgt := 83) kd_Mo_judge_76 (by decide) (qs_bipush kd_Mo_judge_83 (by decide) (ks_Mo_judge_85 l D E B sc Po)) (qs_iconst kd_Mo_judge_79 (by decide) (qs_goto (tgt := 85) kd_Mo_judge_80 (by decide) (ks_Mo_judge_85 l D E B sc Po)))))))))))
theorem ks_Mo_judge_59 (l : Launch) (D : va_G) (E : Nat → ClassId) (B : Nat) (sc : qa_Z) (Po : Option Value → qa_M → Prop) : kS_Mo_judge l D E B sc Po 59 (kc_Mo_judge_59 Po) := (qs_bipush kd_Mo_judge_59 (by decide) (qs_iret kd_Mo_judge_61))
theorem ks_Mo_judge_41 (l : Launch) (D : va_G) (E : Nat → ClassId) (B : Nat) (sc : qa_Z) (Po : Option Value → qa_M → Prop) : kS_Mo_judge l D E B sc Po 41 (kc_Mo_judge_41 Po) := (qs_aload_n kd_Mo_judge_41 rfl (fg_211 ww_296 kd_Mo_judge_42 (qs_iload_n kd_Mo_judge_45 rfl (qs_iald (κ := 1211) rfl (by decide) kd_Mo_judge_46 (qs_ifle (tgt := 62) kd_Mo_judge_47 (by decide) (ks_Mo_judge_62 l D E B sc Po) (qs_aload_n kd_Mo_judge_50 rfl (fg_213 ww_344 kd_Mo_judge_51 (qs_bipush kd_Mo_judge_54 (by decide) (qs_iceq (tgt := 62) kd_Mo_judge_56 (by decide) (ks_Mo_judge_62 l D E B sc Po) (ks_Mo_judge_59 l D E B sc Po))))))))))
theorem ks_Mo_judge_0 (l : Launch) (D : va_G) (E : Nat → ClassId) (B : Nat) (sc : qa_Z) (Po : Option Value → qa_M → Prop) : kS_Mo_judge l D E B sc Po 0 (kc_Mo_judge_0 Po) := (qs_aload_n kd_Mo_judge_0 rfl (fg_195 ww_279 kd_Mo_judge_1 (qs_iconst kd_Mo_judge_4 (by decide) (qs_iload_n kd_Mo_judge_5 rfl (qs_iadd kd_Mo_judge_6 (qs_iald (κ := 1195) rfl (by decide) kd_Mo_judge_7 (qs_istore_n kd_Mo_judge_8 rfl (by decide) (qs_aload_n kd_Mo_judge_9 rfl (fg_213 ww_344 kd_Mo_judge_10 (qs_bipush kd_Mo_judge_13 (by decide) (qs_iclt (tgt := 59) kd_Mo_judge_15 (by decide) (ks_Mo_judge_59 l D E B sc Po) (qs_aload_n kd_Mo_judge_18 rfl (fg_213 ww_344 kd_Mo_judge_19 (qs_bipush kd_Mo_judge_22 (by decide) (qs_icgt (tgt := 59) kd_Mo_judge_24 (by decide) (ks_Mo_judge_59 l D E B sc Po) (qs_aload_n kd_Mo_judge_27 rfl (fg_213 ww_344 kd_Mo_judge_28 (qs_bipush kd_Mo_judge_31 (by decide) (qs_icne (tgt := 41) kd_Mo_judge_33 (by decide) (ks_Mo_judge_41 l D E B sc Po) (qs_iload_n kd_Mo_judge_36 rfl (qs_iconst kd_Mo_judge_37 (by decide) (qs_icne (tgt := 59) kd_Mo_judge_38 (by decide) (ks_Mo_judge_59 l D E B sc Po) (ks_Mo_judge_41 l D E B sc Po)))))))))))))))))))))))
def sp_Mo_judge : qa_sp := fun args M Po => match args with
  | [.ref a0, .int a1] => kc_Mo_judge_0 Po (0, 0) [some (.ref a0), some (.int a1), none] [] M
  | _ => False
theorem ct_Mo_judge (l : Launch) (sc : qa_Z) : qa_T l ym_Mo_judge (Cond.code ym_Mo_judge prog_8_method_29_code 3 (some .int) :: q_W0) rm_Mo_judge sc (sp_Mo_judge) := by
  intro D E B args M Po h
  unfold sp_Mo_judge at h
  split at h
  · exact qa_ct (ini := false) (by decide) (by decide) (Nat.le_of_ble_eq_true rfl) (qa_lvok rfl) (ks_Mo_judge_0 l D E B sc Po) h
  · exact h.elim
theorem kd_Mo_store_0 : decode prog_8_method_30_code 0 = .ok (.bipush 16, 2) := by decide +kernel
theorem kd_Mo_store_2 : decode prog_8_method_30_code 2 = .ok (.iload_n 1, 1) := by decide +kernel
theorem kd_Mo_store_3 : decode prog_8_method_30_code 3 = .ok (.imul, 1) := by decide +kernel
theorem kd_Mo_store_4 : decode prog_8_method_30_code 4 = .ok (.aload_n 0, 1) := by decide +kernel
theorem kd_Mo_store_5 : decode prog_8_method_30_code 5 = .ok (.getfield 54, 3) := by decide +kernel
theorem kd_Mo_store_8 : decode prog_8_method_30_code 8 = .ok (.iload_n 1, 1) := by decide +kernel
theorem kd_Mo_store_9 : decode prog_8_method_30_code 9 = .ok (.iaload, 1) := by decide +kernel
theorem kd_Mo_store_10 : decode prog_8_method_30_code 10 = .ok (.iadd, 1) := by decide +kernel
theorem kd_Mo_store_11 : decode prog_8_method_30_code 11 = .ok (.istore_n 2, 1) := by decide +kernel
theorem kd_Mo_store_12 : decode prog_8_method_30_code 12 = .ok (.aload_n 0, 1) := by decide +kernel
theorem kd_Mo_store_13 : decode prog_8_method_30_code 13 = .ok (.getfield 57, 3) := by decide +kernel
theorem kd_Mo_store_16 : decode prog_8_method_30_code 16 = .ok (.iload_n 2, 1) := by decide +kernel
theorem kd_Mo_store_17 : decode prog_8_method_30_code 17 = .ok (.aload_n 0, 1) := by decide +kernel
theorem kd_Mo_store_18 : decode prog_8_method_30_code 18 = .ok (.getfield 133, 3) := by decide +kernel
theorem kd_Mo_store_21 : decode prog_8_method_30_code 21 = .ok (.iastore, 1) := by decide +kernel
theorem kd_Mo_store_22 : decode prog_8_method_30_code 22 = .ok (.aload_n 0, 1) := by decide +kernel
theorem kd_Mo_store_23 : decode prog_8_method_30_code 23 = .ok (.getfield 60, 3) := by decide +kernel
theorem kd_Mo_store_26 : decode prog_8_method_30_code 26 = .ok (.iload_n 2, 1) := by decide +kernel
theorem kd_Mo_store_27 : decode prog_8_method_30_code 27 = .ok (.aload_n 0, 1) := by decide +kernel
theorem kd_Mo_store_28 : decode prog_8_method_30_code 28 = .ok (.getfield 136, 3) := by decide +kernel
theorem kd_Mo_store_31 : decode prog_8_method_30_code 31 = .ok (.iastore, 1) := by decide +kernel
theorem kd_Mo_store_32 : decode prog_8_method_30_code 32 = .ok (.iconst 0, 1) := by decide +kernel
theorem kd_Mo_store_33 : decode prog_8_method_30_code 33 = .ok (.istore_n 3, 1) := by decide +kernel
theorem kd_Mo_store_34 : decode prog_8_method_30_code 34 = .ok (.iload_n 3, 1) := by decide +kernel
theorem kd_Mo_store_35 : decode prog_8_method_30_code 35 = .ok (.aload_n 0, 1) := by decide +kernel
theorem kd_Mo_store_36 : decode prog_8_method_30_code 36 = .ok (.getfield 136, 3) := by decide +kernel
theorem kd_Mo_store_39 : decode prog_8_method_30_code 39 = .ok (.if_icmp .ge 26, 3) := by decide +kernel
theorem kd_Mo_store_42 : decode prog_8_method_30_code 42 = .ok (.aload_n 0, 1) := by decide +kernel
theorem kd_Mo_store_43 : decode prog_8_method_30_code 43 = .ok (.getfield 63, 3) := by decide +kernel
theorem kd_Mo_store_46 : decode prog_8_method_30_code 46 = .ok (.bipush 16, 2) := by decide +kernel
theorem kd_Mo_store_48 : decode prog_8_method_30_code 48 = .ok (.iload_n 2, 1) := by decide +kernel
theorem kd_Mo_store_49 : decode prog_8_method_30_code 49 = .ok (.imul, 1) := by decide +kernel
theorem kd_Mo_store_50 : decode prog_8_method_30_code 50 = .ok (.iload_n 3, 1) := by decide +kernel
theorem kd_Mo_store_51 : decode prog_8_method_30_code 51 = .ok (.iadd, 1) := by decide +kernel
theorem kd_Mo_store_52 : decode prog_8_method_30_code 52 = .ok (.aload_n 0, 1) := by decide +kernel
theorem kd_Mo_store_53 : decode prog_8_method_30_code 53 = .ok (.getfield 72, 3) := by decide +kernel
theorem kd_Mo_store_56 : decode prog_8_method_30_code 56 = .ok (.iload_n 3, 1) := by decide +kernel
theorem kd_Mo_store_57 : decode prog_8_method_30_code 57 = .ok (.iaload, 1) := by decide +kernel
theorem kd_Mo_store_58 : decode prog_8_method_30_code 58 = .ok (.iastore, 1) := by decide +kernel
theorem kd_Mo_store_59 : decode prog_8_method_30_code 59 = .ok (.iinc 3 1, 3) := by decide +kernel
theorem kd_Mo_store_62 : decode prog_8_method_30_code 62 = .ok (.goto (-28), 3) := by decide +kernel
theorem kd_Mo_store_65 : decode prog_8_method_30_code 65 = .ok (.aload_n 0, 1) := by decide +kernel
theorem kd_Mo_store_66 : decode prog_8_method_30_code 66 = .ok (.getfield 54, 3) := by decide +kernel
theorem kd_Mo_store_69 : decode prog_8_method_30_code 69 = .ok (.iload_n 1, 1) := by decide +kernel
theorem kd_Mo_store_70 : decode prog_8_method_30_code 70 = .ok (.dup2, 1) := by decide +kernel
theorem kd_Mo_store_71 : decode prog_8_method_30_code 71 = .ok (.iaload, 1) := by decide +kernel
theorem kd_Mo_store_72 : decode prog_8_method_30_code 72 = .ok (.iconst 1, 1) := by decide +kernel
theorem kd_Mo_store_73 : decode prog_8_method_30_code 73 = .ok (.iadd, 1) := by decide +kernel
theorem kd_Mo_store_74 : decode prog_8_method_30_code 74 = .ok (.iastore, 1) := by decide +kernel
theorem kd_Mo_store_75 : decode prog_8_method_30_code 75 = .ok (.aload_n 0, 1) := by decide +kernel
theorem kd_Mo_store_76 : decode prog_8_method_30_code 76 = .ok (.getfield 133, 3) := by decide +kernel
theorem kd_Mo_store_79 : decode prog_8_method_30_code 79 = .ok (.bipush 21, 2) := by decide +kernel
theorem kd_Mo_store_81 : decode prog_8_method_30_code 81 = .ok (.if_icmp .ne 24, 3) := by decide +kernel
theorem kd_Mo_store_84 : decode prog_8_method_30_code 84 = .ok (.aload_n 0, 1) := by decide +kernel
theorem kd_Mo_store_85 : decode prog_8_method_30_code 85 = .ok (.getfield 26, 3) := by decide +kernel
theorem kd_Mo_store_88 : decode prog_8_method_30_code 88 = .ok (.iconst 2, 1) := by decide +kernel
theorem kd_Mo_store_89 : decode prog_8_method_30_code 89 = .ok (.iload_n 1, 1) := by decide +kernel
theorem kd_Mo_store_90 : decode prog_8_method_30_code 90 = .ok (.iadd, 1) := by decide +kernel
theorem kd_Mo_store_91 : decode prog_8_method_30_code 91 = .ok (.iconst 1, 1) := by decide +kernel
theorem kd_Mo_store_92 : decode prog_8_method_30_code 92 = .ok (.bastore, 1) := by decide +kernel
theorem kd_Mo_store_93 : decode prog_8_method_30_code 93 = .ok (.aload_n 0, 1) := by decide +kernel
theorem kd_Mo_store_94 : decode prog_8_method_30_code 94 = .ok (.getfield 30, 3) := by decide +kernel
theorem kd_Mo_store_97 : decode prog_8_method_30_code 97 = .ok (.iload_n 1, 1) := by decide +kernel
theorem kd_Mo_store_98 : decode prog_8_method_30_code 98 = .ok (.aload_n 0, 1) := by decide +kernel
theorem kd_Mo_store_99 : decode prog_8_method_30_code 99 = .ok (.getfield 72, 3) := by decide +kernel
theorem kd_Mo_store_102 : decode prog_8_method_30_code 102 = .ok (.iconst 1, 1) := by decide +kernel
theorem kd_Mo_store_103 : decode prog_8_method_30_code 103 = .ok (.iaload, 1) := by decide +kernel
theorem kd_Mo_store_104 : decode prog_8_method_30_code 104 = .ok (.iastore, 1) := by decide +kernel
theorem kd_Mo_store_105 : decode prog_8_method_30_code 105 = .ok (.aload_n 0, 1) := by decide +kernel
theorem kd_Mo_store_106 : decode prog_8_method_30_code 106 = .ok (.getfield 133, 3) := by decide +kernel
theorem kd_Mo_store_109 : decode prog_8_method_30_code 109 = .ok (.bipush 22, 2) := by decide +kernel
theorem kd_Mo_store_111 : decode prog_8_method_30_code 111 = .ok (.if_icmp .ne 50, 3) := by decide +kernel
theorem kd_Mo_store_114 : decode prog_8_method_30_code 114 = .ok (.aload_n 0, 1) := by decide +kernel
theorem kd_Mo_store_115 : decode prog_8_method_30_code 115 = .ok (.iload_n 1, 1) := by decide +kernel
theorem kd_Mo_store_116 : decode prog_8_method_30_code 116 = .ok (.invokevirtual 158, 3) := by decide +kernel
theorem kd_Mo_store_119 : decode prog_8_method_30_code 119 = .ok (.aload_n 0, 1) := by decide +kernel
theorem kd_Mo_store_120 : decode prog_8_method_30_code 120 = .ok (.getfield 143, 3) := by decide +kernel
theorem kd_Mo_store_123 : decode prog_8_method_30_code 123 = .ok (.ifCond .lt 38, 3) := by decide +kernel
theorem kd_Mo_store_126 : decode prog_8_method_30_code 126 = .ok (.aload_n 0, 1) := by decide +kernel
theorem kd_Mo_store_127 : decode prog_8_method_30_code 127 = .ok (.iconst 2, 1) := by decide +kernel
theorem kd_Mo_store_128 : decode prog_8_method_30_code 128 = .ok (.iload_n 1, 1) := by decide +kernel
theorem kd_Mo_store_129 : decode prog_8_method_30_code 129 = .ok (.iadd, 1) := by decide +kernel
theorem kd_Mo_store_130 : decode prog_8_method_30_code 130 = .ok (.invokevirtual 103, 3) := by decide +kernel
theorem kd_Mo_store_133 : decode prog_8_method_30_code 133 = .ok (.aload_n 0, 1) := by decide +kernel
theorem kd_Mo_store_134 : decode prog_8_method_30_code 134 = .ok (.getfield 33, 3) := by decide +kernel
theorem kd_Mo_store_137 : decode prog_8_method_30_code 137 = .ok (.iload_n 1, 1) := by decide +kernel
theorem kd_Mo_store_138 : decode prog_8_method_30_code 138 = .ok (.aload_n 0, 1) := by decide +kernel
theorem kd_Mo_store_139 : decode prog_8_method_30_code 139 = .ok (.getfield 33, 3) := by decide +kernel
theorem kd_Mo_store_142 : decode prog_8_method_30_code 142 = .ok (.iload_n 1, 1) := by decide +kernel
theorem kd_Mo_store_143 : decode prog_8_method_30_code 143 = .ok (.baload, 1) := by decide +kernel
theorem kd_Mo_store_144 : decode prog_8_method_30_code 144 = .ok (.ifCond .ne 11, 3) := by decide +kernel
theorem kd_Mo_store_147 : decode prog_8_method_30_code 147 = .ok (.aload_n 0, 1) := by decide +kernel
theorem kd_Mo_store_148 : decode prog_8_method_30_code 148 = .ok (.getfield 149, 3) := by decide +kernel
theorem kd_Mo_store_151 : decode prog_8_method_30_code 151 = .ok (.iconst 1, 1) := by decide +kernel
theorem kd_Mo_store_152 : decode prog_8_method_30_code 152 = .ok (.if_icmp .ne 7, 3) := by decide +kernel
theorem kd_Mo_store_155 : decode prog_8_method_30_code 155 = .ok (.iconst 1, 1) := by decide +kernel
theorem kd_Mo_store_156 : decode prog_8_method_30_code 156 = .ok (.goto 4, 3) := by decide +kernel
theorem kd_Mo_store_159 : decode prog_8_method_30_code 159 = .ok (.iconst 0, 1) := by decide +kernel
theorem kd_Mo_store_160 : decode prog_8_method_30_code 160 = .ok (.bastore, 1) := by decide +kernel
theorem kd_Mo_store_161 : decode prog_8_method_30_code 161 = .ok (.return_, 1) := by decide +kernel
def kc_Mo_store_161 (Po : Option Value → qa_M → Prop) : qa_K := (qi_vret (0, 0) Po)
def kc_Mo_store_160 (Po : Option Value → qa_M → Prop) : qa_K := (qi_zast 1200 (kc_Mo_store_161 Po))
def kc_Mo_store_155 (Po : Option Value → qa_M → Prop) : qa_K := (qi_ic (nI 1) (kc_Mo_store_160 Po))
def kc_Mo_store_105 (Po : Option Value → qa_M → Prop) : qa_K := (qi_aload 0 (qi_gi 7 213 (qi_ic (nI 22) (qi_icne (kc_Mo_store_161 Po) (qi_aload 0 (qi_iload 1 (qi_callv 2 7 (0, 0) sp_Mo_keep (qi_aload 0 (qi_gi 7 216 (qi_iflt (kc_Mo_store_161 Po) (qi_aload 0 (qi_ic (nI 2) (qi_iload 1 (qi_iadd (qi_callv 2 7 (0, 0) sp_Mo_change (qi_aload 0 (qi_gp 7 200 (qi_iload 1 (qi_aload 0 (qi_gp 7 200 (qi_iload 1 (qi_iald 1200 (qi_ifne (kc_Mo_store_155 Po) (qi_aload 0 (qi_gi 7 218 (qi_ic (nI 1) (qi_icne (qi_ic (nI 0) (kc_Mo_store_160 Po)) (kc_Mo_store_155 Po))))))))))))))))))))))))))))
def kb_Mo_store_34 (Po : Option Value → qa_M → Prop) (k34 : qa_K) : qa_K := (qi_iload 3 (qi_aload 0 (qi_gi 7 214 (qi_icge (qi_aload 0 (qi_gp 7 207 (qi_iload 1 (qi_dup2 (qi_iald 1207 (qi_ic (nI 1) (qi_iadd (qi_iast 1207 (qi_aload 0 (qi_gi 7 213 (qi_ic (nI 21) (qi_icne (kc_Mo_store_105 Po) (qi_aload 0 (qi_gp 7 198 (qi_ic (nI 2) (qi_iload 1 (qi_iadd (qi_ic (nI 1) (qi_zast 1198 (qi_aload 0 (qi_gp 7 199 (qi_iload 1 (qi_aload 0 (qi_gp 7 215 (qi_ic (nI 1) (qi_iald 1215 (qi_iast 1199 (kc_Mo_store_105 Po)))))))))))))))))))))))))))) (qi_aload 0 (qi_gp 7 210 (qi_ic (nI 16) (qi_iload 2 (qi_imul (qi_iload 3 (qi_iadd (qi_aload 0 (qi_gp 7 215 (qi_iload 3 (qi_iald 1215 (qi_iast 1210 (qi_iinc 3 (nI 1) k34)))))))))))))))))
def kc_Mo_store_34 (Po : Option Value → qa_M → Prop) : qa_K := qi_loop (kb_Mo_store_34 Po)
def kc_Mo_store_0 (Po : Option Value → qa_M → Prop) : qa_K := (qi_ic (nI 16) (qi_iload 1 (qi_imul (qi_aload 0 (qi_gp 7 207 (qi_iload 1 (qi_iald 1207 (qi_iadd (qi_istore 2 (qi_aload 0 (qi_gp 7 208 (qi_iload 2 (qi_aload 0 (qi_gi 7 213 (qi_iast 1208 (qi_aload 0 (qi_gp 7 209 (qi_iload 2 (qi_aload 0 (qi_gi 7 214 (qi_iast 1209 (qi_ic (nI 0) (qi_istore 3 (kc_Mo_store_34 Po))))))))))))))))))))))))
abbrev kS_Mo_store (l : Launch) (D : va_G) (E : Nat → ClassId) (B : Nat) (sc : qa_Z) (Po : Option Value → qa_M → Prop) (pc : Nat) (k : qa_K) : Prop := qa_S l "SealedRecordsModel" prog_8_method_30_code 4 none false D E B rm_Mo_store sc (qa_Qf D E B rm_Mo_store Po) pc k
theorem ks_Mo_store_161 (l : Launch) (D : va_G) (E : Nat → ClassId) (B : Nat) (sc : qa_Z) (Po : Option Value → qa_M → Prop) : kS_Mo_store l D E B sc Po 161 (kc_Mo_store_161 Po) := (qs_vret kd_Mo_store_161)
theorem ks_Mo_store_160 (l : Launch) (D : va_G) (E : Nat → ClassId) (B : Nat) (sc : qa_Z) (Po : Option Value → qa_M → Prop) : kS_Mo_store l D E B sc Po 160 (kc_Mo_store_160 Po) := (qs_zast (κ := 1200) rfl (by decide) kd_Mo_store_160 (ks_Mo_store_161 l D E B sc Po))
theorem ks_Mo_store_155 (l : Launch) (D : va_G) (E : Nat → ClassId) (B : Nat) (sc : qa_Z) (Po : Option Value → qa_M → Prop) : kS_Mo_store l D E B sc Po 155 (kc_Mo_store_155 Po) := (qs_iconst kd_Mo_store_155 (by decide) (qs_goto (tgt := 160) kd_Mo_store_156 (by decide) (ks_Mo_store_160 l D E B sc Po)))
theorem ks_Mo_store_105 (l : Launch) (D : va_G) (E : Nat → ClassId) (B : Nat) (sc : qa_Z) (Po : Option Value → qa_M → Prop) : kS_Mo_store l D E B sc Po 105 (kc_Mo_store_105 Po) := (qs_aload_n kd_Mo_store_105 rfl (fg_213 ww_344 kd_Mo_store_106 (qs_bipush kd_Mo_store_109 (by decide) (qs_icne (tgt := 161) kd_Mo_store_111 (by decide) (ks_Mo_store_161 l D E B sc Po) (qs_aload_n kd_Mo_store_114 rfl (qs_iload_n kd_Mo_store_115 rfl (qs_callv (ci := 6) (ct_Mo_keep l sc) ww_358 (by decide) rfl (by decide) ww_359 ww_360 ww_361 ww_13 yd_Mo_keep kd_Mo_store_116 (qs_aload_n kd_Mo_store_119 rfl (fg_216 ww_351 kd_Mo_store_120 (qs_iflt (tgt := 161) kd_Mo_store_123 (by decide) (ks_Mo_store_161 l D E B sc Po) (qs_aload_n kd_Mo_store_126 rfl (qs_iconst kd_Mo_store_127 (by decide) (qs_iload_n kd_Mo_store_128 rfl (qs_iadd kd_Mo_store_129 (qs_callv (ci := 6) (ct_Mo_change l sc) ww_315 (by decide) rfl (by decide) ww_316 ww_317 ww_318 ww_13 yd_Mo_change kd_Mo_store_130 (qs_aload_n kd_Mo_store_133 rfl (fg_200 ww_285 kd_Mo_store_134 (qs_iload_n kd_Mo_store_137 rfl (qs_aload_n kd_Mo_store_138 rfl (fg_200 ww_285 kd_Mo_store_139 (qs_iload_n kd_Mo_store_142 rfl (qs_zald (κ := 1200) rfl (by decide) kd_Mo_store_143 (qs_ifne (tgt := 155) kd_Mo_store_144 (by decide) (ks_Mo_store_155 l D E B sc Po) (qs_aload_n kd_Mo_store_147 rfl (fg_218 ww_353 kd_Mo_store_148 (qs_iconst kd_Mo_store_151 (by decide) (qs_icne (tgt := 159) kd_Mo_store_152 (by decide) (qs_iconst kd_Mo_store_159 (by decide) (ks_Mo_store_160 l D E B sc Po)) (ks_Mo_store_155 l D E B sc Po))))))))))))))))))))))))))))
theorem kt_Mo_store_34 (l : Launch) (D : va_G) (E : Nat → ClassId) (B : Nat) (sc : qa_Z) (Po : Option Value → qa_M → Prop) {k34 : qa_K} (hk34 : kS_Mo_store l D E B sc Po 34 k34) : kS_Mo_store l D E B sc Po 34 (kb_Mo_store_34 Po k34) := (qs_iload_n kd_Mo_store_34 rfl (qs_aload_n kd_Mo_store_35 rfl (fg_214 ww_345 kd_Mo_store_36 (qs_icge (tgt := 65) kd_Mo_store_39 (by decide) (qs_aload_n kd_Mo_store_65 rfl (fg_207 ww_292 kd_Mo_store_66 (qs_iload_n kd_Mo_store_69 rfl (qs_dup2 kd_Mo_store_70 (qs_iald (κ := 1207) rfl (by decide) kd_Mo_store_71 (qs_iconst kd_Mo_store_72 (by decide) (qs_iadd kd_Mo_store_73 (qs_iast (κ := 1207) rfl (by decide) kd_Mo_store_74 (qs_aload_n kd_Mo_store_75 rfl (fg_213 ww_344 kd_Mo_store_76 (qs_bipush kd_Mo_store_79 (by decide) (qs_icne (tgt := 105) kd_Mo_store_81 (by decide) (ks_Mo_store_105 l D E B sc Po) (qs_aload_n kd_Mo_store_84 rfl (fg_198 ww_283 kd_Mo_store_85 (qs_iconst kd_Mo_store_88 (by decide) (qs_iload_n kd_Mo_store_89 rfl (qs_iadd kd_Mo_store_90 (qs_iconst kd_Mo_store_91 (by decide) (qs_zast (κ := 1198) rfl (by decide) kd_Mo_store_92 (qs_aload_n kd_Mo_store_93 rfl (fg_199 ww_284 kd_Mo_store_94 (qs_iload_n kd_Mo_store_97 rfl (qs_aload_n kd_Mo_store_98 rfl (fg_215 ww_298 kd_Mo_store_99 (qs_iconst kd_Mo_store_102 (by decide) (qs_iald (κ := 1215) rfl (by decide) kd_Mo_store_103 (qs_iast (κ := 1199) rfl (by decide) kd_Mo_store_104 (ks_Mo_store_105 l D E B sc Po)))))))))))))))))))))))))))) (qs_aload_n kd_Mo_store_42 rfl (fg_210 ww_295 kd_Mo_store_43 (qs_bipush kd_Mo_store_46 (by decide) (qs_iload_n kd_Mo_store_48 rfl (qs_imul kd_Mo_store_49 (qs_iload_n kd_Mo_store_50 rfl (qs_iadd kd_Mo_store_51 (qs_aload_n kd_Mo_store_52 rfl (fg_215 ww_298 kd_Mo_store_53 (qs_iload_n kd_Mo_store_56 rfl (qs_iald (κ := 1215) rfl (by decide) kd_Mo_store_57 (qs_iast (κ := 1210) rfl (by decide) kd_Mo_store_58 (qs_iinc kd_Mo_store_59 (by decide) (by decide) (qs_goto (tgt := 34) kd_Mo_store_62 (by decide) hk34))))))))))))))))))
theorem ks_Mo_store_34 (l : Launch) (D : va_G) (E : Nat → ClassId) (B : Nat) (sc : qa_Z) (Po : Option Value → qa_M → Prop) : kS_Mo_store l D E B sc Po 34 (kc_Mo_store_34 Po) := qs_loop fun k34 hk34 => kt_Mo_store_34 l D E B sc Po hk34
theorem ks_Mo_store_0 (l : Launch) (D : va_G) (E : Nat → ClassId) (B : Nat) (sc : qa_Z) (Po : Option Value → qa_M → Prop) : kS_Mo_store l D E B sc Po 0 (kc_Mo_store_0 Po) := (qs_bipush kd_Mo_store_0 (by decide) (qs_iload_n kd_Mo_store_2 rfl (qs_imul kd_Mo_store_3 (qs_aload_n kd_Mo_store_4 rfl (fg_207 ww_292 kd_Mo_store_5 (qs_iload_n kd_Mo_store_8 rfl (qs_iald (κ := 1207) rfl (by decide) kd_Mo_store_9 (qs_iadd kd_Mo_store_10 (qs_istore_n kd_Mo_store_11 rfl (by decide) (qs_aload_n kd_Mo_store_12 rfl (fg_208 ww_293 kd_Mo_store_13 (qs_iload_n kd_Mo_store_16 rfl (qs_aload_n kd_Mo_store_17 rfl (fg_213 ww_344 kd_Mo_store_18 (qs_iast (κ := 1208) rfl (by decide) kd_Mo_store_21 (qs_aload_n kd_Mo_store_22 rfl (fg_209 ww_294 kd_Mo_store_23 (qs_iload_n kd_Mo_store_26 rfl (qs_aload_n kd_Mo_store_27 rfl (fg_214 ww_345 kd_Mo_store_28 (qs_iast (κ := 1209) rfl (by decide) kd_Mo_store_31 (qs_iconst kd_Mo_store_32 (by decide) (qs_istore_n kd_Mo_store_33 rfl (by decide) (ks_Mo_store_34 l D E B sc Po))))))))))))))))))))))))
def sp_Mo_store : qa_sp := fun args M Po => match args with
  | [.ref a0, .int a1] => kc_Mo_store_0 Po (0, 0) [some (.ref a0), some (.int a1), none, none] [] M
  | _ => False
theorem ct_Mo_store (l : Launch) (sc : qa_Z) : qa_T l ym_Mo_store (Cond.code ym_Mo_store prog_8_method_30_code 4 none :: q_W0) rm_Mo_store sc (sp_Mo_store) := by
  intro D E B args M Po h
  unfold sp_Mo_store at h
  split at h
  · exact qa_ct (ini := false) (by decide) (by decide) (Nat.le_of_ble_eq_true rfl) (qa_lvok rfl) (ks_Mo_store_0 l D E B sc Po) h
  · exact h.elim
