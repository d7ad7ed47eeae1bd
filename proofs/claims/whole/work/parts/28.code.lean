theorem kd_Mo_seal_0 : decode prog_8_method_13_code 0 = .ok (.iload_n 1, 1) := by decide +kernel
theorem kd_Mo_seal_1 : decode prog_8_method_13_code 1 = .ok (.invokestatic 83, 3) := by decide +kernel
theorem kd_Mo_seal_4 : decode prog_8_method_13_code 4 = .ok (.ifCond .ne 5, 3) := by decide +kernel
theorem kd_Mo_seal_7 : decode prog_8_method_13_code 7 = .ok (.iconst (-1), 1) := by decide +kernel
theorem kd_Mo_seal_8 : decode prog_8_method_13_code 8 = .ok (.ireturn, 1) := by decide +kernel
theorem kd_Mo_seal_9 : decode prog_8_method_13_code 9 = .ok (.aload_n 0, 1) := by decide +kernel
theorem kd_Mo_seal_10 : decode prog_8_method_13_code 10 = .ok (.getfield 26, 3) := by decide +kernel
theorem kd_Mo_seal_13 : decode prog_8_method_13_code 13 = .ok (.iload_n 1, 1) := by decide +kernel
theorem kd_Mo_seal_14 : decode prog_8_method_13_code 14 = .ok (.baload, 1) := by decide +kernel
theorem kd_Mo_seal_15 : decode prog_8_method_13_code 15 = .ok (.ifCond .eq 6, 3) := by decide +kernel
theorem kd_Mo_seal_18 : decode prog_8_method_13_code 18 = .ok (.bipush (-2), 2) := by decide +kernel
theorem kd_Mo_seal_20 : decode prog_8_method_13_code 20 = .ok (.ireturn, 1) := by decide +kernel
theorem kd_Mo_seal_21 : decode prog_8_method_13_code 21 = .ok (.aload_n 0, 1) := by decide +kernel
theorem kd_Mo_seal_22 : decode prog_8_method_13_code 22 = .ok (.getfield 39, 3) := by decide +kernel
theorem kd_Mo_seal_25 : decode prog_8_method_13_code 25 = .ok (.iload_n 1, 1) := by decide +kernel
theorem kd_Mo_seal_26 : decode prog_8_method_13_code 26 = .ok (.iaload, 1) := by decide +kernel
theorem kd_Mo_seal_27 : decode prog_8_method_13_code 27 = .ok (.istore 4, 2) := by decide +kernel
theorem kd_Mo_seal_29 : decode prog_8_method_13_code 29 = .ok (.iload_n 2, 1) := by decide +kernel
theorem kd_Mo_seal_30 : decode prog_8_method_13_code 30 = .ok (.invokestatic 107, 3) := by decide +kernel
theorem kd_Mo_seal_33 : decode prog_8_method_13_code 33 = .ok (.ifCond .eq 29, 3) := by decide +kernel
theorem kd_Mo_seal_36 : decode prog_8_method_13_code 36 = .ok (.iload_n 3, 1) := by decide +kernel
theorem kd_Mo_seal_37 : decode prog_8_method_13_code 37 = .ok (.ifCond .lt 25, 3) := by decide +kernel
theorem kd_Mo_seal_40 : decode prog_8_method_13_code 40 = .ok (.iload_n 3, 1) := by decide +kernel
theorem kd_Mo_seal_41 : decode prog_8_method_13_code 41 = .ok (.ifCond .le 12, 3) := by decide +kernel
theorem kd_Mo_seal_44 : decode prog_8_method_13_code 44 = .ok (.aload_n 0, 1) := by decide +kernel
theorem kd_Mo_seal_45 : decode prog_8_method_13_code 45 = .ok (.getfield 17, 3) := by decide +kernel
theorem kd_Mo_seal_48 : decode prog_8_method_13_code 48 = .ok (.iload_n 1, 1) := by decide +kernel
theorem kd_Mo_seal_49 : decode prog_8_method_13_code 49 = .ok (.iaload, 1) := by decide +kernel
theorem kd_Mo_seal_50 : decode prog_8_method_13_code 50 = .ok (.ifCond .eq 12, 3) := by decide +kernel
theorem kd_Mo_seal_53 : decode prog_8_method_13_code 53 = .ok (.iload_n 3, 1) := by decide +kernel
theorem kd_Mo_seal_54 : decode prog_8_method_13_code 54 = .ok (.bipush 16, 2) := by decide +kernel
theorem kd_Mo_seal_56 : decode prog_8_method_13_code 56 = .ok (.iload 4, 2) := by decide +kernel
theorem kd_Mo_seal_58 : decode prog_8_method_13_code 58 = .ok (.isub, 1) := by decide +kernel
theorem kd_Mo_seal_59 : decode prog_8_method_13_code 59 = .ok (.if_icmp .le 6, 3) := by decide +kernel
theorem kd_Mo_seal_62 : decode prog_8_method_13_code 62 = .ok (.bipush (-4), 2) := by decide +kernel
theorem kd_Mo_seal_64 : decode prog_8_method_13_code 64 = .ok (.ireturn, 1) := by decide +kernel
theorem kd_Mo_seal_65 : decode prog_8_method_13_code 65 = .ok (.aload_n 0, 1) := by decide +kernel
theorem kd_Mo_seal_66 : decode prog_8_method_13_code 66 = .ok (.getfield 23, 3) := by decide +kernel
theorem kd_Mo_seal_69 : decode prog_8_method_13_code 69 = .ok (.iload_n 1, 1) := by decide +kernel
theorem kd_Mo_seal_70 : decode prog_8_method_13_code 70 = .ok (.iaload, 1) := by decide +kernel
theorem kd_Mo_seal_71 : decode prog_8_method_13_code 71 = .ok (.aload_n 0, 1) := by decide +kernel
theorem kd_Mo_seal_72 : decode prog_8_method_13_code 72 = .ok (.getfield 75, 3) := by decide +kernel
theorem kd_Mo_seal_75 : decode prog_8_method_13_code 75 = .ok (.if_icmp .ne 6, 3) := by decide +kernel
theorem kd_Mo_seal_78 : decode prog_8_method_13_code 78 = .ok (.bipush (-5), 2) := by decide +kernel
theorem kd_Mo_seal_80 : decode prog_8_method_13_code 80 = .ok (.ireturn, 1) := by decide +kernel
theorem kd_Mo_seal_81 : decode prog_8_method_13_code 81 = .ok (.iconst 1, 1) := by decide +kernel
theorem kd_Mo_seal_82 : decode prog_8_method_13_code 82 = .ok (.iload_n 1, 1) := by decide +kernel
theorem kd_Mo_seal_83 : decode prog_8_method_13_code 83 = .ok (.isub, 1) := by decide +kernel
theorem kd_Mo_seal_84 : decode prog_8_method_13_code 84 = .ok (.istore 5, 2) := by decide +kernel
theorem kd_Mo_seal_86 : decode prog_8_method_13_code 86 = .ok (.aload_n 0, 1) := by decide +kernel
theorem kd_Mo_seal_87 : decode prog_8_method_13_code 87 = .ok (.getfield 42, 3) := by decide +kernel
theorem kd_Mo_seal_90 : decode prog_8_method_13_code 90 = .ok (.iload 5, 2) := by decide +kernel
theorem kd_Mo_seal_92 : decode prog_8_method_13_code 92 = .ok (.iaload, 1) := by decide +kernel
theorem kd_Mo_seal_93 : decode prog_8_method_13_code 93 = .ok (.bipush 12, 2) := by decide +kernel
theorem kd_Mo_seal_95 : decode prog_8_method_13_code 95 = .ok (.if_icmp .ne 6, 3) := by decide +kernel
theorem kd_Mo_seal_98 : decode prog_8_method_13_code 98 = .ok (.bipush (-3), 2) := by decide +kernel
theorem kd_Mo_seal_100 : decode prog_8_method_13_code 100 = .ok (.ireturn, 1) := by decide +kernel
theorem kd_Mo_seal_101 : decode prog_8_method_13_code 101 = .ok (.bipush 12, 2) := by decide +kernel
theorem kd_Mo_seal_103 : decode prog_8_method_13_code 103 = .ok (.iload 5, 2) := by decide +kernel
theorem kd_Mo_seal_105 : decode prog_8_method_13_code 105 = .ok (.imul, 1) := by decide +kernel
theorem kd_Mo_seal_106 : decode prog_8_method_13_code 106 = .ok (.aload_n 0, 1) := by decide +kernel
theorem kd_Mo_seal_107 : decode prog_8_method_13_code 107 = .ok (.getfield 42, 3) := by decide +kernel
theorem kd_Mo_seal_110 : decode prog_8_method_13_code 110 = .ok (.iload 5, 2) := by decide +kernel
theorem kd_Mo_seal_112 : decode prog_8_method_13_code 112 = .ok (.iaload, 1) := by decide +kernel
theorem kd_Mo_seal_113 : decode prog_8_method_13_code 113 = .ok (.iadd, 1) := by decide +kernel
theorem kd_Mo_seal_114 : decode prog_8_method_13_code 114 = .ok (.istore 6, 2) := by decide +kernel
theorem kd_Mo_seal_116 : decode prog_8_method_13_code 116 = .ok (.iconst 0, 1) := by decide +kernel
theorem kd_Mo_seal_117 : decode prog_8_method_13_code 117 = .ok (.istore 7, 2) := by decide +kernel
theorem kd_Mo_seal_119 : decode prog_8_method_13_code 119 = .ok (.iload 7, 2) := by decide +kernel
theorem kd_Mo_seal_121 : decode prog_8_method_13_code 121 = .ok (.iload 4, 2) := by decide +kernel
theorem kd_Mo_seal_123 : decode prog_8_method_13_code 123 = .ok (.if_icmp .ge 34, 3) := by decide +kernel
theorem kd_Mo_seal_126 : decode prog_8_method_13_code 126 = .ok (.aload_n 0, 1) := by decide +kernel
theorem kd_Mo_seal_127 : decode prog_8_method_13_code 127 = .ok (.getfield 51, 3) := by decide +kernel
theorem kd_Mo_seal_130 : decode prog_8_method_13_code 130 = .ok (.bipush 40, 2) := by decide +kernel
theorem kd_Mo_seal_132 : decode prog_8_method_13_code 132 = .ok (.iload 6, 2) := by decide +kernel
theorem kd_Mo_seal_134 : decode prog_8_method_13_code 134 = .ok (.imul, 1) := by decide +kernel
theorem kd_Mo_seal_135 : decode prog_8_method_13_code 135 = .ok (.iload 7, 2) := by decide +kernel
theorem kd_Mo_seal_137 : decode prog_8_method_13_code 137 = .ok (.iadd, 1) := by decide +kernel
theorem kd_Mo_seal_138 : decode prog_8_method_13_code 138 = .ok (.aload_n 0, 1) := by decide +kernel
theorem kd_Mo_seal_139 : decode prog_8_method_13_code 139 = .ok (.getfield 36, 3) := by decide +kernel
theorem kd_Mo_seal_142 : decode prog_8_method_13_code 142 = .ok (.bipush 16, 2) := by decide +kernel
theorem kd_Mo_seal_144 : decode prog_8_method_13_code 144 = .ok (.iload_n 1, 1) := by decide +kernel
theorem kd_Mo_seal_145 : decode prog_8_method_13_code 145 = .ok (.imul, 1) := by decide +kernel
theorem kd_Mo_seal_146 : decode prog_8_method_13_code 146 = .ok (.iload 7, 2) := by decide +kernel
theorem kd_Mo_seal_148 : decode prog_8_method_13_code 148 = .ok (.iadd, 1) := by decide +kernel
theorem kd_Mo_seal_149 : decode prog_8_method_13_code 149 = .ok (.iaload, 1) := by decide +kernel
theorem kd_Mo_seal_150 : decode prog_8_method_13_code 150 = .ok (.iastore, 1) := by decide +kernel
theorem kd_Mo_seal_151 : decode prog_8_method_13_code 151 = .ok (.iinc 7 1, 3) := by decide +kernel
theorem kd_Mo_seal_154 : decode prog_8_method_13_code 154 = .ok (.goto (-35), 3) := by decide +kernel
theorem kd_Mo_seal_157 : decode prog_8_method_13_code 157 = .ok (.aload_n 0, 1) := by decide +kernel
theorem kd_Mo_seal_158 : decode prog_8_method_13_code 158 = .ok (.getfield 45, 3) := by decide +kernel
theorem kd_Mo_seal_161 : decode prog_8_method_13_code 161 = .ok (.iload 6, 2) := by decide +kernel
theorem kd_Mo_seal_163 : decode prog_8_method_13_code 163 = .ok (.iload_n 2, 1) := by decide +kernel
theorem kd_Mo_seal_164 : decode prog_8_method_13_code 164 = .ok (.iastore, 1) := by decide +kernel
theorem kd_Mo_seal_165 : decode prog_8_method_13_code 165 = .ok (.aload_n 0, 1) := by decide +kernel
theorem kd_Mo_seal_166 : decode prog_8_method_13_code 166 = .ok (.getfield 48, 3) := by decide +kernel
theorem kd_Mo_seal_169 : decode prog_8_method_13_code 169 = .ok (.iload 6, 2) := by decide +kernel
theorem kd_Mo_seal_171 : decode prog_8_method_13_code 171 = .ok (.iload 4, 2) := by decide +kernel
theorem kd_Mo_seal_173 : decode prog_8_method_13_code 173 = .ok (.iastore, 1) := by decide +kernel
theorem kd_Mo_seal_174 : decode prog_8_method_13_code 174 = .ok (.aload_n 0, 1) := by decide +kernel
theorem kd_Mo_seal_175 : decode prog_8_method_13_code 175 = .ok (.getfield 17, 3) := by decide +kernel
theorem kd_Mo_seal_178 : decode prog_8_method_13_code 178 = .ok (.iload_n 1, 1) := by decide +kernel
theorem kd_Mo_seal_179 : decode prog_8_method_13_code 179 = .ok (.iaload, 1) := by decide +kernel
theorem kd_Mo_seal_180 : decode prog_8_method_13_code 180 = .ok (.ifCond .le 12, 3) := by decide +kernel
theorem kd_Mo_seal_183 : decode prog_8_method_13_code 183 = .ok (.aload_n 0, 1) := by decide +kernel
theorem kd_Mo_seal_184 : decode prog_8_method_13_code 184 = .ok (.iload_n 1, 1) := by decide +kernel
theorem kd_Mo_seal_185 : decode prog_8_method_13_code 185 = .ok (.iload 6, 2) := by decide +kernel
theorem kd_Mo_seal_187 : decode prog_8_method_13_code 187 = .ok (.iload_n 2, 1) := by decide +kernel
theorem kd_Mo_seal_188 : decode prog_8_method_13_code 188 = .ok (.iload_n 3, 1) := by decide +kernel
theorem kd_Mo_seal_189 : decode prog_8_method_13_code 189 = .ok (.invokevirtual 114, 3) := by decide +kernel
theorem kd_Mo_seal_192 : decode prog_8_method_13_code 192 = .ok (.aload_n 0, 1) := by decide +kernel
theorem kd_Mo_seal_193 : decode prog_8_method_13_code 193 = .ok (.getfield 42, 3) := by decide +kernel
theorem kd_Mo_seal_196 : decode prog_8_method_13_code 196 = .ok (.iload 5, 2) := by decide +kernel
theorem kd_Mo_seal_198 : decode prog_8_method_13_code 198 = .ok (.dup2, 1) := by decide +kernel
theorem kd_Mo_seal_199 : decode prog_8_method_13_code 199 = .ok (.iaload, 1) := by decide +kernel
theorem kd_Mo_seal_200 : decode prog_8_method_13_code 200 = .ok (.iconst 1, 1) := by decide +kernel
theorem kd_Mo_seal_201 : decode prog_8_method_13_code 201 = .ok (.iadd, 1) := by decide +kernel
theorem kd_Mo_seal_202 : decode prog_8_method_13_code 202 = .ok (.iastore, 1) := by decide +kernel
theorem kd_Mo_seal_203 : decode prog_8_method_13_code 203 = .ok (.aload_n 0, 1) := by decide +kernel
theorem kd_Mo_seal_204 : decode prog_8_method_13_code 204 = .ok (.getfield 39, 3) := by decide +kernel
theorem kd_Mo_seal_207 : decode prog_8_method_13_code 207 = .ok (.iload_n 1, 1) := by decide +kernel
theorem kd_Mo_seal_208 : decode prog_8_method_13_code 208 = .ok (.iconst 0, 1) := by decide +kernel
theorem kd_Mo_seal_209 : decode prog_8_method_13_code 209 = .ok (.iastore, 1) := by decide +kernel
theorem kd_Mo_seal_210 : decode prog_8_method_13_code 210 = .ok (.aload_n 0, 1) := by decide +kernel
theorem kd_Mo_seal_211 : decode prog_8_method_13_code 211 = .ok (.getfield 23, 3) := by decide +kernel
theorem kd_Mo_seal_214 : decode prog_8_method_13_code 214 = .ok (.iload_n 1, 1) := by decide +kernel
theorem kd_Mo_seal_215 : decode prog_8_method_13_code 215 = .ok (.dup2, 1) := by decide +kernel
theorem kd_Mo_seal_216 : decode prog_8_method_13_code 216 = .ok (.iaload, 1) := by decide +kernel
theorem kd_Mo_seal_217 : decode prog_8_method_13_code 217 = .ok (.iconst 1, 1) := by decide +kernel
theorem kd_Mo_seal_218 : decode prog_8_method_13_code 218 = .ok (.iadd, 1) := by decide +kernel
theorem kd_Mo_seal_219 : decode prog_8_method_13_code 219 = .ok (.iastore, 1) := by decide +kernel
theorem kd_Mo_seal_220 : decode prog_8_method_13_code 220 = .ok (.aload_n 0, 1) := by decide +kernel
theorem kd_Mo_seal_221 : decode prog_8_method_13_code 221 = .ok (.getfield 26, 3) := by decide +kernel
theorem kd_Mo_seal_224 : decode prog_8_method_13_code 224 = .ok (.iload_n 1, 1) := by decide +kernel
theorem kd_Mo_seal_225 : decode prog_8_method_13_code 225 = .ok (.iload_n 2, 1) := by decide +kernel
theorem kd_Mo_seal_226 : decode prog_8_method_13_code 226 = .ok (.bipush 21, 2) := by decide +kernel
theorem kd_Mo_seal_228 : decode prog_8_method_13_code 228 = .ok (.if_icmp .ne 7, 3) := by decide +kernel
theorem kd_Mo_seal_231 : decode prog_8_method_13_code 231 = .ok (.iconst 1, 1) := by decide +kernel
theorem kd_Mo_seal_232 : decode prog_8_method_13_code 232 = .ok (.goto 4, 3) := by decide +kernel
theorem kd_Mo_seal_235 : decode prog_8_method_13_code 235 = .ok (.iconst 0, 1) := by decide +kernel
theorem kd_Mo_seal_236 : decode prog_8_method_13_code 236 = .ok (.bastore, 1) := by decide +kernel
theorem kd_Mo_seal_237 : decode prog_8_method_13_code 237 = .ok (.aload_n 0, 1) := by decide +kernel
theorem kd_Mo_seal_238 : decode prog_8_method_13_code 238 = .ok (.getfield 48, 3) := by decide +kernel
theorem kd_Mo_seal_241 : decode prog_8_method_13_code 241 = .ok (.iload 6, 2) := by decide +kernel
theorem kd_Mo_seal_243 : decode prog_8_method_13_code 243 = .ok (.iaload, 1) := by decide +kernel
theorem kd_Mo_seal_244 : decode prog_8_method_13_code 244 = .ok (.ireturn, 1) := by decide +kernel
def kc_Mo_seal_236 (Po : Option Value → qa_M → Prop) : qa_K := (qi_zast 1198 (qi_aload 0 (qi_gp 7 205 (qi_iload 6 (qi_iald 1205 (qi_iret (0, 0) Po))))))
def kc_Mo_seal_192 (Po : Option Value → qa_M → Prop) : qa_K := (qi_aload 0 (qi_gp 7 203 (qi_iload 5 (qi_dup2 (qi_iald 1203 (qi_ic (nI 1) (qi_iadd (qi_iast 1203 (qi_aload 0 (qi_gp 7 202 (qi_iload 1 (qi_ic (nI 0) (qi_iast 1202 (qi_aload 0 (qi_gp 7 197 (qi_iload 1 (qi_dup2 (qi_iald 1197 (qi_ic (nI 1) (qi_iadd (qi_iast 1197 (qi_aload 0 (qi_gp 7 198 (qi_iload 1 (qi_iload 2 (qi_ic (nI 21) (qi_icne (qi_ic (nI 0) (kc_Mo_seal_236 Po)) (qi_ic (nI 1) (kc_Mo_seal_236 Po)))))))))))))))))))))))))))))
def kb_Mo_seal_119 (Po : Option Value → qa_M → Prop) (k119 : qa_K) : qa_K := (qi_iload 7 (qi_iload 4 (qi_icge (qi_aload 0 (qi_gp 7 204 (qi_iload 6 (qi_iload 2 (qi_iast 1204 (qi_aload 0 (qi_gp 7 205 (qi_iload 6 (qi_iload 4 (qi_iast 1205 (qi_aload 0 (qi_gp 7 195 (qi_iload 1 (qi_iald 1195 (qi_ifle (kc_Mo_seal_192 Po) (qi_aload 0 (qi_iload 1 (qi_iload 6 (qi_iload 2 (qi_iload 3 (qi_callv 5 7 (0, 0) sp_Mo_close (kc_Mo_seal_192 Po)))))))))))))))))))))) (qi_aload 0 (qi_gp 7 206 (qi_ic (nI 40) (qi_iload 6 (qi_imul (qi_iload 7 (qi_iadd (qi_aload 0 (qi_gp 7 201 (qi_ic (nI 16) (qi_iload 1 (qi_imul (qi_iload 7 (qi_iadd (qi_iald 1201 (qi_iast 1206 (qi_iinc 7 (nI 1) k119))))))))))))))))))))
def kc_Mo_seal_119 (Po : Option Value → qa_M → Prop) : qa_K := qi_loop (kb_Mo_seal_119 Po)
def kc_Mo_seal_62 (Po : Option Value → qa_M → Prop) : qa_K := (qi_ic (-4) (qi_iret (0, 0) Po))
def kc_Mo_seal_53 (Po : Option Value → qa_M → Prop) : qa_K := (qi_iload 3 (qi_ic (nI 16) (qi_iload 4 (qi_isub (qi_icle (qi_aload 0 (qi_gp 7 197 (qi_iload 1 (qi_iald 1197 (qi_aload 0 (qi_gi 7 192 (qi_icne (qi_ic (nI 1) (qi_iload 1 (qi_isub (qi_istore 5 (qi_aload 0 (qi_gp 7 203 (qi_iload 5 (qi_iald 1203 (qi_ic (nI 12) (qi_icne (qi_ic (nI 12) (qi_iload 5 (qi_imul (qi_aload 0 (qi_gp 7 203 (qi_iload 5 (qi_iald 1203 (qi_iadd (qi_istore 6 (qi_ic (nI 0) (qi_istore 7 (kc_Mo_seal_119 Po)))))))))))) (qi_ic (-3) (qi_iret (0, 0) Po)))))))))))) (qi_ic (-5) (qi_iret (0, 0) Po))))))))) (kc_Mo_seal_62 Po))))))
def kc_Mo_seal_0 (Po : Option Value → qa_M → Prop) : qa_K := (qi_iload 1 (qi_call 1 (0, 0) sp_Mo_isEnd (qi_ifne (qi_aload 0 (qi_gp 7 198 (qi_iload 1 (qi_iald 1198 (qi_ifeq (qi_aload 0 (qi_gp 7 202 (qi_iload 1 (qi_iald 1202 (qi_istore 4 (qi_iload 2 (qi_call 1 (0, 0) sp_Mo_isByte (qi_ifeq (kc_Mo_seal_62 Po) (qi_iload 3 (qi_iflt (kc_Mo_seal_62 Po) (qi_iload 3 (qi_ifle (kc_Mo_seal_53 Po) (qi_aload 0 (qi_gp 7 195 (qi_iload 1 (qi_iald 1195 (qi_ifeq (kc_Mo_seal_62 Po) (kc_Mo_seal_53 Po)))))))))))))))))) (qi_ic (-2) (qi_iret (0, 0) Po))))))) (qi_ic (-1) (qi_iret (0, 0) Po)))))
abbrev kS_Mo_seal (l : Launch) (D : va_G) (E : Nat → ClassId) (B : Nat) (sc : qa_Z) (Po : Option Value → qa_M → Prop) (pc : Nat) (k : qa_K) : Prop := qa_S l "SealedRecordsModel" prog_8_method_13_code 8 (some .int) false D E B rm_Mo_seal sc (qa_Qf D E B rm_Mo_seal Po) pc k
theorem ks_Mo_seal_236 (l : Launch) (D : va_G) (E : Nat → ClassId) (B : Nat) (sc : qa_Z) (Po : Option Value → qa_M → Prop) : kS_Mo_seal l D E B sc Po 236 (kc_Mo_seal_236 Po) := (qs_zast (κ := 1198) rfl (by decide) kd_Mo_seal_236 (qs_aload_n kd_Mo_seal_237 rfl (fg_205 ww_290 kd_Mo_seal_238 (qs_iload kd_Mo_seal_241 (qs_iald (κ := 1205) rfl (by decide) kd_Mo_seal_243 (qs_iret kd_Mo_seal_244))))))
theorem ks_Mo_seal_192 (l : Launch) (D : va_G) (E : Nat → ClassId) (B : Nat) (sc : qa_Z) (Po : Option Value → qa_M → Prop) : kS_Mo_seal l D E B sc Po 192 (kc_Mo_seal_192 Po) := (qs_aload_n kd_Mo_seal_192 rfl (fg_203 ww_288 kd_Mo_seal_193 (qs_iload kd_Mo_seal_196 (qs_dup2 kd_Mo_seal_198 (qs_iald (κ := 1203) rfl (by decide) kd_Mo_seal_199 (qs_iconst kd_Mo_seal_200 (by decide) (qs_iadd kd_Mo_seal_201 (qs_iast (κ := 1203) rfl (by decide) kd_Mo_seal_202 (qs_aload_n kd_Mo_seal_203 rfl (fg_202 ww_287 kd_Mo_seal_204 (qs_iload_n kd_Mo_seal_207 rfl (qs_iconst kd_Mo_seal_208 (by decide) (qs_iast (κ := 1202) rfl (by decide) kd_Mo_seal_209 (qs_aload_n kd_Mo_seal_210 rfl (fg_197 ww_281 kd_Mo_seal_211 (qs_iload_n kd_Mo_seal_214 rfl (qs_dup2 kd_Mo_seal_215 (qs_iald (κ := 1197) rfl (by decide) kd_Mo_seal_216 (qs_iconst kd_Mo_seal_217 (by decide) (qs_iadd kd_Mo_seal_218 (qs_iast (κ := 1197) rfl (by decide) kd_Mo_seal_219 (qs_aload_n kd_Mo_seal_220 rfl (fg_198 ww_283 kd_Mo_seal_221 (qs_iload_n kd_Mo_seal_224 rfl (qs_iload_n kd_Mo_seal_225 rfl (qs_bipush kd_Mo_seal_226 (by decide) (qs_icne (tgt := 235) kd_Mo_seal_228 (by decide) (qs_iconst kd_Mo_seal_235 (by decide) (ks_Mo_seal_236 l D E B sc Po)) (qs_iconst kd_Mo_seal_231 (by decide) (qs_goto (tgt := 236) kd_Mo_seal_232 (by decide) (ks_Mo_seal_236 l D E B sc Po))))))))))))))))))))))))))))))
theorem kt_Mo_seal_119 (l : Launch) (D : va_G) (E : Nat → ClassId) (B : Nat) (sc : qa_Z) (Po : Option Value → qa_M → Prop) {k119 : qa_K} (hk119 : kS_Mo_seal l D E B sc Po 119 k119) : kS_Mo_seal l D E B sc Po 119 (kb_Mo_seal_119 Po k119) := (qs_iload kd_Mo_seal_119 (qs_iload kd_Mo_seal_121 (qs_icge (tgt := 157) kd_Mo_seal_123 (by decide) (qs_aload_n kd_Mo_seal_157 rfl (fg_204 ww_289 kd_Mo_seal_158 (qs_iload kd_Mo_seal_161 (qs_iload_n kd_Mo_seal_163 rfl (qs_iast (κ := 1204) rfl (by decide) kd_Mo_seal_164 (qs_aload_n kd_Mo_seal_165 rfl (fg_205 ww_290 kd_Mo_seal_166 (qs_iload kd_Mo_seal_169 (qs_iload kd_Mo_seal_171 (qs_iast (κ := 1205) rfl (by decide) kd_Mo_seal_173 (qs_aload_n kd_Mo_seal_174 rfl (fg_195 ww_279 kd_Mo_seal_175 (qs_iload_n kd_Mo_seal_178 rfl (qs_iald (κ := 1195) rfl (by decide) kd_Mo_seal_179 (qs_ifle (tgt := 192) kd_Mo_seal_180 (by decide) (ks_Mo_seal_192 l D E B sc Po) (qs_aload_n kd_Mo_seal_183 rfl (qs_iload_n kd_Mo_seal_184 rfl (qs_iload kd_Mo_seal_185 (qs_iload_n kd_Mo_seal_187 rfl (qs_iload_n kd_Mo_seal_188 rfl (qs_callv (ci := 6) (ct_Mo_close l sc) ww_332 (by decide) rfl (by decide) ww_333 ww_334 ww_335 ww_13 yd_Mo_close kd_Mo_seal_189 (ks_Mo_seal_192 l D E B sc Po)))))))))))))))))))))) (qs_aload_n kd_Mo_seal_126 rfl (fg_206 ww_291 kd_Mo_seal_127 (qs_bipush kd_Mo_seal_130 (by decide) (qs_iload kd_Mo_seal_132 (qs_imul kd_Mo_seal_134 (qs_iload kd_Mo_seal_135 (qs_iadd kd_Mo_seal_137 (qs_aload_n kd_Mo_seal_138 rfl (fg_201 ww_286 kd_Mo_seal_139 (qs_bipush kd_Mo_seal_142 (by decide) (qs_iload_n kd_Mo_seal_144 rfl (qs_imul kd_Mo_seal_145 (qs_iload kd_Mo_seal_146 (qs_iadd kd_Mo_seal_148 (qs_iald (κ := 1201) rfl (by decide) kd_Mo_seal_149 (qs_iast (κ := 1206) rfl (by decide) kd_Mo_seal_150 (qs_iinc kd_Mo_seal_151 (by decide) (by decide) (qs_goto (tgt := 119) kd_Mo_seal_154 (by decide) hk119)))))))))))))))))))))
theorem ks_Mo_seal_119 (l : Launch) (D : va_G) (E : Nat → ClassId) (B : Nat) (sc : qa_Z) (Po : Option Value → qa_M → Prop) : kS_Mo_seal l D E B sc Po 119 (kc_Mo_seal_119 Po) := qs_loop fun k119 hk119 => kt_Mo_seal_119 l D E B sc Po hk119
theorem ks_Mo_seal_62 (l : Launch) (D : va_G) (E : Nat → ClassId) (B : Nat) (sc : qa_Z) (Po : Option Value → qa_M → Prop) : kS_Mo_seal l D E B sc Po 62 (kc_Mo_seal_62 Po) := (qs_bipush kd_Mo_seal_62 (by decide) (qs_iret kd_Mo_seal_64))
theorem ks_Mo_seal_53 (l : Launch) (D : va_G) (E : Nat → ClassId) (B : Nat) (sc : qa_Z) (Po : Option Value → qa_M → Prop) : kS_Mo_seal l D E B sc Po 53 (kc_Mo_seal_53 Po) := (qs_iload_n kd_Mo_seal_53 rfl (qs_bipush kd_Mo_seal_54 (by decide) (qs_iload kd_Mo_seal_56 (qs_isub kd_Mo_seal_58 (qs_icle (tgt := 65) kd_Mo_seal_59 (by decide) (qs_aload_n kd_Mo_seal_65 rfl (fg_197 ww_281 kd_Mo_seal_66 (qs_iload_n kd_Mo_seal_69 rfl (qs_iald (κ := 1197) rfl (by decide) kd_Mo_seal_70 (qs_aload_n kd_Mo_seal_71 rfl (fg_192 ww_274 kd_Mo_seal_72 (qs_icne (tgt := 81) kd_Mo_seal_75 (by decide) (qs_iconst kd_Mo_seal_81 (by decide) (qs_iload_n kd_Mo_seal_82 rfl (qs_isub kd_Mo_seal_83 (qs_istore kd_Mo_seal_84 (by decide) (qs_aload_n kd_Mo_seal_86 rfl (fg_203 ww_288 kd_Mo_seal_87 (qs_iload kd_Mo_seal_90 (qs_iald (κ := 1203) rfl (by decide) kd_Mo_seal_92 (qs_bipush kd_Mo_seal_93 (by decide) (qs_icne (tgt := 101) kd_Mo_seal_95 (by decide) (qs_bipush kd_Mo_seal_101 (by decide) (qs_iload kd_Mo_seal_103 (qs_imul kd_Mo_seal_105 (qs_aload_n kd_Mo_seal_106 rfl (fg_203 ww_288 kd_Mo_seal_107 (qs_iload kd_Mo_seal_110 (qs_iald (κ := 1203) rfl (by decide) kd_Mo_seal_112 (qs_iadd kd_Mo_seal_113 (qs_istore kd_Mo_seal_114 (by decide) (qs_iconst kd_Mo_seal_116 (by decide) (qs_istore kd_Mo_seal_117 (by decide) (ks_Mo_seal_119 l D E B sc Po)))))))))))) (qs_bipush kd_Mo_seal_98 (by decide) (qs_iret kd_Mo_seal_100)))))))))))) (qs_bipush kd_Mo_seal_78 (by decide) (qs_iret kd_Mo_seal_80))))))))) (ks_Mo_seal_62 l D E B sc Po))))))
theorem ks_Mo_seal_0 (l : Launch) (D : va_G) (E : Nat → ClassId) (B : Nat) (sc : qa_Z) (Po : Option Value → qa_M → Prop) : kS_Mo_seal l D E B sc Po 0 (kc_Mo_seal_0 Po) := (qs_iload_n kd_Mo_seal_0 rfl (qs_calls (ct_Mo_isEnd l sc) ww_301 (by decide) (by decide) ww_302 ww_303 ww_13 yd_Mo_isEnd kd_Mo_seal_1 (qs_ifne (tgt := 9) kd_Mo_seal_4 (by decide) (qs_aload_n kd_Mo_seal_9 rfl (fg_198 ww_283 kd_Mo_seal_10 (qs_iload_n kd_Mo_seal_13 rfl (qs_zald (κ := 1198) rfl (by decide) kd_Mo_seal_14 (qs_ifeq (tgt := 21) kd_Mo_seal_15 (by decide) (qs_aload_n kd_Mo_seal_21 rfl (fg_202 ww_287 kd_Mo_seal_22 (qs_iload_n kd_Mo_seal_25 rfl (qs_iald (κ := 1202) rfl (by decide) kd_Mo_seal_26 (qs_istore kd_Mo_seal_27 (by decide) (qs_iload_n kd_Mo_seal_29 rfl (qs_calls (ct_Mo_isByte l sc) ww_319 (by decide) (by decide) ww_320 ww_321 ww_13 yd_Mo_isByte kd_Mo_seal_30 (qs_ifeq (tgt := 62) kd_Mo_seal_33 (by decide) (ks_Mo_seal_62 l D E B sc Po) (qs_iload_n kd_Mo_seal_36 rfl (qs_iflt (tgt := 62) kd_Mo_seal_37 (by decide) (ks_Mo_seal_62 l D E B sc Po) (qs_iload_n kd_Mo_seal_40 rfl (qs_ifle (tgt := 53) kd_Mo_seal_41 (by decide) (ks_Mo_seal_53 l D E B sc Po) (qs_aload_n kd_Mo_seal_44 rfl (fg_195 ww_279 kd_Mo_seal_45 (qs_iload_n kd_Mo_seal_48 rfl (qs_iald (κ := 1195) rfl (by decide) kd_Mo_seal_49 (qs_ifeq (tgt := 62) kd_Mo_seal_50 (by decide) (ks_Mo_seal_62 l D E B sc Po) (ks_Mo_seal_53 l D E B sc Po)))))))))))))))))) (qs_bipush kd_Mo_seal_18 (by decide) (qs_iret kd_Mo_seal_20))))))) (qs_iconst kd_Mo_seal_7 (by decide) (qs_iret kd_Mo_seal_8)))))
def sp_Mo_seal : qa_sp := fun args M Po => match args with
  | [.ref a0, .int a1, .int a2, .int a3] => kc_Mo_seal_0 Po (0, 0) [some (.ref a0), some (.int a1), some (.int a2), some (.int a3), none, none, none, none] [] M
  | _ => False
theorem ct_Mo_seal (l : Launch) (sc : qa_Z) : qa_T l ym_Mo_seal (Cond.code ym_Mo_seal prog_8_method_13_code 8 (some .int) :: q_W0) rm_Mo_seal sc (sp_Mo_seal) := by
  intro D E B args M Po h
  unfold sp_Mo_seal at h
  split at h
  · exact qa_ct (ini := false) (by decide) (by decide) (Nat.le_of_ble_eq_true rfl) (qa_lvok rfl) (ks_Mo_seal_0 l D E B sc Po) h
  · exact h.elim
theorem kd_Mo_move_0 : decode prog_8_method_15_code 0 = .ok (.aload_n 0, 1) := by decide +kernel
theorem kd_Mo_move_1 : decode prog_8_method_15_code 1 = .ok (.getfield 45, 3) := by decide +kernel
theorem kd_Mo_move_4 : decode prog_8_method_15_code 4 = .ok (.iload_n 2, 1) := by decide +kernel
theorem kd_Mo_move_5 : decode prog_8_method_15_code 5 = .ok (.aload_n 0, 1) := by decide +kernel
theorem kd_Mo_move_6 : decode prog_8_method_15_code 6 = .ok (.getfield 45, 3) := by decide +kernel
theorem kd_Mo_move_9 : decode prog_8_method_15_code 9 = .ok (.iload_n 1, 1) := by decide +kernel
theorem kd_Mo_move_10 : decode prog_8_method_15_code 10 = .ok (.iaload, 1) := by decide +kernel
theorem kd_Mo_move_11 : decode prog_8_method_15_code 11 = .ok (.iastore, 1) := by decide +kernel
theorem kd_Mo_move_12 : decode prog_8_method_15_code 12 = .ok (.aload_n 0, 1) := by decide +kernel
theorem kd_Mo_move_13 : decode prog_8_method_15_code 13 = .ok (.getfield 48, 3) := by decide +kernel
theorem kd_Mo_move_16 : decode prog_8_method_15_code 16 = .ok (.iload_n 2, 1) := by decide +kernel
theorem kd_Mo_move_17 : decode prog_8_method_15_code 17 = .ok (.aload_n 0, 1) := by decide +kernel
theorem kd_Mo_move_18 : decode prog_8_method_15_code 18 = .ok (.getfield 48, 3) := by decide +kernel
theorem kd_Mo_move_21 : decode prog_8_method_15_code 21 = .ok (.iload_n 1, 1) := by decide +kernel
theorem kd_Mo_move_22 : decode prog_8_method_15_code 22 = .ok (.iaload, 1) := by decide +kernel
theorem kd_Mo_move_23 : decode prog_8_method_15_code 23 = .ok (.iastore, 1) := by decide +kernel
theorem kd_Mo_move_24 : decode prog_8_method_15_code 24 = .ok (.iconst 0, 1) := by decide +kernel
theorem kd_Mo_move_25 : decode prog_8_method_15_code 25 = .ok (.istore_n 3, 1) := by decide +kernel
theorem kd_Mo_move_26 : decode prog_8_method_15_code 26 = .ok (.iload_n 3, 1) := by decide +kernel
theorem kd_Mo_move_27 : decode prog_8_method_15_code 27 = .ok (.bipush 40, 2) := by decide +kernel
theorem kd_Mo_move_29 : decode prog_8_method_15_code 29 = .ok (.if_icmp .ge 31, 3) := by decide +kernel
theorem kd_Mo_move_32 : decode prog_8_method_15_code 32 = .ok (.aload_n 0, 1) := by decide +kernel
theorem kd_Mo_move_33 : decode prog_8_method_15_code 33 = .ok (.getfield 51, 3) := by decide +kernel
theorem kd_Mo_move_36 : decode prog_8_method_15_code 36 = .ok (.bipush 40, 2) := by decide +kernel
theorem kd_Mo_move_38 : decode prog_8_method_15_code 38 = .ok (.iload_n 2, 1) := by decide +kernel
theorem kd_Mo_move_39 : decode prog_8_method_15_code 39 = .ok (.imul, 1) := by decide +kernel
theorem kd_Mo_move_40 : decode prog_8_method_15_code 40 = .ok (.iload_n 3, 1) := by decide +kernel
theorem kd_Mo_move_41 : decode prog_8_method_15_code 41 = .ok (.iadd, 1) := by decide +kernel
theorem kd_Mo_move_42 : decode prog_8_method_15_code 42 = .ok (.aload_n 0, 1) := by decide +kernel
theorem kd_Mo_move_43 : decode prog_8_method_15_code 43 = .ok (.getfield 51, 3) := by decide +kernel
theorem kd_Mo_move_46 : decode prog_8_method_15_code 46 = .ok (.bipush 40, 2) := by decide +kernel
theorem kd_Mo_move_48 : decode prog_8_method_15_code 48 = .ok (.iload_n 1, 1) := by decide +kernel
theorem kd_Mo_move_49 : decode prog_8_method_15_code 49 = .ok (.imul, 1) := by decide +kernel
theorem kd_Mo_move_50 : decode prog_8_method_15_code 50 = .ok (.iload_n 3, 1) := by decide +kernel
theorem kd_Mo_move_51 : decode prog_8_method_15_code 51 = .ok (.iadd, 1) := by decide +kernel
theorem kd_Mo_move_52 : decode prog_8_method_15_code 52 = .ok (.iaload, 1) := by decide +kernel
theorem kd_Mo_move_53 : decode prog_8_method_15_code 53 = .ok (.iastore, 1) := by decide +kernel
theorem kd_Mo_move_54 : decode prog_8_method_15_code 54 = .ok (.iinc 3 1, 3) := by decide +kernel
theorem kd_Mo_move_57 : decode prog_8_method_15_code 57 = .ok (.goto (-31), 3) := by decide +kernel
theorem kd_Mo_move_60 : decode prog_8_method_15_code 60 = .ok (.return_, 1) := by decide +kernel
def kb_Mo_move_26 (Po : Option Value → qa_M → Prop) (k26 : qa_K) : qa_K := (qi_iload 3 (qi_ic (nI 40) (qi_icge (qi_vret (0, 0) Po) (qi_aload 0 (qi_gp 7 206 (qi_ic (nI 40) (qi_iload 2 (qi_imul (qi_iload 3 (qi_iadd (qi_aload 0 (qi_gp 7 206 (qi_ic (nI 40) (qi_iload 1 (qi_imul (qi_iload 3 (qi_iadd (qi_iald 1206 (qi_iast 1206 (qi_iinc 3 (nI 1) k26))))))))))))))))))))
def kc_Mo_move_26 (Po : Option Value → qa_M → Prop) : qa_K := qi_loop (kb_Mo_move_26 Po)
def kc_Mo_move_0 (Po : Option Value → qa_M → Prop) : qa_K := (qi_aload 0 (qi_gp 7 204 (qi_iload 2 (qi_aload 0 (qi_gp 7 204 (qi_iload 1 (qi_iald 1204 (qi_iast 1204 (qi_aload 0 (qi_gp 7 205 (qi_iload 2 (qi_aload 0 (qi_gp 7 205 (qi_iload 1 (qi_iald 1205 (qi_iast 1205 (qi_ic (nI 0) (qi_istore 3 (kc_Mo_move_26 Po)))))))))))))))))))
abbrev kS_Mo_move (l : Launch) (D : va_G) (E : Nat → ClassId) (B : Nat) (sc : qa_Z) (Po : Option Value → qa_M → Prop) (pc : Nat) (k : qa_K) : Prop := qa_S l "SealedRecordsModel" prog_8_method_15_code 4 none false D E B rm_Mo_move sc (qa_Qf D E B rm_Mo_move Po) pc k
theorem kt_Mo_move_26 (l : Launch) (D : va_G) (E : Nat → ClassId) (B : Nat) (sc : qa_Z) (Po : Option Value → qa_M → Prop) {k26 : qa_K} (hk26 : kS_Mo_move l D E B sc Po 26 k26) : kS_Mo_move l D E B sc Po 26 (kb_Mo_move_26 Po k26) := (qs_iload_n kd_Mo_move_26 rfl (qs_bipush kd_Mo_move_27 (by decide) (qs_icge (tgt := 60) kd_Mo_move_29 (by decide) (qs_vret kd_Mo_move_60) (qs_aload_n kd_Mo_move_32 rfl (fg_206 ww_291 kd_Mo_move_33 (qs_bipush kd_Mo_move_36 (by decide) (qs_iload_n kd_Mo_move_38 rfl (qs_imul kd_Mo_move_39 (qs_iload_n kd_Mo_move_40 rfl (qs_iadd kd_Mo_move_41 (qs_aload_n kd_Mo_move_42 rfl (fg_206 ww_291 kd_Mo_move_43 (qs_bipush kd_Mo_move_46 (by decide) (qs_iload_n kd_Mo_move_48 rfl (qs_imul kd_Mo_move_49 (qs_iload_n kd_Mo_move_50 rfl (qs_iadd kd_Mo_move_51 (qs_iald (κ := 1206) rfl (by decide) kd_Mo_move_52 (qs_iast (κ := 1206) rfl (by decide) kd_Mo_move_53 (qs_iinc kd_Mo_move_54 (by decide) (by decide) (qs_goto (tgt := 26) kd_Mo_move_57 (by decide) hk26)))))))))))))))))))))
theorem ks_Mo_move_26 (l : Launch) (D : va_G) (E : Nat → ClassId) (B : Nat) (sc : qa_Z) (Po : Option Value → qa_M → Prop) : kS_Mo_move l D E B sc Po 26 (kc_Mo_move_26 Po) := qs_loop fun k26 hk26 => kt_Mo_move_26 l D E B sc Po hk26
theorem ks_Mo_move_0 (l : Launch) (D : va_G) (E : Nat → ClassId) (B : Nat) (sc : qa_Z) (Po : Option Value → qa_M → Prop) : kS_Mo_move l D E B sc Po 0 (kc_Mo_move_0 Po) := (qs_aload_n kd_Mo_move_0 rfl (fg_204 ww_289 kd_Mo_move_1 (qs_iload_n kd_Mo_move_4 rfl (qs_aload_n kd_Mo_move_5 rfl (fg_204 ww_289 kd_Mo_move_6 (qs_iload_n kd_Mo_move_9 rfl (qs_iald (κ := 1204) rfl (by decide) kd_Mo_move_10 (qs_iast (κ := 1204) rfl (by decide) kd_Mo_move_11 (qs_aload_n kd_Mo_move_12 rfl (fg_205 ww_290 kd_Mo_move_13 (qs_iload_n kd_Mo_move_16 rfl (qs_aload_n kd_Mo_move_17 rfl (fg_205 ww_290 kd_Mo_move_18 (qs_iload_n kd_Mo_move_21 rfl (qs_iald (κ := 1205) rfl (by decide) kd_Mo_move_22 (qs_iast (κ := 1205) rfl (by decide) kd_Mo_move_23 (qs_iconst kd_Mo_move_24 (by decide) (qs_istore_n kd_Mo_move_25 rfl (by decide) (ks_Mo_move_26 l D E B sc Po)))))))))))))))))))
def sp_Mo_move : qa_sp := fun args M Po => match args with
  | [.ref a0, .int a1, .int a2] => kc_Mo_move_0 Po (0, 0) [some (.ref a0), some (.int a1), some (.int a2), none] [] M
  | _ => False
theorem ct_Mo_move (l : Launch) (sc : qa_Z) : qa_T l ym_Mo_move (Cond.code ym_Mo_move prog_8_method_15_code 4 none :: q_W0) rm_Mo_move sc (sp_Mo_move) := by
  intro D E B args M Po h
  unfold sp_Mo_move at h
  split at h
  · exact qa_ct (ini := false) (by decide) (by decide) (Nat.le_of_ble_eq_true rfl) (qa_lvok rfl) (ks_Mo_move_0 l D E B sc Po) h
  · exact h.elim
theorem kd_Mo_isRecord_0 : decode prog_8_method_16_code 0 = .ok (.iload_n 1, 1) := by decide +kernel
theorem kd_Mo_isRecord_1 : decode prog_8_method_16_code 1 = .ok (.invokestatic 83, 3) := by decide +kernel
theorem kd_Mo_isRecord_4 : decode prog_8_method_16_code 4 = .ok (.ifCond .eq 21, 3) := by decide +kernel
theorem kd_Mo_isRecord_7 : decode prog_8_method_16_code 7 = .ok (.iload_n 2, 1) := by decide +kernel
theorem kd_Mo_isRecord_8 : decode prog_8_method_16_code 8 = .ok (.ifCond .lt 17, 3) := by decide +kernel
theorem kd_Mo_isRecord_11 : decode prog_8_method_16_code 11 = .ok (.iload_n 2, 1) := by decide +kernel
theorem kd_Mo_isRecord_12 : decode prog_8_method_16_code 12 = .ok (.aload_n 0, 1) := by decide +kernel
theorem kd_Mo_isRecord_13 : decode prog_8_method_16_code 13 = .ok (.getfield 42, 3) := by decide +kernel
theorem kd_Mo_isRecord_16 : decode prog_8_method_16_code 16 = .ok (.iload_n 1, 1) := by decide +kernel
theorem kd_Mo_isRecord_17 : decode prog_8_method_16_code 17 = .ok (.iaload, 1) := by decide +kernel
theorem kd_Mo_isRecord_18 : decode prog_8_method_16_code 18 = .ok (.if_icmp .ge 7, 3) := by decide +kernel
theorem kd_Mo_isRecord_21 : decode prog_8_method_16_code 21 = .ok (.iconst 1, 1) := by decide +kernel
theorem kd_Mo_isRecord_22 : decode prog_8_method_16_code 22 = .ok (.goto 4, 3) := by decide +kernel
theorem kd_Mo_isRecord_25 : decode prog_8_method_16_code 25 = .ok (.iconst 0, 1) := by decide +kernel
theorem kd_Mo_isRecord_26 : decode prog_8_method_16_code 26 = .ok (.ireturn, 1) := by decide +kernel
def kc_Mo_isRecord_26 (Po : Option Value → qa_M → Prop) : qa_K := (qi_zret (0, 0) Po)
def kc_Mo_isRecord_25 (Po : Option Value → qa_M → Prop) : qa_K := (qi_ic (nI 0) (kc_Mo_isRecord_26 Po))
def kc_Mo_isRecord_0 (Po : Option Value → qa_M → Prop) : qa_K := (qi_iload 1 (qi_call 1 (0, 0) sp_Mo_isEnd (qi_ifeq (kc_Mo_isRecord_25 Po) (qi_iload 2 (qi_iflt (kc_Mo_isRecord_25 Po) (qi_iload 2 (qi_aload 0 (qi_gp 7 203 (qi_iload 1 (qi_iald 1203 (qi_icge (kc_Mo_isRecord_25 Po) (qi_ic (nI 1) (kc_Mo_isRecord_26 Po)))))))))))))
abbrev kS_Mo_isRecord (l : Launch) (D : va_G) (E : Nat → ClassId) (B : Nat) (sc : qa_Z) (Po : Option Value → qa_M → Prop) (pc : Nat) (k : qa_K) : Prop := qa_S l "SealedRecordsModel" prog_8_method_16_code 3 (some .boolean) false D E B rm_Mo_isRecord sc (qa_Qf D E B rm_Mo_isRecord Po) pc k
theorem ks_Mo_isRecord_26 (l : Launch) (D : va_G) (E : Nat → ClassId) (B : Nat) (sc : qa_Z) (Po : Option Value → qa_M → Prop) : kS_Mo_isRecord l D E B sc Po 26 (kc_Mo_isRecord_26 Po) := (qs_zret kd_Mo_isRecord_26)
theorem ks_Mo_isRecord_25 (l : Launch) (D : va_G) (E : Nat → ClassId) (B : Nat) (sc : qa_Z) (Po : Option Value → qa_M → Prop) : kS_Mo_isRecord l D E B sc Po 25 (kc_Mo_isRecord_25 Po) := (qs_iconst kd_Mo_isRecord_25 (by decide) (ks_Mo_isRecord_26 l D E B sc Po))
theorem ks_Mo_isRecord_0 (l : Launch) (D : va_G) (E : Nat → ClassId) (B : Nat) (sc : qa_Z) (Po : Option Value → qa_M → Prop) : kS_Mo_isRecord l D E B sc Po 0 (kc_Mo_isRecord_0 Po) := (qs_iload_n kd_Mo_isRecord_0 rfl (qs_calls (ct_Mo_isEnd l sc) ww_301 (by decide) (by decide) ww_302 ww_303 ww_13 yd_Mo_isEnd kd_Mo_isRecord_1 (qs_ifeq (tgt := 25) kd_Mo_isRecord_4 (by decide) (ks_Mo_isRecord_25 l D E B sc Po) (qs_iload_n kd_Mo_isRecord_7 rfl (qs_iflt (tgt := 25) kd_Mo_isRecord_8 (by decide) (ks_Mo_isRecord_25 l D E B sc Po) (qs_iload_n kd_Mo_isRecord_11 rfl (qs_aload_n kd_Mo_isRecord_12 rfl (fg_203 ww_288 kd_Mo_isRecord_13 (qs_iload_n kd_Mo_isRecord_16 rfl (qs_iald (κ := 1203) rfl (by decide) kd_Mo_isRecord_17 (qs_icge (tgt := 25) kd_Mo_isRecord_18 (by decide) (ks_Mo_isRecord_25 l D E B sc Po) (qs_iconst kd_Mo_isRecord_21 (by decide) (qs_goto (tgt := 26) kd_Mo_isRecord_22 (by decide) (ks_Mo_isRecord_26 l D E B sc Po))))))))))))))
def sp_Mo_isRecord : qa_sp := fun args M Po => match args with
  | [.ref a0, .int a1, .int a2] => kc_Mo_isRecord_0 Po (0, 0) [some (.ref a0), some (.int a1), some (.int a2)] [] M
  | _ => False
theorem ct_Mo_isRecord (l : Launch) (sc : qa_Z) : qa_T l ym_Mo_isRecord (Cond.code ym_Mo_isRecord prog_8_method_16_code 3 (some .boolean) :: q_W0) rm_Mo_isRecord sc (sp_Mo_isRecord) := by
  intro D E B args M Po h
  unfold sp_Mo_isRecord at h
  split at h
  · exact qa_ct (ini := false) (by decide) (by decide) (Nat.le_of_ble_eq_true rfl) (qa_lvok rfl) (ks_Mo_isRecord_0 l D E B sc Po) h
  · exact h.elim
theorem kd_Mo_lose_0 : decode prog_8_method_17_code 0 = .ok (.aload_n 0, 1) := by decide +kernel
theorem kd_Mo_lose_1 : decode prog_8_method_17_code 1 = .ok (.iload_n 1, 1) := by decide +kernel
theorem kd_Mo_lose_2 : decode prog_8_method_17_code 2 = .ok (.iload_n 2, 1) := by decide +kernel
theorem kd_Mo_lose_3 : decode prog_8_method_17_code 3 = .ok (.invokevirtual 126, 3) := by decide +kernel
theorem kd_Mo_lose_6 : decode prog_8_method_17_code 6 = .ok (.ifCond .ne 5, 3) := by decide +kernel
theorem kd_Mo_lose_9 : decode prog_8_method_17_code 9 = .ok (.iconst 0, 1) := by decide +kernel
theorem kd_Mo_lose_10 : decode prog_8_method_17_code 10 = .ok (.ireturn, 1) := by decide +kernel
theorem kd_Mo_lose_11 : decode prog_8_method_17_code 11 = .ok (.iload_n 2, 1) := by decide +kernel
theorem kd_Mo_lose_12 : decode prog_8_method_17_code 12 = .ok (.iconst 1, 1) := by decide +kernel
theorem kd_Mo_lose_13 : decode prog_8_method_17_code 13 = .ok (.iadd, 1) := by decide +kernel
theorem kd_Mo_lose_14 : decode prog_8_method_17_code 14 = .ok (.istore_n 3, 1) := by decide +kernel
theorem kd_Mo_lose_15 : decode prog_8_method_17_code 15 = .ok (.iload_n 3, 1) := by decide +kernel
theorem kd_Mo_lose_16 : decode prog_8_method_17_code 16 = .ok (.aload_n 0, 1) := by decide +kernel
theorem kd_Mo_lose_17 : decode prog_8_method_17_code 17 = .ok (.getfield 42, 3) := by decide +kernel
theorem kd_Mo_lose_20 : decode prog_8_method_17_code 20 = .ok (.iload_n 1, 1) := by decide +kernel
theorem kd_Mo_lose_21 : decode prog_8_method_17_code 21 = .ok (.iaload, 1) := by decide +kernel
theorem kd_Mo_lose_22 : decode prog_8_method_17_code 22 = .ok (.if_icmp .ge 27, 3) := by decide +kernel
theorem kd_Mo_lose_25 : decode prog_8_method_17_code 25 = .ok (.aload_n 0, 1) := by decide +kernel
theorem kd_Mo_lose_26 : decode prog_8_method_17_code 26 = .ok (.bipush 12, 2) := by decide +kernel
theorem kd_Mo_lose_28 : decode prog_8_method_17_code 28 = .ok (.iload_n 1, 1) := by decide +kernel
theorem kd_Mo_lose_29 : decode prog_8_method_17_code 29 = .ok (.imul, 1) := by decide +kernel
theorem kd_Mo_lose_30 : decode prog_8_method_17_code 30 = .ok (.iload_n 3, 1) := by decide +kernel
theorem kd_Mo_lose_31 : decode prog_8_method_17_code 31 = .ok (.iadd, 1) := by decide +kernel
theorem kd_Mo_lose_32 : decode prog_8_method_17_code 32 = .ok (.bipush 12, 2) := by decide +kernel
theorem kd_Mo_lose_34 : decode prog_8_method_17_code 34 = .ok (.iload_n 1, 1) := by decide +kernel
theorem kd_Mo_lose_35 : decode prog_8_method_17_code 35 = .ok (.imul, 1) := by decide +kernel
theorem kd_Mo_lose_36 : decode prog_8_method_17_code 36 = .ok (.iload_n 3, 1) := by decide +kernel
theorem kd_Mo_lose_37 : decode prog_8_method_17_code 37 = .ok (.iadd, 1) := by decide +kernel
theorem kd_Mo_lose_38 : decode prog_8_method_17_code 38 = .ok (.iconst 1, 1) := by decide +kernel
theorem kd_Mo_lose_39 : decode prog_8_method_17_code 39 = .ok (.isub, 1) := by decide +kernel
theorem kd_Mo_lose_40 : decode prog_8_method_17_code 40 = .ok (.invokevirtual 130, 3) := by decide +kernel
theorem kd_Mo_lose_43 : decode prog_8_method_17_code 43 = .ok (.iinc 3 1, 3) := by decide +kernel
theorem kd_Mo_lose_46 : decode prog_8_method_17_code 46 = .ok (.goto (-31), 3) := by decide +kernel
theorem kd_Mo_lose_49 : decode prog_8_method_17_code 49 = .ok (.aload_n 0, 1) := by decide +kernel
theorem kd_Mo_lose_50 : decode prog_8_method_17_code 50 = .ok (.getfield 42, 3) := by decide +kernel
theorem kd_Mo_lose_53 : decode prog_8_method_17_code 53 = .ok (.iload_n 1, 1) := by decide +kernel
theorem kd_Mo_lose_54 : decode prog_8_method_17_code 54 = .ok (.dup2, 1) := by decide +kernel
theorem kd_Mo_lose_55 : decode prog_8_method_17_code 55 = .ok (.iaload, 1) := by decide +kernel
theorem kd_Mo_lose_56 : decode prog_8_method_17_code 56 = .ok (.iconst 1, 1) := by decide +kernel
theorem kd_Mo_lose_57 : decode prog_8_method_17_code 57 = .ok (.isub, 1) := by decide +kernel
theorem kd_Mo_lose_58 : decode prog_8_method_17_code 58 = .ok (.iastore, 1) := by decide +kernel
theorem kd_Mo_lose_59 : decode prog_8_method_17_code 59 = .ok (.iconst 1, 1) := by decide +kernel
theorem kd_Mo_lose_60 : decode prog_8_method_17_code 60 = .ok (.ireturn, 1) := by decide +kernel
def kb_Mo_lose_15 (Po : Option Value → qa_M → Prop) (k15 : qa_K) : qa_K := (qi_iload 3 (qi_aload 0 (qi_gp 7 203 (qi_iload 1 (qi_iald 1203 (qi_icge (qi_aload 0 (qi_gp 7 203 (qi_iload 1 (qi_dup2 (qi_iald 1203 (qi_ic (nI 1) (qi_isub (qi_iast 1203 (qi_ic (nI 1) (qi_zret (0, 0) Po)))))))))) (qi_aload 0 (qi_ic (nI 12) (qi_iload 1 (qi_imul (qi_iload 3 (qi_iadd (qi_ic (nI 12) (qi_iload 1 (qi_imul (qi_iload 3 (qi_iadd (qi_ic (nI 1) (qi_isub (qi_callv 3 7 (0, 0) sp_Mo_move (qi_iinc 3 (nI 1) k15)))))))))))))))))))))
def kc_Mo_lose_15 (Po : Option Value → qa_M → Prop) : qa_K := qi_loop (kb_Mo_lose_15 Po)
def kc_Mo_lose_0 (Po : Option Value → qa_M → Prop) : qa_K := (qi_aload 0 (qi_iload 1 (qi_iload 2 (qi_callv 3 7 (0, 0) sp_Mo_isRecord (qi_ifne (qi_iload 2 (qi_ic (nI 1) (qi_iadd (qi_istore 3 (kc_Mo_lose_15 Po))))) (qi_ic (nI 0) (qi_zret (0, 0) Po)))))))
abbrev kS_Mo_lose (l : Launch) (D : va_G) (E : Nat → ClassId) (B : Nat) (sc : qa_Z) (Po : Option Value → qa_M → Prop) (pc : Nat) (k : qa_K) : Prop := qa_S l "SealedRecordsModel" prog_8_method_17_code 4 (some .boolean) false D E B rm_Mo_lose sc (qa_Qf D E B rm_Mo_lose Po) pc k
theorem kt_Mo_lose_15 (l : Launch) (D : va_G) (E : Nat → ClassId) (B : Nat) (sc : qa_Z) (Po : Option Value → qa_M → Prop) {k15 : qa_K} (hk15 : kS_Mo_lose l D E B sc Po 15 k15) : kS_Mo_lose l D E B sc Po 15 (kb_Mo_lose_15 Po k15) := (qs_iload_n kd_Mo_lose_15 rfl (qs_aload_n kd_Mo_lose_16 rfl (fg_203 ww_288 kd_Mo_lose_17 (qs_iload_n kd_Mo_lose_20 rfl (qs_iald (κ := 1203) rfl (by decide) kd_Mo_lose_21 (qs_icge (tgt := 49) kd_Mo_lose_22 (by decide) (qs_aload_n kd_Mo_lose_49 rfl (fg_203 ww_288 kd_Mo_lose_50 (qs_iload_n kd_Mo_lose_53 rfl (qs_dup2 kd_Mo_lose_54 (qs_iald (κ := 1203) rfl (by decide) kd_Mo_lose_55 (qs_iconst kd_Mo_lose_56 (by decide) (qs_isub kd_Mo_lose_57 (qs_iast (κ := 1203) rfl (by decide) kd_Mo_lose_58 (qs_iconst kd_Mo_lose_59 (by decide) (qs_zret kd_Mo_lose_60)))))))))) (qs_aload_n kd_Mo_lose_25 rfl (qs_bipush kd_Mo_lose_26 (by decide) (qs_iload_n kd_Mo_lose_28 rfl (qs_imul kd_Mo_lose_29 (qs_iload_n kd_Mo_lose_30 rfl (qs_iadd kd_Mo_lose_31 (qs_bipush kd_Mo_lose_32 (by decide) (qs_iload_n kd_Mo_lose_34 rfl (qs_imul kd_Mo_lose_35 (qs_iload_n kd_Mo_lose_36 rfl (qs_iadd kd_Mo_lose_37 (qs_iconst kd_Mo_lose_38 (by decide) (qs_isub kd_Mo_lose_39 (qs_callv (ci := 6) (ct_Mo_move l sc) ww_336 (by decide) rfl (by decide) ww_337 ww_338 ww_339 ww_13 yd_Mo_move kd_Mo_lose_40 (qs_iinc kd_Mo_lose_43 (by decide) (by decide) (qs_goto (tgt := 15) kd_Mo_lose_46 (by decide) hk15))))))))))))))))))))))
theorem ks_Mo_lose_15 (l : Launch) (D : va_G) (E : Nat → ClassId) (B : Nat) (sc : qa_Z) (Po : Option Value → qa_M → Prop) : kS_Mo_lose l D E B sc Po 15 (kc_Mo_lose_15 Po) := qs_loop fun k15 hk15 => kt_Mo_lose_15 l D E B sc Po hk15
theorem ks_Mo_lose_0 (l : Launch) (D : va_G) (E : Nat → ClassId) (B : Nat) (sc : qa_Z) (Po : Option Value → qa_M → Prop) : kS_Mo_lose l D E B sc Po 0 (kc_Mo_lose_0 Po) := (qs_aload_n kd_Mo_lose_0 rfl (qs_iload_n kd_Mo_lose_1 rfl (qs_iload_n kd_Mo_lose_2 rfl (qs_callv (ci := 6) (ct_Mo_isRecord l sc) ww_340 (by decide) rfl (by decide) ww_341 ww_342 ww_343 ww_13 yd_Mo_isRecord kd_Mo_lose_3 (qs_ifne (tgt := 11) kd_Mo_lose_6 (by decide) (qs_iload_n kd_Mo_lose_11 rfl (qs_iconst kd_Mo_lose_12 (by decide) (qs_iadd kd_Mo_lose_13 (qs_istore_n kd_Mo_lose_14 rfl (by decide) (ks_Mo_lose_15 l D E B sc Po))))) (qs_iconst kd_Mo_lose_9 (by decide) (qs_zret kd_Mo_lose_10)))))))
def sp_Mo_lose : qa_sp := fun args M Po => match args with
  | [.ref a0, .int a1, .int a2] => kc_Mo_lose_0 Po (0, 0) [some (.ref a0), some (.int a1), some (.int a2), none] [] M
  | _ => False
theorem ct_Mo_lose (l : Launch) (sc : qa_Z) : qa_T l ym_Mo_lose (Cond.code ym_Mo_lose prog_8_method_17_code 4 (some .boolean) :: q_W0) rm_Mo_lose sc (sp_Mo_lose) := by
  intro D E B args M Po h
  unfold sp_Mo_lose at h
  split at h
  · exact qa_ct (ini := false) (by decide) (by decide) (Nat.le_of_ble_eq_true rfl) (qa_lvok rfl) (ks_Mo_lose_0 l D E B sc Po) h
  · exact h.elim
theorem kd_Mo_alter_0 : decode prog_8_method_18_code 0 = .ok (.aload_n 0, 1) := by decide +kernel
theorem kd_Mo_alter_1 : decode prog_8_method_18_code 1 = .ok (.iload_n 1, 1) := by decide +kernel
theorem kd_Mo_alter_2 : decode prog_8_method_18_code 2 = .ok (.iload_n 2, 1) := by decide +kernel
theorem kd_Mo_alter_3 : decode prog_8_method_18_code 3 = .ok (.invokevirtual 126, 3) := by decide +kernel
theorem kd_Mo_alter_6 : decode prog_8_method_18_code 6 = .ok (.ifCond .eq 36, 3) := by decide +kernel
theorem kd_Mo_alter_9 : decode prog_8_method_18_code 9 = .ok (.iload 4, 2) := by decide +kernel
theorem kd_Mo_alter_11 : decode prog_8_method_18_code 11 = .ok (.iconst 1, 1) := by decide +kernel
theorem kd_Mo_alter_12 : decode prog_8_method_18_code 12 = .ok (.if_icmp .lt 30, 3) := by decide +kernel
theorem kd_Mo_alter_15 : decode prog_8_method_18_code 15 = .ok (.iload 4, 2) := by decide +kernel
theorem kd_Mo_alter_17 : decode prog_8_method_18_code 17 = .ok (.sipush 255, 3) := by decide +kernel
theorem kd_Mo_alter_20 : decode prog_8_method_18_code 20 = .ok (.if_icmp .gt 22, 3) := by decide +kernel
theorem kd_Mo_alter_23 : decode prog_8_method_18_code 23 = .ok (.iload_n 3, 1) := by decide +kernel
theorem kd_Mo_alter_24 : decode prog_8_method_18_code 24 = .ok (.ifCond .lt 18, 3) := by decide +kernel
theorem kd_Mo_alter_27 : decode prog_8_method_18_code 27 = .ok (.iload_n 3, 1) := by decide +kernel
theorem kd_Mo_alter_28 : decode prog_8_method_18_code 28 = .ok (.aload_n 0, 1) := by decide +kernel
theorem kd_Mo_alter_29 : decode prog_8_method_18_code 29 = .ok (.getfield 48, 3) := by decide +kernel
theorem kd_Mo_alter_32 : decode prog_8_method_18_code 32 = .ok (.bipush 12, 2) := by decide +kernel
theorem kd_Mo_alter_34 : decode prog_8_method_18_code 34 = .ok (.iload_n 1, 1) := by decide +kernel
theorem kd_Mo_alter_35 : decode prog_8_method_18_code 35 = .ok (.imul, 1) := by decide +kernel
theorem kd_Mo_alter_36 : decode prog_8_method_18_code 36 = .ok (.iload_n 2, 1) := by decide +kernel
theorem kd_Mo_alter_37 : decode prog_8_method_18_code 37 = .ok (.iadd, 1) := by decide +kernel
theorem kd_Mo_alter_38 : decode prog_8_method_18_code 38 = .ok (.iaload, 1) := by decide +kernel
theorem kd_Mo_alter_39 : decode prog_8_method_18_code 39 = .ok (.if_icmp .le 5, 3) := by decide +kernel
theorem kd_Mo_alter_42 : decode prog_8_method_18_code 42 = .ok (.iconst 0, 1) := by decide +kernel
theorem kd_Mo_alter_43 : decode prog_8_method_18_code 43 = .ok (.ireturn, 1) := by decide +kernel
theorem kd_Mo_alter_44 : decode prog_8_method_18_code 44 = .ok (.iload_n 3, 1) := by decide +kernel
theorem kd_Mo_alter_45 : decode prog_8_method_18_code 45 = .ok (.ifCond .ne 22, 3) := by decide +kernel
theorem kd_Mo_alter_48 : decode prog_8_method_18_code 48 = .ok (.aload_n 0, 1) := by decide +kernel
theorem kd_Mo_alter_49 : decode prog_8_method_18_code 49 = .ok (.getfield 45, 3) := by decide +kernel
theorem kd_Mo_alter_52 : decode prog_8_method_18_code 52 = .ok (.bipush 12, 2) := by decide +kernel
theorem kd_Mo_alter_54 : decode prog_8_method_18_code 54 = .ok (.iload_n 1, 1) := by decide +kernel
theorem kd_Mo_alter_55 : decode prog_8_method_18_code 55 = .ok (.imul, 1) := by decide +kernel
theorem kd_Mo_alter_56 : decode prog_8_method_18_code 56 = .ok (.iload_n 2, 1) := by decide +kernel
theorem kd_Mo_alter_57 : decode prog_8_method_18_code 57 = .ok (.iadd, 1) := by decide +kernel
theorem kd_Mo_alter_58 : decode prog_8_method_18_code 58 = .ok (.dup2, 1) := by decide +kernel
theorem kd_Mo_alter_59 : decode prog_8_method_18_code 59 = .ok (.iaload, 1) := by decide +kernel
theorem kd_Mo_alter_60 : decode prog_8_method_18_code 60 = .ok (.iload 4, 2) := by decide +kernel
theorem kd_Mo_alter_62 : decode prog_8_method_18_code 62 = .ok (.ixor, 1) := by decide +kernel
theorem kd_Mo_alter_63 : decode prog_8_method_18_code 63 = .ok (.iastore, 1) := by decide +kernel
theorem kd_Mo_alter_64 : decode prog_8_method_18_code 64 = .ok (.goto 26, 3) := by decide +kernel
theorem kd_Mo_alter_67 : decode prog_8_method_18_code 67 = .ok (.aload_n 0, 1) := by decide +kernel
theorem kd_Mo_alter_68 : decode prog_8_method_18_code 68 = .ok (.getfield 51, 3) := by decide +kernel
theorem kd_Mo_alter_71 : decode prog_8_method_18_code 71 = .ok (.bipush 40, 2) := by decide +kernel
theorem kd_Mo_alter_73 : decode prog_8_method_18_code 73 = .ok (.bipush 12, 2) := by decide +kernel
theorem kd_Mo_alter_75 : decode prog_8_method_18_code 75 = .ok (.iload_n 1, 1) := by decide +kernel
theorem kd_Mo_alter_76 : decode prog_8_method_18_code 76 = .ok (.imul, 1) := by decide +kernel
theorem kd_Mo_alter_77 : decode prog_8_method_18_code 77 = .ok (.iload_n 2, 1) := by decide +kernel
theorem kd_Mo_alter_78 : decode prog_8_method_18_code 78 = .ok (.iadd, 1) := by decide +kernel
theorem kd_Mo_alter_79 : decode prog_8_method_18_code 79 = .ok (.imul, 1) := by decide +kernel
theorem kd_Mo_alter_80 : decode prog_8_method_18_code 80 = .ok (.iload_n 3, 1) := by decide +kernel
theorem kd_Mo_alter_81 : decode prog_8_method_18_code 81 = .ok (.iadd, 1) := by decide +kernel
theorem kd_Mo_alter_82 : decode prog_8_method_18_code 82 = .ok (.iconst 1, 1) := by decide +kernel
theorem kd_Mo_alter_83 : decode prog_8_method_18_code 83 = .ok (.isub, 1) := by decide +kernel
theorem kd_Mo_alter_84 : decode prog_8_method_18_code 84 = .ok (.dup2, 1) := by decide +kernel
theorem kd_Mo_alter_85 : decode prog_8_method_18_code 85 = .ok (.iaload, 1) := by decide +kernel
theorem kd_Mo_alter_86 : decode prog_8_method_18_code 86 = .ok (.iload 4, 2) := by decide +kernel
theorem kd_Mo_alter_88 : decode prog_8_method_18_code 88 = .ok (.ixor, 1) := by decide +kernel
theorem kd_Mo_alter_89 : decode prog_8_method_18_code 89 = .ok (.iastore, 1) := by decide +kernel
theorem kd_Mo_alter_90 : decode prog_8_method_18_code 90 = .ok (.iconst 1, 1) := by decide +kernel
theorem kd_Mo_alter_91 : decode prog_8_method_18_code 91 = .ok (.ireturn, 1) := by decide +kernel
def kc_Mo_alter_90 (Po : Option Value → qa_M → Prop) : qa_K := (qi_ic (nI 1) (qi_zret (0, 0) Po))
def kc_Mo_alter_42 (Po : Option Value → qa_M → Prop) : qa_K := (qi_ic (nI 0) (qi_zret (0, 0) Po))
def kc_Mo_alter_0 (Po : Option Value → qa_M → Prop) : qa_K := (qi_aload 0 (qi_iload 1 (qi_iload 2 (qi_callv 3 7 (0, 0) sp_Mo_isRecord (qi_ifeq (kc_Mo_alter_42 Po) (qi_iload 4 (qi_ic (nI 1) (qi_iclt (kc_Mo_alter_42 Po) (qi_iload 4 (qi_ic (nI 255) (qi_icgt (kc_Mo_alter_42 Po) (qi_iload 3 (qi_iflt (kc_Mo_alter_42 Po) (qi_iload 3 (qi_aload 0 (qi_gp 7 205 (qi_ic (nI 12) (qi_iload 1 (qi_imul (qi_iload 2 (qi_iadd (qi_iald 1205 (qi_icle (qi_iload 3 (qi_ifne (qi_aload 0 (qi_gp 7 206 (qi_ic (nI 40) (qi_ic (nI 12) (qi_iload 1 (qi_imul (qi_iload 2 (qi_iadd (qi_imul (qi_iload 3 (qi_iadd (qi_ic (nI 1) (qi_isub (qi_dup2 (qi_iald 1206 (qi_iload 4 (qi_ixor (qi_iast 1206 (kc_Mo_alter_90 Po))))))))))))))))))) (qi_aload 0 (qi_gp 7 204 (qi_ic (nI 12) (qi_iload 1 (qi_imul (qi_iload 2 (qi_iadd (qi_dup2 (qi_iald 1204 (qi_iload 4 (qi_ixor (qi_iast 1204 (kc_Mo_alter_90 Po))))))))))))))) (kc_Mo_alter_42 Po))))))))))))))))))))))))
abbrev kS_Mo_alter (l : Launch) (D : va_G) (E : Nat → ClassId) (B : Nat) (sc : qa_Z) (Po : Option Value → qa_M → Prop) (pc : Nat) (k : qa_K) : Prop := qa_S l "SealedRecordsModel" prog_8_method_18_code 5 (some .boolean) false D E B rm_Mo_alter sc (qa_Qf D E B rm_Mo_alter Po) pc k
theorem ks_Mo_alter_90 (l : Launch) (D : va_G) (E : Nat → ClassId) (B : Nat) (sc : qa_Z) (Po : Option Value → qa_M → Prop) : kS_Mo_alter l D E B sc Po 90 (kc_Mo_alter_90 Po) := (qs_iconst kd_Mo_alter_90 (by decide) (qs_zret kd_Mo_alter_91))
theorem ks_Mo_alter_42 (l : Launch) (D : va_G) (E : Nat → ClassId) (B : Nat) (sc : qa_Z) (Po : Option Value → qa_M → Prop) : kS_Mo_alter l D E B sc Po 42 (kc_Mo_alter_42 Po) := (qs_iconst kd_Mo_alter_42 (by decide) (qs_zret kd_Mo_alter_43))
theorem ks_Mo_alter_0 (l : Launch) (D : va_G) (E : Nat → ClassId) (B : Nat) (sc : qa_Z) (Po : Option Value → qa_M → Prop) : kS_Mo_alter l D E B sc Po 0 (kc_Mo_alter_0 Po) := (qs_aload_n kd_Mo_alter_0 rfl (qs_iload_n kd_Mo_alter_1 rfl (qs_iload_n kd_Mo_alter_2 rfl (qs_callv (ci := 6) (ct_Mo_isRecord l sc) ww_340 (by decide) rfl (by decide) ww_341 ww_342 ww_343 ww_13 yd_Mo_isRecord kd_Mo_alter_3 (qs_ifeq (tgt := 42) kd_Mo_alter_6 (by decide) (ks_Mo_alter_42 l D E B sc Po) (qs_iload kd_Mo_alter_9 (qs_iconst kd_Mo_alter_11 (by decide) (qs_iclt (tgt := 42) kd_Mo_alter_12 (by decide) (ks_Mo_alter_42 l D E B sc Po) (qs_iload kd_Mo_alter_15 (qs_sipush kd_Mo_alter_17 (by decide) (qs_icgt (tgt := 42) kd_Mo_alter_20 (by decide) (ks_Mo_alter_42 l D E B sc Po) (qs_iload_n kd_Mo_alter_23 rfl (qs_iflt (tgt := 42) kd_Mo_alter_24 (by decide) (ks_Mo_alter_42 l D E B sc Po) (qs_iload_n kd_Mo_alter_27 rfl (qs_aload_n kd_Mo_alter_28 rfl (fg_205 ww_290 kd_Mo_alter_29 (qs_bipush kd_Mo_alter_32 (by decide) (qs_iload_n kd_Mo_alter_34 rfl (qs_imul kd_Mo_alter_35 (qs_iload_n kd_Mo_alter_36 rfl (qs_iadd kd_Mo_alter_37 (qs_iald (κ := 1205) rfl (by decide) kd_Mo_alter_38 (qs_icle (tgt := 44) kd_Mo_alter_39 (by decide) (qs_iload_n kd_Mo_alter_44 rfl (qs_ifne (tgt := 67) kd_Mo_alter_45 (by decide) (qs_aload_n kd_Mo_alter_67 rfl (fg_206 ww_291 kd_Mo_alter_68 (qs_bipush kd_Mo_alter_71 (by decide) (qs_bipush kd_Mo_alter_73 (by decide) (qs_iload_n kd_Mo_alter_75 rfl (qs_imul kd_Mo_alter_76 (qs_iload_n kd_Mo_alter_77 rfl (qs_iadd kd_Mo_alter_78 (qs_imul kd_Mo_alter_79 (qs_iload_n kd_Mo_alter_80 rfl (qs_iadd kd_Mo_alter_81 (qs_iconst kd_Mo_alter_82 (by decide) (qs_isub kd_Mo_alter_83 (qs_dup2 kd_Mo_alter_84 (qs_iald (κ := 1206) rfl (by decide) kd_Mo_alter_85 (qs_iload kd_Mo_alter_86 (qs_ixor kd_Mo_alter_88 (qs_iast (κ := 1206) rfl (by decide) kd_Mo_alter_89 (ks_Mo_alter_90 l D E B sc Po))))))))))))))))))) (qs_aload_n kd_Mo_alter_48 rfl (fg_204 ww_289 kd_Mo_alter_49 (qs_bipush kd_Mo_alter_52 (by decide) (qs_iload_n kd_Mo_alter_54 rfl (qs_imul kd_Mo_alter_55 (qs_iload_n kd_Mo_alter_56 rfl (qs_iadd kd_Mo_alter_57 (qs_dup2 kd_Mo_alter_58 (qs_iald (κ := 1204) rfl (by decide) kd_Mo_alter_59 (qs_iload kd_Mo_alter_60 (qs_ixor kd_Mo_alter_62 (qs_iast (κ := 1204) rfl (by decide) kd_Mo_alter_63 (qs_goto (tgt := 90) kd_Mo_alter_64 (by decide) (ks_Mo_alter_90 l D E B sc Po)))))))))))))))) (ks_Mo_alter_42 l D E B sc Po))))))))))))))))))))))))
def sp_Mo_alter : qa_sp := fun args M Po => match args with
  | [.ref a0, .int a1, .int a2, .int a3, .int a4] => kc_Mo_alter_0 Po (0, 0) [some (.ref a0), some (.int a1), some (.int a2), some (.int a3), some (.int a4)] [] M
  | _ => False
theorem ct_Mo_alter (l : Launch) (sc : qa_Z) : qa_T l ym_Mo_alter (Cond.code ym_Mo_alter prog_8_method_18_code 5 (some .boolean) :: q_W0) rm_Mo_alter sc (sp_Mo_alter) := by
  intro D E B args M Po h
  unfold sp_Mo_alter at h
  split at h
  · exact qa_ct (ini := false) (by decide) (by decide) (Nat.le_of_ble_eq_true rfl) (qa_lvok rfl) (ks_Mo_alter_0 l D E B sc Po) h
  · exact h.elim
theorem kd_Mo_cut_0 : decode prog_8_method_19_code 0 = .ok (.aload_n 0, 1) := by decide +kernel
theorem kd_Mo_cut_1 : decode prog_8_method_19_code 1 = .ok (.iload_n 1, 1) := by decide +kernel
theorem kd_Mo_cut_2 : decode prog_8_method_19_code 2 = .ok (.iload_n 2, 1) := by decide +kernel
theorem kd_Mo_cut_3 : decode prog_8_method_19_code 3 = .ok (.invokevirtual 126, 3) := by decide +kernel
theorem kd_Mo_cut_6 : decode prog_8_method_19_code 6 = .ok (.ifCond .eq 17, 3) := by decide +kernel
theorem kd_Mo_cut_9 : decode prog_8_method_19_code 9 = .ok (.aload_n 0, 1) := by decide +kernel
theorem kd_Mo_cut_10 : decode prog_8_method_19_code 10 = .ok (.getfield 48, 3) := by decide +kernel
theorem kd_Mo_cut_13 : decode prog_8_method_19_code 13 = .ok (.bipush 12, 2) := by decide +kernel
theorem kd_Mo_cut_15 : decode prog_8_method_19_code 15 = .ok (.iload_n 1, 1) := by decide +kernel
theorem kd_Mo_cut_16 : decode prog_8_method_19_code 16 = .ok (.imul, 1) := by decide +kernel
theorem kd_Mo_cut_17 : decode prog_8_method_19_code 17 = .ok (.iload_n 2, 1) := by decide +kernel
theorem kd_Mo_cut_18 : decode prog_8_method_19_code 18 = .ok (.iadd, 1) := by decide +kernel
theorem kd_Mo_cut_19 : decode prog_8_method_19_code 19 = .ok (.iaload, 1) := by decide +kernel
theorem kd_Mo_cut_20 : decode prog_8_method_19_code 20 = .ok (.ifCond .ne 5, 3) := by decide +kernel
theorem kd_Mo_cut_23 : decode prog_8_method_19_code 23 = .ok (.iconst 0, 1) := by decide +kernel
theorem kd_Mo_cut_24 : decode prog_8_method_19_code 24 = .ok (.ireturn, 1) := by decide +kernel
theorem kd_Mo_cut_25 : decode prog_8_method_19_code 25 = .ok (.aload_n 0, 1) := by decide +kernel
theorem kd_Mo_cut_26 : decode prog_8_method_19_code 26 = .ok (.getfield 48, 3) := by decide +kernel
theorem kd_Mo_cut_29 : decode prog_8_method_19_code 29 = .ok (.bipush 12, 2) := by decide +kernel
theorem kd_Mo_cut_31 : decode prog_8_method_19_code 31 = .ok (.iload_n 1, 1) := by decide +kernel
theorem kd_Mo_cut_32 : decode prog_8_method_19_code 32 = .ok (.imul, 1) := by decide +kernel
theorem kd_Mo_cut_33 : decode prog_8_method_19_code 33 = .ok (.iload_n 2, 1) := by decide +kernel
theorem kd_Mo_cut_34 : decode prog_8_method_19_code 34 = .ok (.iadd, 1) := by decide +kernel
theorem kd_Mo_cut_35 : decode prog_8_method_19_code 35 = .ok (.dup2, 1) := by decide +kernel
theorem kd_Mo_cut_36 : decode prog_8_method_19_code 36 = .ok (.iaload, 1) := by decide +kernel
theorem kd_Mo_cut_37 : decode prog_8_method_19_code 37 = .ok (.iconst 1, 1) := by decide +kernel
theorem kd_Mo_cut_38 : decode prog_8_method_19_code 38 = .ok (.isub, 1) := by decide +kernel
theorem kd_Mo_cut_39 : decode prog_8_method_19_code 39 = .ok (.iastore, 1) := by decide +kernel
theorem kd_Mo_cut_40 : decode prog_8_method_19_code 40 = .ok (.iconst 1, 1) := by decide +kernel
theorem kd_Mo_cut_41 : decode prog_8_method_19_code 41 = .ok (.ireturn, 1) := by decide +kernel
def kc_Mo_cut_23 (Po : Option Value → qa_M → Prop) : qa_K := (qi_ic (nI 0) (qi_zret (0, 0) Po))
def kc_Mo_cut_0 (Po : Option Value → qa_M → Prop) : qa_K := (qi_aload 0 (qi_iload 1 (qi_iload 2 (qi_callv 3 7 (0, 0) sp_Mo_isRecord (qi_ifeq (kc_Mo_cut_23 Po) (qi_aload 0 (qi_gp 7 205 (qi_ic (nI 12) (qi_iload 1 (qi_imul (qi_iload 2 (qi_iadd (qi_iald 1205 (qi_ifne (qi_aload 0 (qi_gp 7 205 (qi_ic (nI 12) (qi_iload 1 (qi_imul (qi_iload 2 (qi_iadd (qi_dup2 (qi_iald 1205 (qi_ic (nI 1) (qi_isub (qi_iast 1205 (qi_ic (nI 1) (qi_zret (0, 0) Po)))))))))))))) (kc_Mo_cut_23 Po)))))))))))))))
abbrev kS_Mo_cut (l : Launch) (D : va_G) (E : Nat → ClassId) (B : Nat) (sc : qa_Z) (Po : Option Value → qa_M → Prop) (pc : Nat) (k : qa_K) : Prop := qa_S l "SealedRecordsModel" prog_8_method_19_code 3 (some .boolean) false D E B rm_Mo_cut sc (qa_Qf D E B rm_Mo_cut Po) pc k
theorem ks_Mo_cut_23 (l : Launch) (D : va_G) (E : Nat → ClassId) (B : Nat) (sc : qa_Z) (Po : Option Value → qa_M → Prop) : kS_Mo_cut l D E B sc Po 23 (kc_Mo_cut_23 Po) := (qs_iconst kd_Mo_cut_23 (by decide) (qs_zret kd_Mo_cut_24))
theorem ks_Mo_cut_0 (l : Launch) (D : va_G) (E : Nat → ClassId) (B : Nat) (sc : qa_Z) (Po : Option Value → qa_M → Prop) : kS_Mo_cut l D E B sc Po 0 (kc_Mo_cut_0 Po) := (qs_aload_n kd_Mo_cut_0 rfl (qs_iload_n kd_Mo_cut_1 rfl (qs_iload_n kd_Mo_cut_2 rfl (qs_callv (ci := 6) (ct_Mo_isRecord l sc) ww_340 (by decide) rfl (by decide) ww_341 ww_342 ww_343 ww_13 yd_Mo_isRecord kd_Mo_cut_3 (qs_ifeq (tgt := 23) kd_Mo_cut_6 (by decide) (ks_Mo_cut_23 l D E B sc Po) (qs_aload_n kd_Mo_cut_9 rfl (fg_205 ww_290 kd_Mo_cut_10 (qs_bipush kd_Mo_cut_13 (by decide) (qs_iload_n kd_Mo_cut_15 rfl (qs_imul kd_Mo_cut_16 (qs_iload_n kd_Mo_cut_17 rfl (qs_iadd kd_Mo_cut_18 (qs_iald (κ := 1205) rfl (by decide) kd_Mo_cut_19 (qs_ifne (tgt := 25) kd_Mo_cut_20 (by decide) (qs_aload_n kd_Mo_cut_25 rfl (fg_205 ww_290 kd_Mo_cut_26 (qs_bipush kd_Mo_cut_29 (by decide) (qs_iload_n kd_Mo_cut_31 rfl (qs_imul kd_Mo_cut_32 (qs_iload_n kd_Mo_cut_33 rfl (qs_iadd kd_Mo_cut_34 (qs_dup2 kd_Mo_cut_35 (qs_iald (κ := 1205) rfl (by decide) kd_Mo_cut_36 (qs_iconst kd_Mo_cut_37 (by decide) (qs_isub kd_Mo_cut_38 (qs_iast (κ := 1205) rfl (by decide) kd_Mo_cut_39 (qs_iconst kd_Mo_cut_40 (by decide) (qs_zret kd_Mo_cut_41)))))))))))))) (ks_Mo_cut_23 l D E B sc Po)))))))))))))))
def sp_Mo_cut : qa_sp := fun args M Po => match args with
  | [.ref a0, .int a1, .int a2] => kc_Mo_cut_0 Po (0, 0) [some (.ref a0), some (.int a1), some (.int a2)] [] M
  | _ => False
theorem ct_Mo_cut (l : Launch) (sc : qa_Z) : qa_T l ym_Mo_cut (Cond.code ym_Mo_cut prog_8_method_19_code 3 (some .boolean) :: q_W0) rm_Mo_cut sc (sp_Mo_cut) := by
  intro D E B args M Po h
  unfold sp_Mo_cut at h
  split at h
  · exact qa_ct (ini := false) (by decide) (by decide) (Nat.le_of_ble_eq_true rfl) (qa_lvok rfl) (ks_Mo_cut_0 l D E B sc Po) h
  · exact h.elim
