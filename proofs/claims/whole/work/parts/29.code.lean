theorem kd_Mo_copy_0 : decode prog_8_method_20_code 0 = .ok (.aload_n 0, 1) := by decide +kernel
theorem kd_Mo_copy_1 : decode prog_8_method_20_code 1 = .ok (.iload_n 1, 1) := by decide +kernel
theorem kd_Mo_copy_2 : decode prog_8_method_20_code 2 = .ok (.iload_n 2, 1) := by decide +kernel
theorem kd_Mo_copy_3 : decode prog_8_method_20_code 3 = .ok (.invokevirtual 126, 3) := by decide +kernel
theorem kd_Mo_copy_6 : decode prog_8_method_20_code 6 = .ok (.ifCond .eq 14, 3) := by decide +kernel
theorem kd_Mo_copy_9 : decode prog_8_method_20_code 9 = .ok (.aload_n 0, 1) := by decide +kernel
theorem kd_Mo_copy_10 : decode prog_8_method_20_code 10 = .ok (.getfield 42, 3) := by decide +kernel
theorem kd_Mo_copy_13 : decode prog_8_method_20_code 13 = .ok (.iload_n 1, 1) := by decide +kernel
theorem kd_Mo_copy_14 : decode prog_8_method_20_code 14 = .ok (.iaload, 1) := by decide +kernel
theorem kd_Mo_copy_15 : decode prog_8_method_20_code 15 = .ok (.bipush 12, 2) := by decide +kernel
theorem kd_Mo_copy_17 : decode prog_8_method_20_code 17 = .ok (.if_icmp .ne 5, 3) := by decide +kernel
theorem kd_Mo_copy_20 : decode prog_8_method_20_code 20 = .ok (.iconst 0, 1) := by decide +kernel
theorem kd_Mo_copy_21 : decode prog_8_method_20_code 21 = .ok (.ireturn, 1) := by decide +kernel
theorem kd_Mo_copy_22 : decode prog_8_method_20_code 22 = .ok (.aload_n 0, 1) := by decide +kernel
theorem kd_Mo_copy_23 : decode prog_8_method_20_code 23 = .ok (.bipush 12, 2) := by decide +kernel
theorem kd_Mo_copy_25 : decode prog_8_method_20_code 25 = .ok (.iload_n 1, 1) := by decide +kernel
theorem kd_Mo_copy_26 : decode prog_8_method_20_code 26 = .ok (.imul, 1) := by decide +kernel
theorem kd_Mo_copy_27 : decode prog_8_method_20_code 27 = .ok (.iload_n 2, 1) := by decide +kernel
theorem kd_Mo_copy_28 : decode prog_8_method_20_code 28 = .ok (.iadd, 1) := by decide +kernel
theorem kd_Mo_copy_29 : decode prog_8_method_20_code 29 = .ok (.bipush 12, 2) := by decide +kernel
theorem kd_Mo_copy_31 : decode prog_8_method_20_code 31 = .ok (.iload_n 1, 1) := by decide +kernel
theorem kd_Mo_copy_32 : decode prog_8_method_20_code 32 = .ok (.imul, 1) := by decide +kernel
theorem kd_Mo_copy_33 : decode prog_8_method_20_code 33 = .ok (.aload_n 0, 1) := by decide +kernel
theorem kd_Mo_copy_34 : decode prog_8_method_20_code 34 = .ok (.getfield 42, 3) := by decide +kernel
theorem kd_Mo_copy_37 : decode prog_8_method_20_code 37 = .ok (.iload_n 1, 1) := by decide +kernel
theorem kd_Mo_copy_38 : decode prog_8_method_20_code 38 = .ok (.iaload, 1) := by decide +kernel
theorem kd_Mo_copy_39 : decode prog_8_method_20_code 39 = .ok (.iadd, 1) := by decide +kernel
theorem kd_Mo_copy_40 : decode prog_8_method_20_code 40 = .ok (.invokevirtual 130, 3) := by decide +kernel
theorem kd_Mo_copy_43 : decode prog_8_method_20_code 43 = .ok (.aload_n 0, 1) := by decide +kernel
theorem kd_Mo_copy_44 : decode prog_8_method_20_code 44 = .ok (.getfield 42, 3) := by decide +kernel
theorem kd_Mo_copy_47 : decode prog_8_method_20_code 47 = .ok (.iload_n 1, 1) := by decide +kernel
theorem kd_Mo_copy_48 : decode prog_8_method_20_code 48 = .ok (.dup2, 1) := by decide +kernel
theorem kd_Mo_copy_49 : decode prog_8_method_20_code 49 = .ok (.iaload, 1) := by decide +kernel
theorem kd_Mo_copy_50 : decode prog_8_method_20_code 50 = .ok (.iconst 1, 1) := by decide +kernel
theorem kd_Mo_copy_51 : decode prog_8_method_20_code 51 = .ok (.iadd, 1) := by decide +kernel
theorem kd_Mo_copy_52 : decode prog_8_method_20_code 52 = .ok (.iastore, 1) := by decide +kernel
theorem kd_Mo_copy_53 : decode prog_8_method_20_code 53 = .ok (.iconst 1, 1) := by decide +kernel
theorem kd_Mo_copy_54 : decode prog_8_method_20_code 54 = .ok (.ireturn, 1) := by decide +kernel
def kc_Mo_copy_20 (Po : Option Value → qa_M → Prop) : qa_K := (qi_ic (nI 0) (qi_zret (0, 0) Po))
def kc_Mo_copy_0 (Po : Option Value → qa_M → Prop) : qa_K := (qi_aload 0 (qi_iload 1 (qi_iload 2 (qi_callv 3 7 (0, 0) sp_Mo_isRecord (qi_ifeq (kc_Mo_copy_20 Po) (qi_aload 0 (qi_gp 7 203 (qi_iload 1 (qi_iald 1203 (qi_ic (nI 12) (qi_icne (qi_aload 0 (qi_ic (nI 12) (qi_iload 1 (qi_imul (qi_iload 2 (qi_iadd (qi_ic (nI 12) (qi_iload 1 (qi_imul (qi_aload 0 (qi_gp 7 203 (qi_iload 1 (qi_iald 1203 (qi_iadd (qi_callv 3 7 (0, 0) sp_Mo_move (qi_aload 0 (qi_gp 7 203 (qi_iload 1 (qi_dup2 (qi_iald 1203 (qi_ic (nI 1) (qi_iadd (qi_iast 1203 (qi_ic (nI 1) (qi_zret (0, 0) Po))))))))))))))))))))))))) (kc_Mo_copy_20 Po))))))))))))
abbrev kS_Mo_copy (l : Launch) (D : va_G) (E : Nat → ClassId) (B : Nat) (sc : qa_Z) (Po : Option Value → qa_M → Prop) (pc : Nat) (k : qa_K) : Prop := qa_S l "SealedRecordsModel" prog_8_method_20_code 3 (some .boolean) false D E B rm_Mo_copy sc (qa_Qf D E B rm_Mo_copy Po) pc k
theorem ks_Mo_copy_20 (l : Launch) (D : va_G) (E : Nat → ClassId) (B : Nat) (sc : qa_Z) (Po : Option Value → qa_M → Prop) : kS_Mo_copy l D E B sc Po 20 (kc_Mo_copy_20 Po) := (qs_iconst kd_Mo_copy_20 (by decide) (qs_zret kd_Mo_copy_21))
theorem ks_Mo_copy_0 (l : Launch) (D : va_G) (E : Nat → ClassId) (B : Nat) (sc : qa_Z) (Po : Option Value → qa_M → Prop) : kS_Mo_copy l D E B sc Po 0 (kc_Mo_copy_0 Po) := (qs_aload_n kd_Mo_copy_0 rfl (qs_iload_n kd_Mo_copy_1 rfl (qs_iload_n kd_Mo_copy_2 rfl (qs_callv (ci := 6) (ct_Mo_isRecord l sc) ww_340 (by decide) rfl (by decide) ww_341 ww_342 ww_343 ww_13 yd_Mo_isRecord kd_Mo_copy_3 (qs_ifeq (tgt := 20) kd_Mo_copy_6 (by decide) (ks_Mo_copy_20 l D E B sc Po) (qs_aload_n kd_Mo_copy_9 rfl (fg_203 ww_288 kd_Mo_copy_10 (qs_iload_n kd_Mo_copy_13 rfl (qs_iald (κ := 1203) rfl (by decide) kd_Mo_copy_14 (qs_bipush kd_Mo_copy_15 (by decide) (qs_icne (tgt := 22) kd_Mo_copy_17 (by decide) (qs_aload_n kd_Mo_copy_22 rfl (qs_bipush kd_Mo_copy_23 (by decide) (qs_iload_n kd_Mo_copy_25 rfl (qs_imul kd_Mo_copy_26 (qs_iload_n kd_Mo_copy_27 rfl (qs_iadd kd_Mo_copy_28 (qs_bipush kd_Mo_copy_29 (by decide) (qs_iload_n kd_Mo_copy_31 rfl (qs_imul kd_Mo_copy_32 (qs_aload_n kd_Mo_copy_33 rfl (fg_203 ww_288 kd_Mo_copy_34 (qs_iload_n kd_Mo_copy_37 rfl (qs_iald (κ := 1203) rfl (by decide) kd_Mo_copy_38 (qs_iadd kd_Mo_copy_39 (qs_callv (ci := 6) (ct_Mo_move l sc) ww_336 (by decide) rfl (by decide) ww_337 ww_338 ww_339 ww_13 yd_Mo_move kd_Mo_copy_40 (qs_aload_n kd_Mo_copy_43 rfl (fg_203 ww_288 kd_Mo_copy_44 (qs_iload_n kd_Mo_copy_47 rfl (qs_dup2 kd_Mo_copy_48 (qs_iald (κ := 1203) rfl (by decide) kd_Mo_copy_49 (qs_iconst kd_Mo_copy_50 (by decide) (qs_iadd kd_Mo_copy_51 (qs_iast (κ := 1203) rfl (by decide) kd_Mo_copy_52 (qs_iconst kd_Mo_copy_53 (by decide) (qs_zret kd_Mo_copy_54))))))))))))))))))))))))) (ks_Mo_copy_20 l D E B sc Po))))))))))))
def sp_Mo_copy : qa_sp := fun args M Po => match args with
  | [.ref a0, .int a1, .int a2] => kc_Mo_copy_0 Po (0, 0) [some (.ref a0), some (.int a1), some (.int a2)] [] M
  | _ => False
theorem ct_Mo_copy (l : Launch) (sc : qa_Z) : qa_T l ym_Mo_copy (Cond.code ym_Mo_copy prog_8_method_20_code 3 (some .boolean) :: q_W0) rm_Mo_copy sc (sp_Mo_copy) := by
  intro D E B args M Po h
  unfold sp_Mo_copy at h
  split at h
  · exact qa_ct (ini := false) (by decide) (by decide) (Nat.le_of_ble_eq_true rfl) (qa_lvok rfl) (ks_Mo_copy_0 l D E B sc Po) h
  · exact h.elim
theorem kd_Mo_swap_0 : decode prog_8_method_21_code 0 = .ok (.aload_n 0, 1) := by decide +kernel
theorem kd_Mo_swap_1 : decode prog_8_method_21_code 1 = .ok (.iload_n 1, 1) := by decide +kernel
theorem kd_Mo_swap_2 : decode prog_8_method_21_code 2 = .ok (.iload_n 2, 1) := by decide +kernel
theorem kd_Mo_swap_3 : decode prog_8_method_21_code 3 = .ok (.invokevirtual 126, 3) := by decide +kernel
theorem kd_Mo_swap_6 : decode prog_8_method_21_code 6 = .ok (.ifCond .eq 15, 3) := by decide +kernel
theorem kd_Mo_swap_9 : decode prog_8_method_21_code 9 = .ok (.iload_n 2, 1) := by decide +kernel
theorem kd_Mo_swap_10 : decode prog_8_method_21_code 10 = .ok (.aload_n 0, 1) := by decide +kernel
theorem kd_Mo_swap_11 : decode prog_8_method_21_code 11 = .ok (.getfield 42, 3) := by decide +kernel
theorem kd_Mo_swap_14 : decode prog_8_method_21_code 14 = .ok (.iload_n 1, 1) := by decide +kernel
theorem kd_Mo_swap_15 : decode prog_8_method_21_code 15 = .ok (.iaload, 1) := by decide +kernel
theorem kd_Mo_swap_16 : decode prog_8_method_21_code 16 = .ok (.iconst 1, 1) := by decide +kernel
theorem kd_Mo_swap_17 : decode prog_8_method_21_code 17 = .ok (.isub, 1) := by decide +kernel
theorem kd_Mo_swap_18 : decode prog_8_method_21_code 18 = .ok (.if_icmp .ne 5, 3) := by decide +kernel
theorem kd_Mo_swap_21 : decode prog_8_method_21_code 21 = .ok (.iconst 0, 1) := by decide +kernel
theorem kd_Mo_swap_22 : decode prog_8_method_21_code 22 = .ok (.ireturn, 1) := by decide +kernel
theorem kd_Mo_swap_23 : decode prog_8_method_21_code 23 = .ok (.bipush 12, 2) := by decide +kernel
theorem kd_Mo_swap_25 : decode prog_8_method_21_code 25 = .ok (.iload_n 1, 1) := by decide +kernel
theorem kd_Mo_swap_26 : decode prog_8_method_21_code 26 = .ok (.imul, 1) := by decide +kernel
theorem kd_Mo_swap_27 : decode prog_8_method_21_code 27 = .ok (.iload_n 2, 1) := by decide +kernel
theorem kd_Mo_swap_28 : decode prog_8_method_21_code 28 = .ok (.iadd, 1) := by decide +kernel
theorem kd_Mo_swap_29 : decode prog_8_method_21_code 29 = .ok (.istore_n 3, 1) := by decide +kernel
theorem kd_Mo_swap_30 : decode prog_8_method_21_code 30 = .ok (.iconst 0, 1) := by decide +kernel
theorem kd_Mo_swap_31 : decode prog_8_method_21_code 31 = .ok (.istore 4, 2) := by decide +kernel
theorem kd_Mo_swap_33 : decode prog_8_method_21_code 33 = .ok (.iload 4, 2) := by decide +kernel
theorem kd_Mo_swap_35 : decode prog_8_method_21_code 35 = .ok (.bipush 40, 2) := by decide +kernel
theorem kd_Mo_swap_37 : decode prog_8_method_21_code 37 = .ok (.if_icmp .ge 67, 3) := by decide +kernel
theorem kd_Mo_swap_40 : decode prog_8_method_21_code 40 = .ok (.aload_n 0, 1) := by decide +kernel
theorem kd_Mo_swap_41 : decode prog_8_method_21_code 41 = .ok (.getfield 51, 3) := by decide +kernel
theorem kd_Mo_swap_44 : decode prog_8_method_21_code 44 = .ok (.bipush 40, 2) := by decide +kernel
theorem kd_Mo_swap_46 : decode prog_8_method_21_code 46 = .ok (.iload_n 3, 1) := by decide +kernel
theorem kd_Mo_swap_47 : decode prog_8_method_21_code 47 = .ok (.imul, 1) := by decide +kernel
theorem kd_Mo_swap_48 : decode prog_8_method_21_code 48 = .ok (.iload 4, 2) := by decide +kernel
theorem kd_Mo_swap_50 : decode prog_8_method_21_code 50 = .ok (.iadd, 1) := by decide +kernel
theorem kd_Mo_swap_51 : decode prog_8_method_21_code 51 = .ok (.iaload, 1) := by decide +kernel
theorem kd_Mo_swap_52 : decode prog_8_method_21_code 52 = .ok (.istore 5, 2) := by decide +kernel
theorem kd_Mo_swap_54 : decode prog_8_method_21_code 54 = .ok (.aload_n 0, 1) := by decide +kernel
theorem kd_Mo_swap_55 : decode prog_8_method_21_code 55 = .ok (.getfield 51, 3) := by decide +kernel
theorem kd_Mo_swap_58 : decode prog_8_method_21_code 58 = .ok (.bipush 40, 2) := by decide +kernel
theorem kd_Mo_swap_60 : decode prog_8_method_21_code 60 = .ok (.iload_n 3, 1) := by decide +kernel
theorem kd_Mo_swap_61 : decode prog_8_method_21_code 61 = .ok (.imul, 1) := by decide +kernel
theorem kd_Mo_swap_62 : decode prog_8_method_21_code 62 = .ok (.iload 4, 2) := by decide +kernel
theorem kd_Mo_swap_64 : decode prog_8_method_21_code 64 = .ok (.iadd, 1) := by decide +kernel
theorem kd_Mo_swap_65 : decode prog_8_method_21_code 65 = .ok (.aload_n 0, 1) := by decide +kernel
theorem kd_Mo_swap_66 : decode prog_8_method_21_code 66 = .ok (.getfield 51, 3) := by decide +kernel
theorem kd_Mo_swap_69 : decode prog_8_method_21_code 69 = .ok (.bipush 40, 2) := by decide +kernel
theorem kd_Mo_swap_71 : decode prog_8_method_21_code 71 = .ok (.iload_n 3, 1) := by decide +kernel
theorem kd_Mo_swap_72 : decode prog_8_method_21_code 72 = .ok (.imul, 1) := by decide +kernel
theorem kd_Mo_swap_73 : decode prog_8_method_21_code 73 = .ok (.bipush 40, 2) := by decide +kernel
theorem kd_Mo_swap_75 : decode prog_8_method_21_code 75 = .ok (.iadd, 1) := by decide +kernel
theorem kd_Mo_swap_76 : decode prog_8_method_21_code 76 = .ok (.iload 4, 2) := by decide +kernel
theorem kd_Mo_swap_78 : decode prog_8_method_21_code 78 = .ok (.iadd, 1) := by decide +kernel
theorem kd_Mo_swap_79 : decode prog_8_method_21_code 79 = .ok (.iaload, 1) := by decide +kernel
theorem kd_Mo_swap_80 : decode prog_8_method_21_code 80 = .ok (.iastore, 1) := by decide +kernel
theorem kd_Mo_swap_81 : decode prog_8_method_21_code 81 = .ok (.aload_n 0, 1) := by decide +kernel
theorem kd_Mo_swap_82 : decode prog_8_method_21_code 82 = .ok (.getfield 51, 3) := by decide +kernel
theorem kd_Mo_swap_85 : decode prog_8_method_21_code 85 = .ok (.bipush 40, 2) := by decide +kernel
theorem kd_Mo_swap_87 : decode prog_8_method_21_code 87 = .ok (.iload_n 3, 1) := by decide +kernel
theorem kd_Mo_swap_88 : decode prog_8_method_21_code 88 = .ok (.imul, 1) := by decide +kernel
theorem kd_Mo_swap_89 : decode prog_8_method_21_code 89 = .ok (.bipush 40, 2) := by decide +kernel
theorem kd_Mo_swap_91 : decode prog_8_method_21_code 91 = .ok (.iadd, 1) := by decide +kernel
theorem kd_Mo_swap_92 : decode prog_8_method_21_code 92 = .ok (.iload 4, 2) := by decide +kernel
theorem kd_Mo_swap_94 : decode prog_8_method_21_code 94 = .ok (.iadd, 1) := by decide +kernel
theorem kd_Mo_swap_95 : decode prog_8_method_21_code 95 = .ok (.iload 5, 2) := by decide +kernel
theorem kd_Mo_swap_97 : decode prog_8_method_21_code 97 = .ok (.iastore, 1) := by decide +kernel
theorem kd_Mo_swap_98 : decode prog_8_method_21_code 98 = .ok (.iinc 4 1, 3) := by decide +kernel
theorem kd_Mo_swap_101 : decode prog_8_method_21_code 101 = .ok (.goto (-68), 3) := by decide +kernel
theorem kd_Mo_swap_104 : decode prog_8_method_21_code 104 = .ok (.aload_n 0, 1) := by decide +kernel
theorem kd_Mo_swap_105 : decode prog_8_method_21_code 105 = .ok (.getfield 45, 3) := by decide +kernel
theorem kd_Mo_swap_108 : decode prog_8_method_21_code 108 = .ok (.iload_n 3, 1) := by decide +kernel
theorem kd_Mo_swap_109 : decode prog_8_method_21_code 109 = .ok (.iaload, 1) := by decide +kernel
theorem kd_Mo_swap_110 : decode prog_8_method_21_code 110 = .ok (.istore 4, 2) := by decide +kernel
theorem kd_Mo_swap_112 : decode prog_8_method_21_code 112 = .ok (.aload_n 0, 1) := by decide +kernel
theorem kd_Mo_swap_113 : decode prog_8_method_21_code 113 = .ok (.getfield 45, 3) := by decide +kernel
theorem kd_Mo_swap_116 : decode prog_8_method_21_code 116 = .ok (.iload_n 3, 1) := by decide +kernel
theorem kd_Mo_swap_117 : decode prog_8_method_21_code 117 = .ok (.aload_n 0, 1) := by decide +kernel
theorem kd_Mo_swap_118 : decode prog_8_method_21_code 118 = .ok (.getfield 45, 3) := by decide +kernel
theorem kd_Mo_swap_121 : decode prog_8_method_21_code 121 = .ok (.iload_n 3, 1) := by decide +kernel
theorem kd_Mo_swap_122 : decode prog_8_method_21_code 122 = .ok (.iconst 1, 1) := by decide +kernel
theorem kd_Mo_swap_123 : decode prog_8_method_21_code 123 = .ok (.iadd, 1) := by decide +kernel
theorem kd_Mo_swap_124 : decode prog_8_method_21_code 124 = .ok (.iaload, 1) := by decide +kernel
theorem kd_Mo_swap_125 : decode prog_8_method_21_code 125 = .ok (.iastore, 1) := by decide +kernel
theorem kd_Mo_swap_126 : decode prog_8_method_21_code 126 = .ok (.aload_n 0, 1) := by decide +kernel
theorem kd_Mo_swap_127 : decode prog_8_method_21_code 127 = .ok (.getfield 45, 3) := by decide +kernel
theorem kd_Mo_swap_130 : decode prog_8_method_21_code 130 = .ok (.iload_n 3, 1) := by decide +kernel
theorem kd_Mo_swap_131 : decode prog_8_method_21_code 131 = .ok (.iconst 1, 1) := by decide +kernel
theorem kd_Mo_swap_132 : decode prog_8_method_21_code 132 = .ok (.iadd, 1) := by decide +kernel
theorem kd_Mo_swap_133 : decode prog_8_method_21_code 133 = .ok (.iload 4, 2) := by decide +kernel
theorem kd_Mo_swap_135 : decode prog_8_method_21_code 135 = .ok (.iastore, 1) := by decide +kernel
theorem kd_Mo_swap_136 : decode prog_8_method_21_code 136 = .ok (.aload_n 0, 1) := by decide +kernel
theorem kd_Mo_swap_137 : decode prog_8_method_21_code 137 = .ok (.getfield 48, 3) := by decide +kernel
theorem kd_Mo_swap_140 : decode prog_8_method_21_code 140 = .ok (.iload_n 3, 1) := by decide +kernel
theorem kd_Mo_swap_141 : decode prog_8_method_21_code 141 = .ok (.iaload, 1) := by decide +kernel
theorem kd_Mo_swap_142 : decode prog_8_method_21_code 142 = .ok (.istore 5, 2) := by decide +kernel
theorem kd_Mo_swap_144 : decode prog_8_method_21_code 144 = .ok (.aload_n 0, 1) := by decide +kernel
theorem kd_Mo_swap_145 : decode prog_8_method_21_code 145 = .ok (.getfield 48, 3) := by decide +kernel
theorem kd_Mo_swap_148 : decode prog_8_method_21_code 148 = .ok (.iload_n 3, 1) := by decide +kernel
theorem kd_Mo_swap_149 : decode prog_8_method_21_code 149 = .ok (.aload_n 0, 1) := by decide +kernel
theorem kd_Mo_swap_150 : decode prog_8_method_21_code 150 = .ok (.getfield 48, 3) := by decide +kernel
theorem kd_Mo_swap_153 : decode prog_8_method_21_code 153 = .ok (.iload_n 3, 1) := by decide +kernel
theorem kd_Mo_swap_154 : decode prog_8_method_21_code 154 = .ok (.iconst 1, 1) := by decide +kernel
theorem kd_Mo_swap_155 : decode prog_8_method_21_code 155 = .ok (.iadd, 1) := by decide +kernel
theorem kd_Mo_swap_156 : decode prog_8_method_21_code 156 = .ok (.iaload, 1) := by decide +kernel
theorem kd_Mo_swap_157 : decode prog_8_method_21_code 157 = .ok (.iastore, 1) := by decide +kernel
theorem kd_Mo_swap_158 : decode prog_8_method_21_code 158 = .ok (.aload_n 0, 1) := by decide +kernel
theorem kd_Mo_swap_159 : decode prog_8_method_21_code 159 = .ok (.getfield 48, 3) := by decide +kernel
theorem kd_Mo_swap_162 : decode prog_8_method_21_code 162 = .ok (.iload_n 3, 1) := by decide +kernel
theorem kd_Mo_swap_163 : decode prog_8_method_21_code 163 = .ok (.iconst 1, 1) := by decide +kernel
theorem kd_Mo_swap_164 : decode prog_8_method_21_code 164 = .ok (.iadd, 1) := by decide +kernel
theorem kd_Mo_swap_165 : decode prog_8_method_21_code 165 = .ok (.iload 5, 2) := by decide +kernel
theorem kd_Mo_swap_167 : decode prog_8_method_21_code 167 = .ok (.iastore, 1) := by decide +kernel
theorem kd_Mo_swap_168 : decode prog_8_method_21_code 168 = .ok (.iconst 1, 1) := by decide +kernel
theorem kd_Mo_swap_169 : decode prog_8_method_21_code 169 = .ok (.ireturn, 1) := by decide +kernel
def kb_Mo_swap_33 (Po : Option Value → qa_M → Prop) (k33 : qa_K) : qa_K := (qi_iload 4 (qi_ic (nI 40) (qi_icge (qi_aload 0 (qi_gp 7 204 (qi_iload 3 (qi_iald 1204 (qi_istore 4 (qi_aload 0 (qi_gp 7 204 (qi_iload 3 (qi_aload 0 (qi_gp 7 204 (qi_iload 3 (qi_ic (nI 1) (qi_iadd (qi_iald 1204 (qi_iast 1204 (qi_aload 0 (qi_gp 7 204 (qi_iload 3 (qi_ic (nI 1) (qi_iadd (qi_iload 4 (qi_iast 1204 (qi_aload 0 (qi_gp 7 205 (qi_iload 3 (qi_iald 1205 (qi_istore 5 (qi_aload 0 (qi_gp 7 205 (qi_iload 3 (qi_aload 0 (qi_gp 7 205 (qi_iload 3 (qi_ic (nI 1) (qi_iadd (qi_iald 1205 (qi_iast 1205 (qi_aload 0 (qi_gp 7 205 (qi_iload 3 (qi_ic (nI 1) (qi_iadd (qi_iload 5 (qi_iast 1205 (qi_ic (nI 1) (qi_zret (0, 0) Po)))))))))))))))))))))))))))))))))))))))))))))) (qi_aload 0 (qi_gp 7 206 (qi_ic (nI 40) (qi_iload 3 (qi_imul (qi_iload 4 (qi_iadd (qi_iald 1206 (qi_istore 5 (qi_aload 0 (qi_gp 7 206 (qi_ic (nI 40) (qi_iload 3 (qi_imul (qi_iload 4 (qi_iadd (qi_aload 0 (qi_gp 7 206 (qi_ic (nI 40) (qi_iload 3 (qi_imul (qi_ic (nI 40) (qi_iadd (qi_iload 4 (qi_iadd (qi_iald 1206 (qi_iast 1206 (qi_aload 0 (qi_gp 7 206 (qi_ic (nI 40) (qi_iload 3 (qi_imul (qi_ic (nI 40) (qi_iadd (qi_iload 4 (qi_iadd (qi_iload 5 (qi_iast 1206 (qi_iinc 4 (nI 1) k33))))))))))))))))))))))))))))))))))))))))))
def kc_Mo_swap_33 (Po : Option Value → qa_M → Prop) : qa_K := qi_loop (kb_Mo_swap_33 Po)
def kc_Mo_swap_21 (Po : Option Value → qa_M → Prop) : qa_K := (qi_ic (nI 0) (qi_zret (0, 0) Po))
def kc_Mo_swap_0 (Po : Option Value → qa_M → Prop) : qa_K := (qi_aload 0 (qi_iload 1 (qi_iload 2 (qi_callv 3 7 (0, 0) sp_Mo_isRecord (qi_ifeq (kc_Mo_swap_21 Po) (qi_iload 2 (qi_aload 0 (qi_gp 7 203 (qi_iload 1 (qi_iald 1203 (qi_ic (nI 1) (qi_isub (qi_icne (qi_ic (nI 12) (qi_iload 1 (qi_imul (qi_iload 2 (qi_iadd (qi_istore 3 (qi_ic (nI 0) (qi_istore 4 (kc_Mo_swap_33 Po))))))))) (kc_Mo_swap_21 Po))))))))))))))
abbrev kS_Mo_swap (l : Launch) (D : va_G) (E : Nat → ClassId) (B : Nat) (sc : qa_Z) (Po : Option Value → qa_M → Prop) (pc : Nat) (k : qa_K) : Prop := qa_S l "SealedRecordsModel" prog_8_method_21_code 6 (some .boolean) false D E B rm_Mo_swap sc (qa_Qf D E B rm_Mo_swap Po) pc k
theorem kt_Mo_swap_33 (l : Launch) (D : va_G) (E : Nat → ClassId) (B : Nat) (sc : qa_Z) (Po : Option Value → qa_M → Prop) {k33 : qa_K} (hk33 : kS_Mo_swap l D E B sc Po 33 k33) : kS_Mo_swap l D E B sc Po 33 (kb_Mo_swap_33 Po k33) := (qs_iload kd_Mo_swap_33 (qs_bipush kd_Mo_swap_35 (by decide) (qs_icge (tgt := 104) kd_Mo_swap_37 (by decide) (qs_aload_n kd_Mo_swap_104 rfl (fg_204 ww_289 kd_Mo_swap_105 (qs_iload_n kd_Mo_swap_108 rfl (qs_iald (κ := 1204) rfl (by decide) kd_Mo_swap_109 (qs_istore kd_Mo_swap_110 (by decide) (qs_aload_n kd_Mo_swap_112 rfl (fg_204 ww_289 kd_Mo_swap_113 (qs_iload_n kd_Mo_swap_116 rfl (qs_aload_n kd_Mo_swap_117 rfl (fg_204 ww_289 kd_Mo_swap_118 (qs_iload_n kd_Mo_swap_121 rfl (qs_iconst kd_Mo_swap_122 (by decide) (qs_iadd kd_Mo_swap_123 (qs_iald (κ := 1204) rfl (by decide) kd_Mo_swap_124 (qs_iast (κ := 1204) rfl (by decide) kd_Mo_swap_125 (qs_aload_n kd_Mo_swap_126 rfl (fg_204 ww_289 kd_Mo_swap_127 (qs_iload_n kd_Mo_swap_130 rfl (qs_iconst kd_Mo_swap_131 (by decide) (qs_iadd kd_Mo_swap_132 (qs_iload kd_Mo_swap_133 (qs_iast (κ := 1204) rfl (by decide) kd_Mo_swap_135 (qs_aload_n kd_Mo_swap_136 rfl (fg_205 ww_290 kd_Mo_swap_137 (qs_iload_n kd_Mo_swap_140 rfl (qs_iald (κ := 1205) rfl (by decide) kd_Mo_swap_141 (qs_istore kd_Mo_swap_142 (by decide) (qs_aload_n kd_Mo_swap_144 rfl (fg_205 ww_290 kd_Mo_swap_145 (qs_iload_n kd_Mo_swap_148 rfl (qs_aload_n kd_Mo_swap_149 rfl (fg_205 ww_290 kd_Mo_swap_150 (qs_iload_n kd_Mo_swap_153 rfl (qs_iconst kd_Mo_swap_154 (by decide) (qs_iadd kd_Mo_swap_155 (qs_iald (κ := 1205) rfl (by decide) kd_Mo_swap_156 (qs_iast (κ := 1205) rfl (by decide) kd_Mo_swap_157 (qs_aload_n kd_Mo_swap_158 rfl (fg_205 ww_290 kd_Mo_swap_159 (qs_iload_n kd_Mo_swap_162 rfl (qs_iconst kd_Mo_swap_163 (by decide) (qs_iadd kd_Mo_swap_164 (qs_iload kd_Mo_swap_165 (qs_iast (κ := 1205) rfl (by decide) kd_Mo_swap_167 (qs_iconst kd_Mo_swap_168 (by decide) (qs_zret kd_Mo_swap_169)))))))))))))))))))))))))))))))))))))))))))))) (qs_aload_n kd_Mo_swap_40 rfl (fg_206 ww_291 kd_Mo_swap_41 (qs_bipush kd_Mo_swap_44 (by decide) (qs_iload_n kd_Mo_swap_46 rfl (qs_imul kd_Mo_swap_47 (qs_iload kd_Mo_swap_48 (qs_iadd kd_Mo_swap_50 (qs_iald (κ := 1206) rfl (by decide) kd_Mo_swap_51 (qs_istore kd_Mo_swap_52 (by decide) (qs_aload_n kd_Mo_swap_54 rfl (fg_206 ww_291 kd_Mo_swap_55 (qs_bipush kd_Mo_swap_58 (by decide) (qs_iload_n kd_Mo_swap_60 rfl (qs_imul kd_Mo_swap_61 (qs_iload kd_Mo_swap_62 (qs_iadd kd_Mo_swap_64 (qs_aload_n kd_Mo_swap_65 rfl (fg_206 ww_291 kd_Mo_swap_66 (qs_bipush kd_Mo_swap_69 (by decide) (qs_iload_n kd_Mo_swap_71 rfl (qs_imul kd_Mo_swap_72 (qs_bipush kd_Mo_swap_73 (by decide) (qs_iadd kd_Mo_swap_75 (qs_iload kd_Mo_swap_76 (qs_iadd kd_Mo_swap_78 (qs_iald (κ := 1206) rfl (by decide) kd_Mo_swap_79 (qs_iast (κ := 1206) rfl (by decide) kd_Mo_swap_80 (qs_aload_n kd_Mo_swap_81 rfl (fg_206 ww_291 kd_Mo_swap_82 (qs_bipush kd_Mo_swap_85 (by decide) (qs_iload_n kd_Mo_swap_87 rfl (qs_imul kd_Mo_swap_88 (qs_bipush kd_Mo_swap_89 (by decide) (qs_iadd kd_Mo_swap_91 (qs_iload kd_Mo_swap_92 (qs_iadd kd_Mo_swap_94 (qs_iload kd_Mo_swap_95 (qs_iast (κ := 1206) rfl (by decide) kd_Mo_swap_97 (qs_iinc kd_Mo_swap_98 (by decide) (by decide) (qs_goto (tgt := 33) kd_Mo_swap_101 (by decide) hk33)))))))))))))))))))))))))))))))))))))))))))
theorem ks_Mo_swap_33 (l : Launch) (D : va_G) (E : Nat → ClassId) (B : Nat) (sc : qa_Z) (Po : Option Value → qa_M → Prop) : kS_Mo_swap l D E B sc Po 33 (kc_Mo_swap_33 Po) := qs_loop fun k33 hk33 => kt_Mo_swap_33 l D E B sc Po hk33
theorem ks_Mo_swap_21 (l : Launch) (D : va_G) (E : Nat → ClassId) (B : Nat) (sc : qa_Z) (Po : Option Value → qa_M → Prop) : kS_Mo_swap l D E B sc Po 21 (kc_Mo_swap_21 Po) := (qs_iconst kd_Mo_swap_21 (by decide) (qs_zret kd_Mo_swap_22))
theorem ks_Mo_swap_0 (l : Launch) (D : va_G) (E : Nat → ClassId) (B : Nat) (sc : qa_Z) (Po : Option Value → qa_M → Prop) : kS_Mo_swap l D E B sc Po 0 (kc_Mo_swap_0 Po) := (qs_aload_n kd_Mo_swap_0 rfl (qs_iload_n kd_Mo_swap_1 rfl (qs_iload_n kd_Mo_swap_2 rfl (qs_callv (ci := 6) (ct_Mo_isRecord l sc) ww_340 (by decide) rfl (by decide) ww_341 ww_342 ww_343 ww_13 yd_Mo_isRecord kd_Mo_swap_3 (qs_ifeq (tgt := 21) kd_Mo_swap_6 (by decide) (ks_Mo_swap_21 l D E B sc Po) (qs_iload_n kd_Mo_swap_9 rfl (qs_aload_n kd_Mo_swap_10 rfl (fg_203 ww_288 kd_Mo_swap_11 (qs_iload_n kd_Mo_swap_14 rfl (qs_iald (κ := 1203) rfl (by decide) kd_Mo_swap_15 (qs_iconst kd_Mo_swap_16 (by decide) (qs_isub kd_Mo_swap_17 (qs_icne (tgt := 23) kd_Mo_swap_18 (by decide) (qs_bipush kd_Mo_swap_23 (by decide) (qs_iload_n kd_Mo_swap_25 rfl (qs_imul kd_Mo_swap_26 (qs_iload_n kd_Mo_swap_27 rfl (qs_iadd kd_Mo_swap_28 (qs_istore_n kd_Mo_swap_29 rfl (by decide) (qs_iconst kd_Mo_swap_30 (by decide) (qs_istore kd_Mo_swap_31 (by decide) (ks_Mo_swap_33 l D E B sc Po))))))))) (ks_Mo_swap_21 l D E B sc Po))))))))))))))
def sp_Mo_swap : qa_sp := fun args M Po => match args with
  | [.ref a0, .int a1, .int a2] => kc_Mo_swap_0 Po (0, 0) [some (.ref a0), some (.int a1), some (.int a2), none, none, none] [] M
  | _ => False
theorem ct_Mo_swap (l : Launch) (sc : qa_Z) : qa_T l ym_Mo_swap (Cond.code ym_Mo_swap prog_8_method_21_code 6 (some .boolean) :: q_W0) rm_Mo_swap sc (sp_Mo_swap) := by
  intro D E B args M Po h
  unfold sp_Mo_swap at h
  split at h
  · exact qa_ct (ini := false) (by decide) (by decide) (Nat.le_of_ble_eq_true rfl) (qa_lvok rfl) (ks_Mo_swap_0 l D E B sc Po) h
  · exact h.elim
theorem kd_Mo_inject_0 : decode prog_8_method_22_code 0 = .ok (.iload_n 1, 1) := by decide +kernel
theorem kd_Mo_inject_1 : decode prog_8_method_22_code 1 = .ok (.invokestatic 83, 3) := by decide +kernel
theorem kd_Mo_inject_4 : decode prog_8_method_22_code 4 = .ok (.ifCond .eq 39, 3) := by decide +kernel
theorem kd_Mo_inject_7 : decode prog_8_method_22_code 7 = .ok (.iload_n 2, 1) := by decide +kernel
theorem kd_Mo_inject_8 : decode prog_8_method_22_code 8 = .ok (.invokestatic 107, 3) := by decide +kernel
theorem kd_Mo_inject_11 : decode prog_8_method_22_code 11 = .ok (.ifCond .eq 32, 3) := by decide +kernel
theorem kd_Mo_inject_14 : decode prog_8_method_22_code 14 = .ok (.iload 4, 2) := by decide +kernel
theorem kd_Mo_inject_16 : decode prog_8_method_22_code 16 = .ok (.invokestatic 107, 3) := by decide +kernel
theorem kd_Mo_inject_19 : decode prog_8_method_22_code 19 = .ok (.ifCond .eq 24, 3) := by decide +kernel
theorem kd_Mo_inject_22 : decode prog_8_method_22_code 22 = .ok (.iload_n 3, 1) := by decide +kernel
theorem kd_Mo_inject_23 : decode prog_8_method_22_code 23 = .ok (.ifCond .lt 20, 3) := by decide +kernel
theorem kd_Mo_inject_26 : decode prog_8_method_22_code 26 = .ok (.iload_n 3, 1) := by decide +kernel
theorem kd_Mo_inject_27 : decode prog_8_method_22_code 27 = .ok (.bipush 40, 2) := by decide +kernel
theorem kd_Mo_inject_29 : decode prog_8_method_22_code 29 = .ok (.if_icmp .gt 14, 3) := by decide +kernel
theorem kd_Mo_inject_32 : decode prog_8_method_22_code 32 = .ok (.aload_n 0, 1) := by decide +kernel
theorem kd_Mo_inject_33 : decode prog_8_method_22_code 33 = .ok (.getfield 42, 3) := by decide +kernel
theorem kd_Mo_inject_36 : decode prog_8_method_22_code 36 = .ok (.iload_n 1, 1) := by decide +kernel
theorem kd_Mo_inject_37 : decode prog_8_method_22_code 37 = .ok (.iaload, 1) := by decide +kernel
theorem kd_Mo_inject_38 : decode prog_8_method_22_code 38 = .ok (.bipush 12, 2) := by decide +kernel
theorem kd_Mo_inject_40 : decode prog_8_method_22_code 40 = .ok (.if_icmp .ne 5, 3) := by decide +kernel
theorem kd_Mo_inject_43 : decode prog_8_method_22_code 43 = .ok (.iconst 0, 1) := by decide +kernel
theorem kd_Mo_inject_44 : decode prog_8_method_22_code 44 = .ok (.ireturn, 1) := by decide +kernel
theorem kd_Mo_inject_45 : decode prog_8_method_22_code 45 = .ok (.bipush 12, 2) := by decide +kernel
theorem kd_Mo_inject_47 : decode prog_8_method_22_code 47 = .ok (.iload_n 1, 1) := by decide +kernel
theorem kd_Mo_inject_48 : decode prog_8_method_22_code 48 = .ok (.imul, 1) := by decide +kernel
theorem kd_Mo_inject_49 : decode prog_8_method_22_code 49 = .ok (.aload_n 0, 1) := by decide +kernel
theorem kd_Mo_inject_50 : decode prog_8_method_22_code 50 = .ok (.getfield 42, 3) := by decide +kernel
theorem kd_Mo_inject_53 : decode prog_8_method_22_code 53 = .ok (.iload_n 1, 1) := by decide +kernel
theorem kd_Mo_inject_54 : decode prog_8_method_22_code 54 = .ok (.iaload, 1) := by decide +kernel
theorem kd_Mo_inject_55 : decode prog_8_method_22_code 55 = .ok (.iadd, 1) := by decide +kernel
theorem kd_Mo_inject_56 : decode prog_8_method_22_code 56 = .ok (.istore 5, 2) := by decide +kernel
theorem kd_Mo_inject_58 : decode prog_8_method_22_code 58 = .ok (.aload_n 0, 1) := by decide +kernel
theorem kd_Mo_inject_59 : decode prog_8_method_22_code 59 = .ok (.getfield 45, 3) := by decide +kernel
theorem kd_Mo_inject_62 : decode prog_8_method_22_code 62 = .ok (.iload 5, 2) := by decide +kernel
theorem kd_Mo_inject_64 : decode prog_8_method_22_code 64 = .ok (.iload_n 2, 1) := by decide +kernel
theorem kd_Mo_inject_65 : decode prog_8_method_22_code 65 = .ok (.iastore, 1) := by decide +kernel
theorem kd_Mo_inject_66 : decode prog_8_method_22_code 66 = .ok (.aload_n 0, 1) := by decide +kernel
theorem kd_Mo_inject_67 : decode prog_8_method_22_code 67 = .ok (.getfield 48, 3) := by decide +kernel
theorem kd_Mo_inject_70 : decode prog_8_method_22_code 70 = .ok (.iload 5, 2) := by decide +kernel
theorem kd_Mo_inject_72 : decode prog_8_method_22_code 72 = .ok (.iload_n 3, 1) := by decide +kernel
theorem kd_Mo_inject_73 : decode prog_8_method_22_code 73 = .ok (.iastore, 1) := by decide +kernel
theorem kd_Mo_inject_74 : decode prog_8_method_22_code 74 = .ok (.iconst 0, 1) := by decide +kernel
theorem kd_Mo_inject_75 : decode prog_8_method_22_code 75 = .ok (.istore 6, 2) := by decide +kernel
theorem kd_Mo_inject_77 : decode prog_8_method_22_code 77 = .ok (.iload 6, 2) := by decide +kernel
theorem kd_Mo_inject_79 : decode prog_8_method_22_code 79 = .ok (.iload_n 3, 1) := by decide +kernel
theorem kd_Mo_inject_80 : decode prog_8_method_22_code 80 = .ok (.if_icmp .ge 24, 3) := by decide +kernel
theorem kd_Mo_inject_83 : decode prog_8_method_22_code 83 = .ok (.aload_n 0, 1) := by decide +kernel
theorem kd_Mo_inject_84 : decode prog_8_method_22_code 84 = .ok (.getfield 51, 3) := by decide +kernel
theorem kd_Mo_inject_87 : decode prog_8_method_22_code 87 = .ok (.bipush 40, 2) := by decide +kernel
theorem kd_Mo_inject_89 : decode prog_8_method_22_code 89 = .ok (.iload 5, 2) := by decide +kernel
theorem kd_Mo_inject_91 : decode prog_8_method_22_code 91 = .ok (.imul, 1) := by decide +kernel
theorem kd_Mo_inject_92 : decode prog_8_method_22_code 92 = .ok (.iload 6, 2) := by decide +kernel
theorem kd_Mo_inject_94 : decode prog_8_method_22_code 94 = .ok (.iadd, 1) := by decide +kernel
theorem kd_Mo_inject_95 : decode prog_8_method_22_code 95 = .ok (.iload 4, 2) := by decide +kernel
theorem kd_Mo_inject_97 : decode prog_8_method_22_code 97 = .ok (.iastore, 1) := by decide +kernel
theorem kd_Mo_inject_98 : decode prog_8_method_22_code 98 = .ok (.iinc 6 1, 3) := by decide +kernel
theorem kd_Mo_inject_101 : decode prog_8_method_22_code 101 = .ok (.goto (-24), 3) := by decide +kernel
theorem kd_Mo_inject_104 : decode prog_8_method_22_code 104 = .ok (.aload_n 0, 1) := by decide +kernel
theorem kd_Mo_inject_105 : decode prog_8_method_22_code 105 = .ok (.getfield 42, 3) := by decide +kernel
theorem kd_Mo_inject_108 : decode prog_8_method_22_code 108 = .ok (.iload_n 1, 1) := by decide +kernel
theorem kd_Mo_inject_109 : decode prog_8_method_22_code 109 = .ok (.dup2, 1) := by decide +kernel
theorem kd_Mo_inject_110 : decode prog_8_method_22_code 110 = .ok (.iaload, 1) := by decide +kernel
theorem kd_Mo_inject_111 : decode prog_8_method_22_code 111 = .ok (.iconst 1, 1) := by decide +kernel
theorem kd_Mo_inject_112 : decode prog_8_method_22_code 112 = .ok (.iadd, 1) := by decide +kernel
theorem kd_Mo_inject_113 : decode prog_8_method_22_code 113 = .ok (.iastore, 1) := by decide +kernel
theorem kd_Mo_inject_114 : decode prog_8_method_22_code 114 = .ok (.iconst 1, 1) := by decide +kernel
theorem kd_Mo_inject_115 : decode prog_8_method_22_code 115 = .ok (.ireturn, 1) := by decide +kernel
def kb_Mo_inject_77 (Po : Option Value → qa_M → Prop) (k77 : qa_K) : qa_K := (qi_iload 6 (qi_iload 3 (qi_icge (qi_aload 0 (qi_gp 7 203 (qi_iload 1 (qi_dup2 (qi_iald 1203 (qi_ic (nI 1) (qi_iadd (qi_iast 1203 (qi_ic (nI 1) (qi_zret (0, 0) Po)))))))))) (qi_aload 0 (qi_gp 7 206 (qi_ic (nI 40) (qi_iload 5 (qi_imul (qi_iload 6 (qi_iadd (qi_iload 4 (qi_iast 1206 (qi_iinc 6 (nI 1) k77)))))))))))))
def kc_Mo_inject_77 (Po : Option Value → qa_M → Prop) : qa_K := qi_loop (kb_Mo_inject_77 Po)
def kc_Mo_inject_43 (Po : Option Value → qa_M → Prop) : qa_K := (qi_ic (nI 0) (qi_zret (0, 0) Po))
def kc_Mo_inject_0 (Po : Option Value → qa_M → Prop) : qa_K := (qi_iload 1 (qi_call 1 (0, 0) sp_Mo_isEnd (qi_ifeq (kc_Mo_inject_43 Po) (qi_iload 2 (qi_call 1 (0, 0) sp_Mo_isByte (qi_ifeq (kc_Mo_inject_43 Po) (qi_iload 4 (qi_call 1 (0, 0) sp_Mo_isByte (qi_ifeq (kc_Mo_inject_43 Po) (qi_iload 3 (qi_iflt (kc_Mo_inject_43 Po) (qi_iload 3 (qi_ic (nI 40) (qi_icgt (kc_Mo_inject_43 Po) (qi_aload 0 (qi_gp 7 203 (qi_iload 1 (qi_iald 1203 (qi_ic (nI 12) (qi_icne (qi_ic (nI 12) (qi_iload 1 (qi_imul (qi_aload 0 (qi_gp 7 203 (qi_iload 1 (qi_iald 1203 (qi_iadd (qi_istore 5 (qi_aload 0 (qi_gp 7 204 (qi_iload 5 (qi_iload 2 (qi_iast 1204 (qi_aload 0 (qi_gp 7 205 (qi_iload 5 (qi_iload 3 (qi_iast 1205 (qi_ic (nI 0) (qi_istore 6 (kc_Mo_inject_77 Po)))))))))))))))))))))) (kc_Mo_inject_43 Po)))))))))))))))))))))
abbrev kS_Mo_inject (l : Launch) (D : va_G) (E : Nat → ClassId) (B : Nat) (sc : qa_Z) (Po : Option Value → qa_M → Prop) (pc : Nat) (k : qa_K) : Prop := qa_S l "SealedRecordsModel" prog_8_method_22_code 7 (some .boolean) false D E B rm_Mo_inject sc (qa_Qf D E B rm_Mo_inject Po) pc k
theorem kt_Mo_inject_77 (l : Launch) (D : va_G) (E : Nat → ClassId) (B : Nat) (sc : qa_Z) (Po : Option Value → qa_M → Prop) {k77 : qa_K} (hk77 : kS_Mo_inject l D E B sc Po 77 k77) : kS_Mo_inject l D E B sc Po 77 (kb_Mo_inject_77 Po k77) := (qs_iload kd_Mo_inject_77 (qs_iload_n kd_Mo_inject_79 rfl (qs_icge (tgt := 104) kd_Mo_inject_80 (by decide) (qs_aload_n kd_Mo_inject_104 rfl (fg_203 ww_288 kd_Mo_inject_105 (qs_iload_n kd_Mo_inject_108 rfl (qs_dup2 kd_Mo_inject_109 (qs_iald (κ := 1203) rfl (by decide) kd_Mo_inject_110 (qs_iconst kd_Mo_inject_111 (by decide) (qs_iadd kd_Mo_inject_112 (qs_iast (κ := 1203) rfl (by decide) kd_Mo_inject_113 (qs_iconst kd_Mo_inject_114 (by decide) (qs_zret kd_Mo_inject_115)))))))))) (qs_aload_n kd_Mo_inject_83 rfl (fg_206 ww_291 kd_Mo_inject_84 (qs_bipush kd_Mo_inject_87 (by decide) (qs_iload kd_Mo_inject_89 (qs_imul kd_Mo_inject_91 (qs_iload kd_Mo_inject_92 (qs_iadd kd_Mo_inject_94 (qs_iload kd_Mo_inject_95 (qs_iast (κ := 1206) rfl (by decide) kd_Mo_inject_97 (qs_iinc kd_Mo_inject_98 (by decide) (by decide) (qs_goto (tgt := 77) kd_Mo_inject_101 (by decide) hk77))))))))))))))
theorem ks_Mo_inject_77 (l : Launch) (D : va_G) (E : Nat → ClassId) (B : Nat) (sc : qa_Z) (Po : Option Value → qa_M → Prop) : kS_Mo_inject l D E B sc Po 77 (kc_Mo_inject_77 Po) := qs_loop fun k77 hk77 => kt_Mo_inject_77 l D E B sc Po hk77
theorem ks_Mo_inject_43 (l : Launch) (D : va_G) (E : Nat → ClassId) (B : Nat) (sc : qa_Z) (Po : Option Value → qa_M → Prop) : kS_Mo_inject l D E B sc Po 43 (kc_Mo_inject_43 Po) := (qs_iconst kd_Mo_inject_43 (by decide) (qs_zret kd_Mo_inject_44))
theorem ks_Mo_inject_0 (l : Launch) (D : va_G) (E : Nat → ClassId) (B : Nat) (sc : qa_Z) (Po : Option Value → qa_M → Prop) : kS_Mo_inject l D E B sc Po 0 (kc_Mo_inject_0 Po) := (qs_iload_n kd_Mo_inject_0 rfl (qs_calls (ct_Mo_isEnd l sc) ww_301 (by decide) (by decide) ww_302 ww_303 ww_13 yd_Mo_isEnd kd_Mo_inject_1 (qs_ifeq (tgt := 43) kd_Mo_inject_4 (by decide) (ks_Mo_inject_43 l D E B sc Po) (qs_iload_n kd_Mo_inject_7 rfl (qs_calls (ct_Mo_isByte l sc) ww_319 (by decide) (by decide) ww_320 ww_321 ww_13 yd_Mo_isByte kd_Mo_inject_8 (qs_ifeq (tgt := 43) kd_Mo_inject_11 (by decide) (ks_Mo_inject_43 l D E B sc Po) (qs_iload kd_Mo_inject_14 (qs_calls (ct_Mo_isByte l sc) ww_319 (by decide) (by decide) ww_320 ww_321 ww_13 yd_Mo_isByte kd_Mo_inject_16 (qs_ifeq (tgt := 43) kd_Mo_inject_19 (by decide) (ks_Mo_inject_43 l D E B sc Po) (qs_iload_n kd_Mo_inject_22 rfl (qs_iflt (tgt := 43) kd_Mo_inject_23 (by decide) (ks_Mo_inject_43 l D E B sc Po) (qs_iload_n kd_Mo_inject_26 rfl (qs_bipush kd_Mo_inject_27 (by decide) (qs_icgt (tgt := 43) kd_Mo_inject_29 (by decide) (ks_Mo_inject_43 l D E B sc Po) (qs_aload_n kd_Mo_inject_32 rfl (fg_203 ww_288 kd_Mo_inject_33 (qs_iload_n kd_Mo_inject_36 rfl (qs_iald (κ := 1203) rfl (by decide) kd_Mo_inject_37 (qs_bipush kd_Mo_inject_38 (by decide) (qs_icne (tgt := 45) kd_Mo_inject_40 (by decide) (qs_bipush kd_Mo_inject_45 (by decide) (qs_iload_n kd_Mo_inject_47 rfl (qs_imul kd_Mo_inject_48 (qs_aload_n kd_Mo_inject_49 rfl (fg_203 ww_288 kd_Mo_inject_50 (qs_iload_n kd_Mo_inject_53 rfl (qs_iald (κ := 1203) rfl (by decide) kd_Mo_inject_54 (qs_iadd kd_Mo_inject_55 (qs_istore kd_Mo_inject_56 (by decide) (qs_aload_n kd_Mo_inject_58 rfl (fg_204 ww_289 kd_Mo_inject_59 (qs_iload kd_Mo_inject_62 (qs_iload_n kd_Mo_inject_64 rfl (qs_iast (κ := 1204) rfl (by decide) kd_Mo_inject_65 (qs_aload_n kd_Mo_inject_66 rfl (fg_205 ww_290 kd_Mo_inject_67 (qs_iload kd_Mo_inject_70 (qs_iload_n kd_Mo_inject_72 rfl (qs_iast (κ := 1205) rfl (by decide) kd_Mo_inject_73 (qs_iconst kd_Mo_inject_74 (by decide) (qs_istore kd_Mo_inject_75 (by decide) (ks_Mo_inject_77 l D E B sc Po)))))))))))))))))))))) (ks_Mo_inject_43 l D E B sc Po)))))))))))))))))))))
def sp_Mo_inject : qa_sp := fun args M Po => match args with
  | [.ref a0, .int a1, .int a2, .int a3, .int a4] => kc_Mo_inject_0 Po (0, 0) [some (.ref a0), some (.int a1), some (.int a2), some (.int a3), some (.int a4), none, none] [] M
  | _ => False
theorem ct_Mo_inject (l : Launch) (sc : qa_Z) : qa_T l ym_Mo_inject (Cond.code ym_Mo_inject prog_8_method_22_code 7 (some .boolean) :: q_W0) rm_Mo_inject sc (sp_Mo_inject) := by
  intro D E B args M Po h
  unfold sp_Mo_inject at h
  split at h
  · exact qa_ct (ini := false) (by decide) (by decide) (Nat.le_of_ble_eq_true rfl) (qa_lvok rfl) (ks_Mo_inject_0 l D E B sc Po) h
  · exact h.elim
theorem kd_Mo_waiting_0 : decode prog_8_method_23_code 0 = .ok (.iload_n 1, 1) := by decide +kernel
theorem kd_Mo_waiting_1 : decode prog_8_method_23_code 1 = .ok (.invokestatic 83, 3) := by decide +kernel
theorem kd_Mo_waiting_4 : decode prog_8_method_23_code 4 = .ok (.ifCond .eq 12, 3) := by decide +kernel
theorem kd_Mo_waiting_7 : decode prog_8_method_23_code 7 = .ok (.aload_n 0, 1) := by decide +kernel
theorem kd_Mo_waiting_8 : decode prog_8_method_23_code 8 = .ok (.getfield 42, 3) := by decide +kernel
theorem kd_Mo_waiting_11 : decode prog_8_method_23_code 11 = .ok (.iload_n 1, 1) := by decide +kernel
theorem kd_Mo_waiting_12 : decode prog_8_method_23_code 12 = .ok (.iaload, 1) := by decide +kernel
theorem kd_Mo_waiting_13 : decode prog_8_method_23_code 13 = .ok (.goto 4, 3) := by decide +kernel
theorem kd_Mo_waiting_16 : decode prog_8_method_23_code 16 = .ok (.iconst (-1), 1) := by decide +kernel
theorem kd_Mo_waiting_17 : decode prog_8_method_23_code 17 = .ok (.ireturn, 1) := by decide +kernel
def kc_Mo_waiting_17 (Po : Option Value → qa_M → Prop) : qa_K := (qi_iret (0, 0) Po)
def kc_Mo_waiting_0 (Po : Option Value → qa_M → Prop) : qa_K := (qi_iload 1 (qi_call 1 (0, 0) sp_Mo_isEnd (qi_ifeq (qi_ic (-1) (kc_Mo_waiting_17 Po)) (qi_aload 0 (qi_gp 7 203 (qi_iload 1 (qi_iald 1203 (kc_Mo_waiting_17 Po))))))))
abbrev kS_Mo_waiting (l : Launch) (D : va_G) (E : Nat → ClassId) (B : Nat) (sc : qa_Z) (Po : Option Value → qa_M → Prop) (pc : Nat) (k : qa_K) : Prop := qa_S l "SealedRecordsModel" prog_8_method_23_code 2 (some .int) false D E B rm_Mo_waiting sc (qa_Qf D E B rm_Mo_waiting Po) pc k
theorem ks_Mo_waiting_17 (l : Launch) (D : va_G) (E : Nat → ClassId) (B : Nat) (sc : qa_Z) (Po : Option Value → qa_M → Prop) : kS_Mo_waiting l D E B sc Po 17 (kc_Mo_waiting_17 Po) := (qs_iret kd_Mo_waiting_17)
theorem ks_Mo_waiting_0 (l : Launch) (D : va_G) (E : Nat → ClassId) (B : Nat) (sc : qa_Z) (Po : Option Value → qa_M → Prop) : kS_Mo_waiting l D E B sc Po 0 (kc_Mo_waiting_0 Po) := (qs_iload_n kd_Mo_waiting_0 rfl (qs_calls (ct_Mo_isEnd l sc) ww_301 (by decide) (by decide) ww_302 ww_303 ww_13 yd_Mo_isEnd kd_Mo_waiting_1 (qs_ifeq (tgt := 16) kd_Mo_waiting_4 (by decide) (qs_iconst kd_Mo_waiting_16 (by decide) (ks_Mo_waiting_17 l D E B sc Po)) (qs_aload_n kd_Mo_waiting_7 rfl (fg_203 ww_288 kd_Mo_waiting_8 (qs_iload_n kd_Mo_waiting_11 rfl (qs_iald (κ := 1203) rfl (by decide) kd_Mo_waiting_12 (qs_goto (tgt := 17) kd_Mo_waiting_13 (by decide) (ks_Mo_waiting_17 l D E B sc Po)))))))))
def sp_Mo_waiting : qa_sp := fun args M Po => match args with
  | [.ref a0, .int a1] => kc_Mo_waiting_0 Po (0, 0) [some (.ref a0), some (.int a1)] [] M
  | _ => False
theorem ct_Mo_waiting (l : Launch) (sc : qa_Z) : qa_T l ym_Mo_waiting (Cond.code ym_Mo_waiting prog_8_method_23_code 2 (some .int) :: q_W0) rm_Mo_waiting sc (sp_Mo_waiting) := by
  intro D E B args M Po h
  unfold sp_Mo_waiting at h
  split at h
  · exact qa_ct (ini := false) (by decide) (by decide) (Nat.le_of_ble_eq_true rfl) (qa_lvok rfl) (ks_Mo_waiting_0 l D E B sc Po) h
  · exact h.elim
theorem kd_Mo_wire_0 : decode prog_8_method_24_code 0 = .ok (.aload_n 0, 1) := by decide +kernel
theorem kd_Mo_wire_1 : decode prog_8_method_24_code 1 = .ok (.iload_n 1, 1) := by decide +kernel
theorem kd_Mo_wire_2 : decode prog_8_method_24_code 2 = .ok (.iload_n 2, 1) := by decide +kernel
theorem kd_Mo_wire_3 : decode prog_8_method_24_code 3 = .ok (.invokevirtual 126, 3) := by decide +kernel
theorem kd_Mo_wire_6 : decode prog_8_method_24_code 6 = .ok (.ifCond .eq 23, 3) := by decide +kernel
theorem kd_Mo_wire_9 : decode prog_8_method_24_code 9 = .ok (.iload_n 3, 1) := by decide +kernel
theorem kd_Mo_wire_10 : decode prog_8_method_24_code 10 = .ok (.iconst (-1), 1) := by decide +kernel
theorem kd_Mo_wire_11 : decode prog_8_method_24_code 11 = .ok (.if_icmp .lt 18, 3) := by decide +kernel
theorem kd_Mo_wire_14 : decode prog_8_method_24_code 14 = .ok (.iload_n 3, 1) := by decide +kernel
theorem kd_Mo_wire_15 : decode prog_8_method_24_code 15 = .ok (.aload_n 0, 1) := by decide +kernel
theorem kd_Mo_wire_16 : decode prog_8_method_24_code 16 = .ok (.getfield 48, 3) := by decide +kernel
theorem kd_Mo_wire_19 : decode prog_8_method_24_code 19 = .ok (.bipush 12, 2) := by decide +kernel
theorem kd_Mo_wire_21 : decode prog_8_method_24_code 21 = .ok (.iload_n 1, 1) := by decide +kernel
theorem kd_Mo_wire_22 : decode prog_8_method_24_code 22 = .ok (.imul, 1) := by decide +kernel
theorem kd_Mo_wire_23 : decode prog_8_method_24_code 23 = .ok (.iload_n 2, 1) := by decide +kernel
theorem kd_Mo_wire_24 : decode prog_8_method_24_code 24 = .ok (.iadd, 1) := by decide +kernel
theorem kd_Mo_wire_25 : decode prog_8_method_24_code 25 = .ok (.iaload, 1) := by decide +kernel
theorem kd_Mo_wire_26 : decode prog_8_method_24_code 26 = .ok (.if_icmp .le 5, 3) := by decide +kernel
theorem kd_Mo_wire_29 : decode prog_8_method_24_code 29 = .ok (.iconst (-1), 1) := by decide +kernel
theorem kd_Mo_wire_30 : decode prog_8_method_24_code 30 = .ok (.ireturn, 1) := by decide +kernel
theorem kd_Mo_wire_31 : decode prog_8_method_24_code 31 = .ok (.bipush 12, 2) := by decide +kernel
theorem kd_Mo_wire_33 : decode prog_8_method_24_code 33 = .ok (.iload_n 1, 1) := by decide +kernel
theorem kd_Mo_wire_34 : decode prog_8_method_24_code 34 = .ok (.imul, 1) := by decide +kernel
theorem kd_Mo_wire_35 : decode prog_8_method_24_code 35 = .ok (.iload_n 2, 1) := by decide +kernel
theorem kd_Mo_wire_36 : decode prog_8_method_24_code 36 = .ok (.iadd, 1) := by decide +kernel
theorem kd_Mo_wire_37 : decode prog_8_method_24_code 37 = .ok (.istore 4, 2) := by decide +kernel
theorem kd_Mo_wire_39 : decode prog_8_method_24_code 39 = .ok (.iload_n 3, 1) := by decide +kernel
theorem kd_Mo_wire_40 : decode prog_8_method_24_code 40 = .ok (.iconst (-1), 1) := by decide +kernel
theorem kd_Mo_wire_41 : decode prog_8_method_24_code 41 = .ok (.if_icmp .ne 13, 3) := by decide +kernel
theorem kd_Mo_wire_44 : decode prog_8_method_24_code 44 = .ok (.aload_n 0, 1) := by decide +kernel
theorem kd_Mo_wire_45 : decode prog_8_method_24_code 45 = .ok (.getfield 48, 3) := by decide +kernel
theorem kd_Mo_wire_48 : decode prog_8_method_24_code 48 = .ok (.iload 4, 2) := by decide +kernel
theorem kd_Mo_wire_50 : decode prog_8_method_24_code 50 = .ok (.iaload, 1) := by decide +kernel
theorem kd_Mo_wire_51 : decode prog_8_method_24_code 51 = .ok (.goto 31, 3) := by decide +kernel
theorem kd_Mo_wire_54 : decode prog_8_method_24_code 54 = .ok (.iload_n 3, 1) := by decide +kernel
theorem kd_Mo_wire_55 : decode prog_8_method_24_code 55 = .ok (.ifCond .ne 13, 3) := by decide +kernel
theorem kd_Mo_wire_58 : decode prog_8_method_24_code 58 = .ok (.aload_n 0, 1) := by decide +kernel
theorem kd_Mo_wire_59 : decode prog_8_method_24_code 59 = .ok (.getfield 45, 3) := by decide +kernel
theorem kd_Mo_wire_62 : decode prog_8_method_24_code 62 = .ok (.iload 4, 2) := by decide +kernel
theorem kd_Mo_wire_64 : decode prog_8_method_24_code 64 = .ok (.iaload, 1) := by decide +kernel
theorem kd_Mo_wire_65 : decode prog_8_method_24_code 65 = .ok (.goto 17, 3) := by decide +kernel
theorem kd_Mo_wire_68 : decode prog_8_method_24_code 68 = .ok (.aload_n 0, 1) := by decide +kernel
theorem kd_Mo_wire_69 : decode prog_8_method_24_code 69 = .ok (.getfield 51, 3) := by decide +kernel
theorem kd_Mo_wire_72 : decode prog_8_method_24_code 72 = .ok (.bipush 40, 2) := by decide +kernel
theorem kd_Mo_wire_74 : decode prog_8_method_24_code 74 = .ok (.iload 4, 2) := by decide +kernel
theorem kd_Mo_wire_76 : decode prog_8_method_24_code 76 = .ok (.imul, 1) := by decide +kernel
theorem kd_Mo_wire_77 : decode prog_8_method_24_code 77 = .ok (.iload_n 3, 1) := by decide +kernel
theorem kd_Mo_wire_78 : decode prog_8_method_24_code 78 = .ok (.iadd, 1) := by decide +kernel
theorem kd_Mo_wire_79 : decode prog_8_method_24_code 79 = .ok (.iconst 1, 1) := by decide +kernel
theorem kd_Mo_wire_80 : decode prog_8_method_24_code 80 = .ok (.isub, 1) := by decide +kernel
theorem kd_Mo_wire_81 : decode prog_8_method_24_code 81 = .ok (.iaload, 1) := by decide +kernel
theorem kd_Mo_wire_82 : decode prog_8_method_24_code 82 = .ok (.ireturn, 1) := by decide +kernel
def kc_Mo_wire_82 (Po : Option Value → qa_M → Prop) : qa_K := (qi_iret (0, 0) Po)
def kc_Mo_wire_29 (Po : Option Value → qa_M → Prop) : qa_K := (qi_ic (-1) (qi_iret (0, 0) Po))
def kc_Mo_wire_0 (Po : Option Value → qa_M → Prop) : qa_K := (qi_aload 0 (qi_iload 1 (qi_iload 2 (qi_callv 3 7 (0, 0) sp_Mo_isRecord (qi_ifeq (kc_Mo_wire_29 Po) (qi_iload 3 (qi_ic (-1) (qi_iclt (kc_Mo_wire_29 Po) (qi_iload 3 (qi_aload 0 (qi_gp 7 205 (qi_ic (nI 12) (qi_iload 1 (qi_imul (qi_iload 2 (qi_iadd (qi_iald 1205 (qi_icle (qi_ic (nI 12) (qi_iload 1 (qi_imul (qi_iload 2 (qi_iadd (qi_istore 4 (qi_iload 3 (qi_ic (-1) (qi_icne (qi_iload 3 (qi_ifne (qi_aload 0 (qi_gp 7 206 (qi_ic (nI 40) (qi_iload 4 (qi_imul (qi_iload 3 (qi_iadd (qi_ic (nI 1) (qi_isub (qi_iald 1206 (kc_Mo_wire_82 Po))))))))))) (qi_aload 0 (qi_gp 7 204 (qi_iload 4 (qi_iald 1204 (kc_Mo_wire_82 Po))))))) (qi_aload 0 (qi_gp 7 205 (qi_iload 4 (qi_iald 1205 (kc_Mo_wire_82 Po)))))))))))))) (kc_Mo_wire_29 Po)))))))))))))))))))
abbrev kS_Mo_wire (l : Launch) (D : va_G) (E : Nat → ClassId) (B : Nat) (sc : qa_Z) (Po : Option Value → qa_M → Prop) (pc : Nat) (k : qa_K) : Prop := qa_S l "SealedRecordsModel" prog_8_method_24_code 5 (some .int) false D E B rm_Mo_wire sc (qa_Qf D E B rm_Mo_wire Po) pc k
theorem ks_Mo_wire_82 (l : Launch) (D : va_G) (E : Nat → ClassId) (B : Nat) (sc : qa_Z) (Po : Option Value → qa_M → Prop) : kS_Mo_wire l D E B sc Po 82 (kc_Mo_wire_82 Po) := (qs_iret kd_Mo_wire_82)
theorem ks_Mo_wire_29 (l : Launch) (D : va_G) (E : Nat → ClassId) (B : Nat) (sc : qa_Z) (Po : Option Value → qa_M → Prop) : kS_Mo_wire l D E B sc Po 29 (kc_Mo_wire_29 Po) := (qs_iconst kd_Mo_wire_29 (by decide) (qs_iret kd_Mo_wire_30))
theorem ks_Mo_wire_0 (l : Launch) (D : va_G) (E : Nat → ClassId) (B : Nat) (sc : qa_Z) (Po : Option Value → qa_M → Prop) : kS_Mo_wire l D E B sc Po 0 (kc_Mo_wire_0 Po) := (qs_aload_n kd_Mo_wire_0 rfl (qs_iload_n kd_Mo_wire_1 rfl (qs_iload_n kd_Mo_wire_2 rfl (qs_callv (ci := 6) (ct_Mo_isRecord l sc) ww_340 (by decide) rfl (by decide) ww_341 ww_342 ww_343 ww_13 yd_Mo_isRecord kd_Mo_wire_3 (qs_ifeq (tgt := 29) kd_Mo_wire_6 (by decide) (ks_Mo_wire_29 l D E B sc Po) (qs_iload_n kd_Mo_wire_9 rfl (qs_iconst kd_Mo_wire_10 (by decide) (qs_iclt (tgt := 29) kd_Mo_wire_11 (by decide) (ks_Mo_wire_29 l D E B sc Po) (qs_iload_n kd_Mo_wire_14 rfl (qs_aload_n kd_Mo_wire_15 rfl (fg_205 ww_290 kd_Mo_wire_16 (qs_bipush kd_Mo_wire_19 (by decide) (qs_iload_n kd_Mo_wire_21 rfl (qs_imul kd_Mo_wire_22 (qs_iload_n kd_Mo_wire_23 rfl (qs_iadd kd_Mo_wire_24 (qs_iald (κ := 1205) rfl (by decide) kd_Mo_wire_25 (qs_icle (tgt := 31) kd_Mo_wire_26 (by decide) (qs_bipush kd_Mo_wire_31 (by decide) (qs_iload_n kd_Mo_wire_33 rfl (qs_imul kd_Mo_wire_34 (qs_iload_n kd_Mo_wire_35 rfl (qs_iadd kd_Mo_wire_36 (qs_istore kd_Mo_wire_37 (by decide) (qs_iload_n kd_Mo_wire_39 rfl (qs_iconst kd_Mo_wire_40 (by decide) (qs_icne (tgt := 54) kd_Mo_wire_41 (by decide) (qs_iload_n kd_Mo_wire_54 rfl (qs_ifne (tgt := 68) kd_Mo_wire_55 (by decide) (qs_aload_n kd_Mo_wire_68 rfl (fg_206 ww_291 kd_Mo_wire_69 (qs_bipush kd_Mo_wire_72 (by decide) (qs_iload kd_Mo_wire_74 (qs_imul kd_Mo_wire_76 (qs_iload_n kd_Mo_wire_77 rfl (qs_iadd kd_Mo_wire_78 (qs_iconst kd_Mo_wire_79 (by decide) (qs_isub kd_Mo_wire_80 (qs_iald (κ := 1206) rfl (by decide) kd_Mo_wire_81 (ks_Mo_wire_82 l D E B sc Po))))))))))) (qs_aload_n kd_Mo_wire_58 rfl (fg_204 ww_289 kd_Mo_wire_59 (qs_iload kd_Mo_wire_62 (qs_iald (κ := 1204) rfl (by decide) kd_Mo_wire_64 (qs_goto (tgt := 82) kd_Mo_wire_65 (by decide) (ks_Mo_wire_82 l D E B sc Po)))))))) (qs_aload_n kd_Mo_wire_44 rfl (fg_205 ww_290 kd_Mo_wire_45 (qs_iload kd_Mo_wire_48 (qs_iald (κ := 1205) rfl (by decide) kd_Mo_wire_50 (qs_goto (tgt := 82) kd_Mo_wire_51 (by decide) (ks_Mo_wire_82 l D E B sc Po))))))))))))))) (ks_Mo_wire_29 l D E B sc Po)))))))))))))))))))
def sp_Mo_wire : qa_sp := fun args M Po => match args with
  | [.ref a0, .int a1, .int a2, .int a3] => kc_Mo_wire_0 Po (0, 0) [some (.ref a0), some (.int a1), some (.int a2), some (.int a3), none] [] M
  | _ => False
theorem ct_Mo_wire (l : Launch) (sc : qa_Z) : qa_T l ym_Mo_wire (Cond.code ym_Mo_wire prog_8_method_24_code 5 (some .int) :: q_W0) rm_Mo_wire sc (sp_Mo_wire) := by
  intro D E B args M Po h
  unfold sp_Mo_wire at h
  split at h
  · exact qa_ct (ini := false) (by decide) (by decide) (Nat.le_of_ble_eq_true rfl) (qa_lvok rfl) (ks_Mo_wire_0 l D E B sc Po) h
  · exact h.elim
theorem kd_Mo_lastEight_0 : decode prog_8_method_26_code 0 = .ok (.lconst 0, 1) := by decide +kernel
theorem kd_Mo_lastEight_1 : decode prog_8_method_26_code 1 = .ok (.lstore_n 3, 1) := by decide +kernel
theorem kd_Mo_lastEight_2 : decode prog_8_method_26_code 2 = .ok (.iload_n 2, 1) := by decide +kernel
theorem kd_Mo_lastEight_3 : decode prog_8_method_26_code 3 = .ok (.bipush 8, 2) := by decide +kernel
theorem kd_Mo_lastEight_5 : decode prog_8_method_26_code 5 = .ok (.isub, 1) := by decide +kernel
theorem kd_Mo_lastEight_6 : decode prog_8_method_26_code 6 = .ok (.istore 5, 2) := by decide +kernel
theorem kd_Mo_lastEight_8 : decode prog_8_method_26_code 8 = .ok (.iload 5, 2) := by decide +kernel
theorem kd_Mo_lastEight_10 : decode prog_8_method_26_code 10 = .ok (.iload_n 2, 1) := by decide +kernel
theorem kd_Mo_lastEight_11 : decode prog_8_method_26_code 11 = .ok (.if_icmp .ge 28, 3) := by decide +kernel
theorem kd_Mo_lastEight_14 : decode prog_8_method_26_code 14 = .ok (.lload_n 3, 1) := by decide +kernel
theorem kd_Mo_lastEight_15 : decode prog_8_method_26_code 15 = .ok (.bipush 8, 2) := by decide +kernel
theorem kd_Mo_lastEight_17 : decode prog_8_method_26_code 17 = .ok (.lshl, 1) := by decide +kernel
theorem kd_Mo_lastEight_18 : decode prog_8_method_26_code 18 = .ok (.aload_n 0, 1) := by decide +kernel
theorem kd_Mo_lastEight_19 : decode prog_8_method_26_code 19 = .ok (.getfield 51, 3) := by decide +kernel
theorem kd_Mo_lastEight_22 : decode prog_8_method_26_code 22 = .ok (.bipush 40, 2) := by decide +kernel
theorem kd_Mo_lastEight_24 : decode prog_8_method_26_code 24 = .ok (.iload_n 1, 1) := by decide +kernel
theorem kd_Mo_lastEight_25 : decode prog_8_method_26_code 25 = .ok (.imul, 1) := by decide +kernel
theorem kd_Mo_lastEight_26 : decode prog_8_method_26_code 26 = .ok (.iload 5, 2) := by decide +kernel
theorem kd_Mo_lastEight_28 : decode prog_8_method_26_code 28 = .ok (.iadd, 1) := by decide +kernel
theorem kd_Mo_lastEight_29 : decode prog_8_method_26_code 29 = .ok (.iaload, 1) := by decide +kernel
theorem kd_Mo_lastEight_30 : decode prog_8_method_26_code 30 = .ok (.i2l, 1) := by decide +kernel
theorem kd_Mo_lastEight_31 : decode prog_8_method_26_code 31 = .ok (.lor, 1) := by decide +kernel
theorem kd_Mo_lastEight_32 : decode prog_8_method_26_code 32 = .ok (.lstore_n 3, 1) := by decide +kernel
theorem kd_Mo_lastEight_33 : decode prog_8_method_26_code 33 = .ok (.iinc 5 1, 3) := by decide +kernel
theorem kd_Mo_lastEight_36 : decode prog_8_method_26_code 36 = .ok (.goto (-28), 3) := by decide +kernel
theorem kd_Mo_lastEight_39 : decode prog_8_method_26_code 39 = .ok (.lload_n 3, 1) := by decide +kernel
theorem kd_Mo_lastEight_40 : decode prog_8_method_26_code 40 = .ok (.lreturn, 1) := by decide +kernel
def kb_Mo_lastEight_8 (Po : Option Value → qa_M → Prop) (k8 : qa_K) : qa_K := (qi_iload 5 (qi_iload 2 (qi_icge (qi_lload 3 (qi_lret (0, 0) Po)) (qi_lload 3 (qi_ic (nI 8) (qi_lshl (qi_aload 0 (qi_gp 7 206 (qi_ic (nI 40) (qi_iload 1 (qi_imul (qi_iload 5 (qi_iadd (qi_iald 1206 (qi_i2l (qi_lor (qi_lstore 3 (qi_iinc 5 (nI 1) k8))))))))))))))))))
def kc_Mo_lastEight_8 (Po : Option Value → qa_M → Prop) : qa_K := qi_loop (kb_Mo_lastEight_8 Po)
def kc_Mo_lastEight_0 (Po : Option Value → qa_M → Prop) : qa_K := (qi_lc 0 (qi_lstore 3 (qi_iload 2 (qi_ic (nI 8) (qi_isub (qi_istore 5 (kc_Mo_lastEight_8 Po)))))))
abbrev kS_Mo_lastEight (l : Launch) (D : va_G) (E : Nat → ClassId) (B : Nat) (sc : qa_Z) (Po : Option Value → qa_M → Prop) (pc : Nat) (k : qa_K) : Prop := qa_S l "SealedRecordsModel" prog_8_method_26_code 6 (some .long) false D E B rm_Mo_lastEight sc (qa_Qf D E B rm_Mo_lastEight Po) pc k
theorem kt_Mo_lastEight_8 (l : Launch) (D : va_G) (E : Nat → ClassId) (B : Nat) (sc : qa_Z) (Po : Option Value → qa_M → Prop) {k8 : qa_K} (hk8 : kS_Mo_lastEight l D E B sc Po 8 k8) : kS_Mo_lastEight l D E B sc Po 8 (kb_Mo_lastEight_8 Po k8) := (qs_iload kd_Mo_lastEight_8 (qs_iload_n kd_Mo_lastEight_10 rfl (qs_icge (tgt := 39) kd_Mo_lastEight_11 (by decide) (qs_lload_n kd_Mo_lastEight_39 rfl (qs_lret kd_Mo_lastEight_40)) (qs_lload_n kd_Mo_lastEight_14 rfl (qs_bipush kd_Mo_lastEight_15 (by decide) (qs_lshl kd_Mo_lastEight_17 (qs_aload_n kd_Mo_lastEight_18 rfl (fg_206 ww_291 kd_Mo_lastEight_19 (qs_bipush kd_Mo_lastEight_22 (by decide) (qs_iload_n kd_Mo_lastEight_24 rfl (qs_imul kd_Mo_lastEight_25 (qs_iload kd_Mo_lastEight_26 (qs_iadd kd_Mo_lastEight_28 (qs_iald (κ := 1206) rfl (by decide) kd_Mo_lastEight_29 (qs_i2l kd_Mo_lastEight_30 (qs_lor kd_Mo_lastEight_31 (qs_lstore_n kd_Mo_lastEight_32 rfl (by decide) (qs_iinc kd_Mo_lastEight_33 (by decide) (by decide) (qs_goto (tgt := 8) kd_Mo_lastEight_36 (by decide) hk8)))))))))))))))))))
theorem ks_Mo_lastEight_8 (l : Launch) (D : va_G) (E : Nat → ClassId) (B : Nat) (sc : qa_Z) (Po : Option Value → qa_M → Prop) : kS_Mo_lastEight l D E B sc Po 8 (kc_Mo_lastEight_8 Po) := qs_loop fun k8 hk8 => kt_Mo_lastEight_8 l D E B sc Po hk8
theorem ks_Mo_lastEight_0 (l : Launch) (D : va_G) (E : Nat → ClassId) (B : Nat) (sc : qa_Z) (Po : Option Value → qa_M → Prop) : kS_Mo_lastEight l D E B sc Po 0 (kc_Mo_lastEight_0 Po) := (qs_lconst kd_Mo_lastEight_0 (by decide) (qs_lstore_n kd_Mo_lastEight_1 rfl (by decide) (qs_iload_n kd_Mo_lastEight_2 rfl (qs_bipush kd_Mo_lastEight_3 (by decide) (qs_isub kd_Mo_lastEight_5 (qs_istore kd_Mo_lastEight_6 (by decide) (ks_Mo_lastEight_8 l D E B sc Po)))))))
def sp_Mo_lastEight : qa_sp := fun args M Po => match args with
  | [.ref a0, .int a1, .int a2] => kc_Mo_lastEight_0 Po (0, 0) [some (.ref a0), some (.int a1), some (.int a2), none, none, none] [] M
  | _ => False
theorem ct_Mo_lastEight (l : Launch) (sc : qa_Z) : qa_T l ym_Mo_lastEight (Cond.code ym_Mo_lastEight prog_8_method_26_code 6 (some .long) :: q_W0) rm_Mo_lastEight sc (sp_Mo_lastEight) := by
  intro D E B args M Po h
  unfold sp_Mo_lastEight at h
  split at h
  · exact qa_ct (ini := false) (by decide) (by decide) (Nat.le_of_ble_eq_true rfl) (qa_lvok rfl) (ks_Mo_lastEight_0 l D E B sc Po) h
  · exact h.elim
theorem kd_Mo_unseal_0 : decode prog_8_method_25_code 0 = .ok (.iconst 2, 1) := by decide +kernel
theorem kd_Mo_unseal_1 : decode prog_8_method_25_code 1 = .ok (.iload_n 1, 1) := by decide +kernel
theorem kd_Mo_unseal_2 : decode prog_8_method_25_code 2 = .ok (.iadd, 1) := by decide +kernel
theorem kd_Mo_unseal_3 : decode prog_8_method_25_code 3 = .ok (.istore_n 3, 1) := by decide +kernel
theorem kd_Mo_unseal_4 : decode prog_8_method_25_code 4 = .ok (.aload_n 0, 1) := by decide +kernel
theorem kd_Mo_unseal_5 : decode prog_8_method_25_code 5 = .ok (.getfield 48, 3) := by decide +kernel
theorem kd_Mo_unseal_8 : decode prog_8_method_25_code 8 = .ok (.iload_n 2, 1) := by decide +kernel
theorem kd_Mo_unseal_9 : decode prog_8_method_25_code 9 = .ok (.iaload, 1) := by decide +kernel
theorem kd_Mo_unseal_10 : decode prog_8_method_25_code 10 = .ok (.istore 4, 2) := by decide +kernel
theorem kd_Mo_unseal_12 : decode prog_8_method_25_code 12 = .ok (.aload_n 0, 1) := by decide +kernel
theorem kd_Mo_unseal_13 : decode prog_8_method_25_code 13 = .ok (.getfield 45, 3) := by decide +kernel
theorem kd_Mo_unseal_16 : decode prog_8_method_25_code 16 = .ok (.iload_n 2, 1) := by decide +kernel
theorem kd_Mo_unseal_17 : decode prog_8_method_25_code 17 = .ok (.iaload, 1) := by decide +kernel
theorem kd_Mo_unseal_18 : decode prog_8_method_25_code 18 = .ok (.bipush 20, 2) := by decide +kernel
theorem kd_Mo_unseal_20 : decode prog_8_method_25_code 20 = .ok (.if_icmp .ne 40, 3) := by decide +kernel
theorem kd_Mo_unseal_23 : decode prog_8_method_25_code 23 = .ok (.iload 4, 2) := by decide +kernel
theorem kd_Mo_unseal_25 : decode prog_8_method_25_code 25 = .ok (.iconst 1, 1) := by decide +kernel
theorem kd_Mo_unseal_26 : decode prog_8_method_25_code 26 = .ok (.if_icmp .ne 31, 3) := by decide +kernel
theorem kd_Mo_unseal_29 : decode prog_8_method_25_code 29 = .ok (.aload_n 0, 1) := by decide +kernel
theorem kd_Mo_unseal_30 : decode prog_8_method_25_code 30 = .ok (.getfield 51, 3) := by decide +kernel
theorem kd_Mo_unseal_33 : decode prog_8_method_25_code 33 = .ok (.bipush 40, 2) := by decide +kernel
theorem kd_Mo_unseal_35 : decode prog_8_method_25_code 35 = .ok (.iload_n 2, 1) := by decide +kernel
theorem kd_Mo_unseal_36 : decode prog_8_method_25_code 36 = .ok (.imul, 1) := by decide +kernel
theorem kd_Mo_unseal_37 : decode prog_8_method_25_code 37 = .ok (.iaload, 1) := by decide +kernel
theorem kd_Mo_unseal_38 : decode prog_8_method_25_code 38 = .ok (.iconst 1, 1) := by decide +kernel
theorem kd_Mo_unseal_39 : decode prog_8_method_25_code 39 = .ok (.if_icmp .ne 18, 3) := by decide +kernel
theorem kd_Mo_unseal_42 : decode prog_8_method_25_code 42 = .ok (.aload_n 0, 1) := by decide +kernel
theorem kd_Mo_unseal_43 : decode prog_8_method_25_code 43 = .ok (.getfield 17, 3) := by decide +kernel
theorem kd_Mo_unseal_46 : decode prog_8_method_25_code 46 = .ok (.iload_n 3, 1) := by decide +kernel
theorem kd_Mo_unseal_47 : decode prog_8_method_25_code 47 = .ok (.iaload, 1) := by decide +kernel
theorem kd_Mo_unseal_48 : decode prog_8_method_25_code 48 = .ok (.iconst 2, 1) := by decide +kernel
theorem kd_Mo_unseal_49 : decode prog_8_method_25_code 49 = .ok (.if_icmp .ge 8, 3) := by decide +kernel
theorem kd_Mo_unseal_52 : decode prog_8_method_25_code 52 = .ok (.bipush 100, 2) := by decide +kernel
theorem kd_Mo_unseal_54 : decode prog_8_method_25_code 54 = .ok (.goto 5, 3) := by decide +kernel
theorem kd_Mo_unseal_57 : decode prog_8_method_25_code 57 = .ok (.bipush 10, 2) := by decide +kernel
theorem kd_Mo_unseal_59 : decode prog_8_method_25_code 59 = .ok (.ireturn, 1) := by decide +kernel
theorem kd_Mo_unseal_60 : decode prog_8_method_25_code 60 = .ok (.aload_n 0, 1) := by decide +kernel
theorem kd_Mo_unseal_61 : decode prog_8_method_25_code 61 = .ok (.getfield 17, 3) := by decide +kernel
theorem kd_Mo_unseal_64 : decode prog_8_method_25_code 64 = .ok (.iload_n 3, 1) := by decide +kernel
theorem kd_Mo_unseal_65 : decode prog_8_method_25_code 65 = .ok (.iaload, 1) := by decide +kernel
theorem kd_Mo_unseal_66 : decode prog_8_method_25_code 66 = .ok (.ifCond .ne 68, 3) := by decide +kernel
theorem kd_Mo_unseal_69 : decode prog_8_method_25_code 69 = .ok (.aload_n 0, 1) := by decide +kernel
theorem kd_Mo_unseal_70 : decode prog_8_method_25_code 70 = .ok (.aload_n 0, 1) := by decide +kernel
theorem kd_Mo_unseal_71 : decode prog_8_method_25_code 71 = .ok (.getfield 45, 3) := by decide +kernel
theorem kd_Mo_unseal_74 : decode prog_8_method_25_code 74 = .ok (.iload_n 2, 1) := by decide +kernel
theorem kd_Mo_unseal_75 : decode prog_8_method_25_code 75 = .ok (.iaload, 1) := by decide +kernel
theorem kd_Mo_unseal_76 : decode prog_8_method_25_code 76 = .ok (.putfield 133, 3) := by decide +kernel
theorem kd_Mo_unseal_79 : decode prog_8_method_25_code 79 = .ok (.aload_n 0, 1) := by decide +kernel
theorem kd_Mo_unseal_80 : decode prog_8_method_25_code 80 = .ok (.iload 4, 2) := by decide +kernel
theorem kd_Mo_unseal_82 : decode prog_8_method_25_code 82 = .ok (.putfield 136, 3) := by decide +kernel
theorem kd_Mo_unseal_85 : decode prog_8_method_25_code 85 = .ok (.iconst 0, 1) := by decide +kernel
theorem kd_Mo_unseal_86 : decode prog_8_method_25_code 86 = .ok (.istore 5, 2) := by decide +kernel
theorem kd_Mo_unseal_88 : decode prog_8_method_25_code 88 = .ok (.iload 5, 2) := by decide +kernel
theorem kd_Mo_unseal_90 : decode prog_8_method_25_code 90 = .ok (.iload 4, 2) := by decide +kernel
theorem kd_Mo_unseal_92 : decode prog_8_method_25_code 92 = .ok (.if_icmp .ge 28, 3) := by decide +kernel
theorem kd_Mo_unseal_95 : decode prog_8_method_25_code 95 = .ok (.aload_n 0, 1) := by decide +kernel
theorem kd_Mo_unseal_96 : decode prog_8_method_25_code 96 = .ok (.getfield 72, 3) := by decide +kernel
theorem kd_Mo_unseal_99 : decode prog_8_method_25_code 99 = .ok (.iload 5, 2) := by decide +kernel
theorem kd_Mo_unseal_101 : decode prog_8_method_25_code 101 = .ok (.aload_n 0, 1) := by decide +kernel
theorem kd_Mo_unseal_102 : decode prog_8_method_25_code 102 = .ok (.getfield 51, 3) := by decide +kernel
theorem kd_Mo_unseal_105 : decode prog_8_method_25_code 105 = .ok (.bipush 40, 2) := by decide +kernel
theorem kd_Mo_unseal_107 : decode prog_8_method_25_code 107 = .ok (.iload_n 2, 1) := by decide +kernel
theorem kd_Mo_unseal_108 : decode prog_8_method_25_code 108 = .ok (.imul, 1) := by decide +kernel
theorem kd_Mo_unseal_109 : decode prog_8_method_25_code 109 = .ok (.iload 5, 2) := by decide +kernel
theorem kd_Mo_unseal_111 : decode prog_8_method_25_code 111 = .ok (.iadd, 1) := by decide +kernel
theorem kd_Mo_unseal_112 : decode prog_8_method_25_code 112 = .ok (.iaload, 1) := by decide +kernel
theorem kd_Mo_unseal_113 : decode prog_8_method_25_code 113 = .ok (.iastore, 1) := by decide +kernel
theorem kd_Mo_unseal_114 : decode prog_8_method_25_code 114 = .ok (.iinc 5 1, 3) := by decide +kernel
theorem kd_Mo_unseal_117 : decode prog_8_method_25_code 117 = .ok (.goto (-29), 3) := by decide +kernel
theorem kd_Mo_unseal_120 : decode prog_8_method_25_code 120 = .ok (.iload 4, 2) := by decide +kernel
theorem kd_Mo_unseal_122 : decode prog_8_method_25_code 122 = .ok (.bipush 16, 2) := by decide +kernel
theorem kd_Mo_unseal_124 : decode prog_8_method_25_code 124 = .ok (.if_icmp .le 8, 3) := by decide +kernel
theorem kd_Mo_unseal_127 : decode prog_8_method_25_code 127 = .ok (.bipush 22, 2) := by decide +kernel
theorem kd_Mo_unseal_129 : decode prog_8_method_25_code 129 = .ok (.goto 4, 3) := by decide +kernel
theorem kd_Mo_unseal_132 : decode prog_8_method_25_code 132 = .ok (.iconst 0, 1) := by decide +kernel
theorem kd_Mo_unseal_133 : decode prog_8_method_25_code 133 = .ok (.ireturn, 1) := by decide +kernel
theorem kd_Mo_unseal_134 : decode prog_8_method_25_code 134 = .ok (.aload_n 0, 1) := by decide +kernel
theorem kd_Mo_unseal_135 : decode prog_8_method_25_code 135 = .ok (.getfield 45, 3) := by decide +kernel
theorem kd_Mo_unseal_138 : decode prog_8_method_25_code 138 = .ok (.iload_n 2, 1) := by decide +kernel
theorem kd_Mo_unseal_139 : decode prog_8_method_25_code 139 = .ok (.iaload, 1) := by decide +kernel
theorem kd_Mo_unseal_140 : decode prog_8_method_25_code 140 = .ok (.bipush 23, 2) := by decide +kernel
theorem kd_Mo_unseal_142 : decode prog_8_method_25_code 142 = .ok (.if_icmp .eq 6, 3) := by decide +kernel
theorem kd_Mo_unseal_145 : decode prog_8_method_25_code 145 = .ok (.bipush 10, 2) := by decide +kernel
theorem kd_Mo_unseal_147 : decode prog_8_method_25_code 147 = .ok (.ireturn, 1) := by decide +kernel
theorem kd_Mo_unseal_148 : decode prog_8_method_25_code 148 = .ok (.iload 4, 2) := by decide +kernel
theorem kd_Mo_unseal_150 : decode prog_8_method_25_code 150 = .ok (.bipush 25, 2) := by decide +kernel
theorem kd_Mo_unseal_152 : decode prog_8_method_25_code 152 = .ok (.if_icmp .le 6, 3) := by decide +kernel
theorem kd_Mo_unseal_155 : decode prog_8_method_25_code 155 = .ok (.bipush 22, 2) := by decide +kernel
theorem kd_Mo_unseal_157 : decode prog_8_method_25_code 157 = .ok (.ireturn, 1) := by decide +kernel
theorem kd_Mo_unseal_158 : decode prog_8_method_25_code 158 = .ok (.iload 4, 2) := by decide +kernel
theorem kd_Mo_unseal_160 : decode prog_8_method_25_code 160 = .ok (.bipush 8, 2) := by decide +kernel
theorem kd_Mo_unseal_162 : decode prog_8_method_25_code 162 = .ok (.if_icmp .lt 25, 3) := by decide +kernel
theorem kd_Mo_unseal_165 : decode prog_8_method_25_code 165 = .ok (.aload_n 0, 1) := by decide +kernel
theorem kd_Mo_unseal_166 : decode prog_8_method_25_code 166 = .ok (.iload_n 3, 1) := by decide +kernel
theorem kd_Mo_unseal_167 : decode prog_8_method_25_code 167 = .ok (.iload_n 2, 1) := by decide +kernel
theorem kd_Mo_unseal_168 : decode prog_8_method_25_code 168 = .ok (.iload 4, 2) := by decide +kernel
theorem kd_Mo_unseal_170 : decode prog_8_method_25_code 170 = .ok (.bipush 8, 2) := by decide +kernel
theorem kd_Mo_unseal_172 : decode prog_8_method_25_code 172 = .ok (.isub, 1) := by decide +kernel
theorem kd_Mo_unseal_173 : decode prog_8_method_25_code 173 = .ok (.invokevirtual 122, 3) := by decide +kernel
theorem kd_Mo_unseal_176 : decode prog_8_method_25_code 176 = .ok (.aload_n 0, 1) := by decide +kernel
theorem kd_Mo_unseal_177 : decode prog_8_method_25_code 177 = .ok (.iload_n 2, 1) := by decide +kernel
theorem kd_Mo_unseal_178 : decode prog_8_method_25_code 178 = .ok (.iload 4, 2) := by decide +kernel
theorem kd_Mo_unseal_180 : decode prog_8_method_25_code 180 = .ok (.invokevirtual 139, 3) := by decide +kernel
theorem kd_Mo_unseal_183 : decode prog_8_method_25_code 183 = .ok (.lcmp, 1) := by decide +kernel
theorem kd_Mo_unseal_184 : decode prog_8_method_25_code 184 = .ok (.ifCond .eq 6, 3) := by decide +kernel
theorem kd_Mo_unseal_187 : decode prog_8_method_25_code 187 = .ok (.bipush 20, 2) := by decide +kernel
theorem kd_Mo_unseal_189 : decode prog_8_method_25_code 189 = .ok (.ireturn, 1) := by decide +kernel
theorem kd_Mo_unseal_190 : decode prog_8_method_25_code 190 = .ok (.aload_n 0, 1) := by decide +kernel
theorem kd_Mo_unseal_191 : decode prog_8_method_25_code 191 = .ok (.iconst (-1), 1) := by decide +kernel
theorem kd_Mo_unseal_192 : decode prog_8_method_25_code 192 = .ok (.putfield 136, 3) := by decide +kernel
theorem kd_Mo_unseal_195 : decode prog_8_method_25_code 195 = .ok (.iconst 0, 1) := by decide +kernel
theorem kd_Mo_unseal_196 : decode prog_8_method_25_code 196 = .ok (.istore 5, 2) := by decide +kernel
theorem kd_Mo_unseal_198 : decode prog_8_method_25_code 198 = .ok (.iload 5, 2) := by decide +kernel
theorem kd_Mo_unseal_200 : decode prog_8_method_25_code 200 = .ok (.iload 4, 2) := by decide +kernel
theorem kd_Mo_unseal_202 : decode prog_8_method_25_code 202 = .ok (.bipush 8, 2) := by decide +kernel
theorem kd_Mo_unseal_204 : decode prog_8_method_25_code 204 = .ok (.isub, 1) := by decide +kernel
theorem kd_Mo_unseal_205 : decode prog_8_method_25_code 205 = .ok (.if_icmp .ge 59, 3) := by decide +kernel
theorem kd_Mo_unseal_208 : decode prog_8_method_25_code 208 = .ok (.aload_n 0, 1) := by decide +kernel
theorem kd_Mo_unseal_209 : decode prog_8_method_25_code 209 = .ok (.getfield 72, 3) := by decide +kernel
theorem kd_Mo_unseal_212 : decode prog_8_method_25_code 212 = .ok (.iload 5, 2) := by decide +kernel
theorem kd_Mo_unseal_214 : decode prog_8_method_25_code 214 = .ok (.aload_n 0, 1) := by decide +kernel
theorem kd_Mo_unseal_215 : decode prog_8_method_25_code 215 = .ok (.getfield 51, 3) := by decide +kernel
theorem kd_Mo_unseal_218 : decode prog_8_method_25_code 218 = .ok (.bipush 40, 2) := by decide +kernel
theorem kd_Mo_unseal_220 : decode prog_8_method_25_code 220 = .ok (.iload_n 2, 1) := by decide +kernel
theorem kd_Mo_unseal_221 : decode prog_8_method_25_code 221 = .ok (.imul, 1) := by decide +kernel
theorem kd_Mo_unseal_222 : decode prog_8_method_25_code 222 = .ok (.iload 5, 2) := by decide +kernel
theorem kd_Mo_unseal_224 : decode prog_8_method_25_code 224 = .ok (.iadd, 1) := by decide +kernel
theorem kd_Mo_unseal_225 : decode prog_8_method_25_code 225 = .ok (.iaload, 1) := by decide +kernel
theorem kd_Mo_unseal_226 : decode prog_8_method_25_code 226 = .ok (.aload_n 0, 1) := by decide +kernel
theorem kd_Mo_unseal_227 : decode prog_8_method_25_code 227 = .ok (.iload_n 3, 1) := by decide +kernel
theorem kd_Mo_unseal_228 : decode prog_8_method_25_code 228 = .ok (.iload 5, 2) := by decide +kernel
theorem kd_Mo_unseal_230 : decode prog_8_method_25_code 230 = .ok (.invokevirtual 118, 3) := by decide +kernel
theorem kd_Mo_unseal_233 : decode prog_8_method_25_code 233 = .ok (.ixor, 1) := by decide +kernel
theorem kd_Mo_unseal_234 : decode prog_8_method_25_code 234 = .ok (.iastore, 1) := by decide +kernel
theorem kd_Mo_unseal_235 : decode prog_8_method_25_code 235 = .ok (.aload_n 0, 1) := by decide +kernel
theorem kd_Mo_unseal_236 : decode prog_8_method_25_code 236 = .ok (.aload_n 0, 1) := by decide +kernel
theorem kd_Mo_unseal_237 : decode prog_8_method_25_code 237 = .ok (.getfield 72, 3) := by decide +kernel
theorem kd_Mo_unseal_240 : decode prog_8_method_25_code 240 = .ok (.iload 5, 2) := by decide +kernel
theorem kd_Mo_unseal_242 : decode prog_8_method_25_code 242 = .ok (.iaload, 1) := by decide +kernel
theorem kd_Mo_unseal_243 : decode prog_8_method_25_code 243 = .ok (.ifCond .eq 8, 3) := by decide +kernel
theorem kd_Mo_unseal_246 : decode prog_8_method_25_code 246 = .ok (.iload 5, 2) := by decide +kernel
theorem kd_Mo_unseal_248 : decode prog_8_method_25_code 248 = .ok (.goto 7, 3) := by decide +kernel
theorem kd_Mo_unseal_251 : decode prog_8_method_25_code 251 = .ok (.aload_n 0, 1) := by decide +kernel
theorem kd_Mo_unseal_252 : decode prog_8_method_25_code 252 = .ok (.getfield 136, 3) := by decide +kernel
theorem kd_Mo_unseal_255 : decode prog_8_method_25_code 255 = .ok (.putfield 136, 3) := by decide +kernel
theorem kd_Mo_unseal_258 : decode prog_8_method_25_code 258 = .ok (.iinc 5 1, 3) := by decide +kernel
theorem kd_Mo_unseal_261 : decode prog_8_method_25_code 261 = .ok (.goto (-63), 3) := by decide +kernel
theorem kd_Mo_unseal_264 : decode prog_8_method_25_code 264 = .ok (.aload_n 0, 1) := by decide +kernel
theorem kd_Mo_unseal_265 : decode prog_8_method_25_code 265 = .ok (.getfield 23, 3) := by decide +kernel
theorem kd_Mo_unseal_268 : decode prog_8_method_25_code 268 = .ok (.iload_n 3, 1) := by decide +kernel
theorem kd_Mo_unseal_269 : decode prog_8_method_25_code 269 = .ok (.dup2, 1) := by decide +kernel
theorem kd_Mo_unseal_270 : decode prog_8_method_25_code 270 = .ok (.iaload, 1) := by decide +kernel
theorem kd_Mo_unseal_271 : decode prog_8_method_25_code 271 = .ok (.iconst 1, 1) := by decide +kernel
theorem kd_Mo_unseal_272 : decode prog_8_method_25_code 272 = .ok (.iadd, 1) := by decide +kernel
theorem kd_Mo_unseal_273 : decode prog_8_method_25_code 273 = .ok (.iastore, 1) := by decide +kernel
theorem kd_Mo_unseal_274 : decode prog_8_method_25_code 274 = .ok (.aload_n 0, 1) := by decide +kernel
theorem kd_Mo_unseal_275 : decode prog_8_method_25_code 275 = .ok (.aload_n 0, 1) := by decide +kernel
theorem kd_Mo_unseal_276 : decode prog_8_method_25_code 276 = .ok (.getfield 136, 3) := by decide +kernel
theorem kd_Mo_unseal_279 : decode prog_8_method_25_code 279 = .ok (.ifCond .ge 7, 3) := by decide +kernel
theorem kd_Mo_unseal_282 : decode prog_8_method_25_code 282 = .ok (.iconst 0, 1) := by decide +kernel
theorem kd_Mo_unseal_283 : decode prog_8_method_25_code 283 = .ok (.goto 12, 3) := by decide +kernel
theorem kd_Mo_unseal_286 : decode prog_8_method_25_code 286 = .ok (.aload_n 0, 1) := by decide +kernel
theorem kd_Mo_unseal_287 : decode prog_8_method_25_code 287 = .ok (.getfield 72, 3) := by decide +kernel
theorem kd_Mo_unseal_290 : decode prog_8_method_25_code 290 = .ok (.aload_n 0, 1) := by decide +kernel
theorem kd_Mo_unseal_291 : decode prog_8_method_25_code 291 = .ok (.getfield 136, 3) := by decide +kernel
theorem kd_Mo_unseal_294 : decode prog_8_method_25_code 294 = .ok (.iaload, 1) := by decide +kernel
theorem kd_Mo_unseal_295 : decode prog_8_method_25_code 295 = .ok (.putfield 133, 3) := by decide +kernel
theorem kd_Mo_unseal_298 : decode prog_8_method_25_code 298 = .ok (.aload_n 0, 1) := by decide +kernel
theorem kd_Mo_unseal_299 : decode prog_8_method_25_code 299 = .ok (.getfield 136, 3) := by decide +kernel
theorem kd_Mo_unseal_302 : decode prog_8_method_25_code 302 = .ok (.ifCond .ge 8, 3) := by decide +kernel
theorem kd_Mo_unseal_305 : decode prog_8_method_25_code 305 = .ok (.bipush 10, 2) := by decide +kernel
theorem kd_Mo_unseal_307 : decode prog_8_method_25_code 307 = .ok (.goto 4, 3) := by decide +kernel
theorem kd_Mo_unseal_310 : decode prog_8_method_25_code 310 = .ok (.iconst 0, 1) := by decide +kernel
theorem kd_Mo_unseal_311 : decode prog_8_method_25_code 311 = .ok (.ireturn, 1) := by decide +kernel
def kc_Mo_unseal_311 (Po : Option Value → qa_M → Prop) : qa_K := (qi_iret (0, 0) Po)
def kc_Mo_unseal_295 (Po : Option Value → qa_M → Prop) : qa_K := (qi_pi 7 213 (qi_aload 0 (qi_gi 7 214 (qi_ifge (qi_ic (nI 0) (kc_Mo_unseal_311 Po)) (qi_ic (nI 10) (kc_Mo_unseal_311 Po))))))
def kc_Mo_unseal_255 (Po : Option Value → qa_M → Prop) (k198 : qa_K) : qa_K := (qi_pi 7 214 (qi_iinc 5 (nI 1) k198))
def kb_Mo_unseal_198 (Po : Option Value → qa_M → Prop) (k198 : qa_K) : qa_K := (qi_iload 5 (qi_iload 4 (qi_ic (nI 8) (qi_isub (qi_icge (qi_aload 0 (qi_gp 7 197 (qi_iload 3 (qi_dup2 (qi_iald 1197 (qi_ic (nI 1) (qi_iadd (qi_iast 1197 (qi_aload 0 (qi_aload 0 (qi_gi 7 214 (qi_ifge (qi_aload 0 (qi_gp 7 215 (qi_aload 0 (qi_gi 7 214 (qi_iald 1215 (kc_Mo_unseal_295 Po)))))) (qi_ic (nI 0) (kc_Mo_unseal_295 Po)))))))))))))) (qi_aload 0 (qi_gp 7 215 (qi_iload 5 (qi_aload 0 (qi_gp 7 206 (qi_ic (nI 40) (qi_iload 2 (qi_imul (qi_iload 5 (qi_iadd (qi_iald 1206 (qi_aload 0 (qi_iload 3 (qi_iload 5 (qi_callv 3 7 (0, 0) sp_Mo_stream (qi_ixor (qi_iast 1215 (qi_aload 0 (qi_aload 0 (qi_gp 7 215 (qi_iload 5 (qi_iald 1215 (qi_ifeq (qi_aload 0 (qi_gi 7 214 (kc_Mo_unseal_255 Po k198))) (qi_iload 5 (kc_Mo_unseal_255 Po k198))))))))))))))))))))))))))))))
def kc_Mo_unseal_198 (Po : Option Value → qa_M → Prop) : qa_K := qi_loop (kb_Mo_unseal_198 Po)
def kc_Mo_unseal_187 (Po : Option Value → qa_M → Prop) : qa_K := (qi_ic (nI 20) (qi_iret (0, 0) Po))
def kc_Mo_unseal_133 (Po : Option Value → qa_M → Prop) : qa_K := (qi_iret (0, 0) Po)
def kb_Mo_unseal_88 (Po : Option Value → qa_M → Prop) (k88 : qa_K) : qa_K := (qi_iload 5 (qi_iload 4 (qi_icge (qi_iload 4 (qi_ic (nI 16) (qi_icle (qi_ic (nI 0) (kc_Mo_unseal_133 Po)) (qi_ic (nI 22) (kc_Mo_unseal_133 Po))))) (qi_aload 0 (qi_gp 7 215 (qi_iload 5 (qi_aload 0 (qi_gp 7 206 (qi_ic (nI 40) (qi_iload 2 (qi_imul (qi_iload 5 (qi_iadd (qi_iald 1206 (qi_iast 1215 (qi_iinc 5 (nI 1) k88))))))))))))))))
def kc_Mo_unseal_88 (Po : Option Value → qa_M → Prop) : qa_K := qi_loop (kb_Mo_unseal_88 Po)
def kc_Mo_unseal_59 (Po : Option Value → qa_M → Prop) : qa_K := (qi_iret (0, 0) Po)
def kc_Mo_unseal_57 (Po : Option Value → qa_M → Prop) : qa_K := (qi_ic (nI 10) (kc_Mo_unseal_59 Po))
def kc_Mo_unseal_0 (Po : Option Value → qa_M → Prop) : qa_K := (qi_ic (nI 2) (qi_iload 1 (qi_iadd (qi_istore 3 (qi_aload 0 (qi_gp 7 205 (qi_iload 2 (qi_iald 1205 (qi_istore 4 (qi_aload 0 (qi_gp 7 204 (qi_iload 2 (qi_iald 1204 (qi_ic (nI 20) (qi_icne (qi_aload 0 (qi_gp 7 195 (qi_iload 3 (qi_iald 1195 (qi_ifne (qi_aload 0 (qi_gp 7 204 (qi_iload 2 (qi_iald 1204 (qi_ic (nI 23) (qi_iceq (qi_iload 4 (qi_ic (nI 25) (qi_icle (qi_iload 4 (qi_ic (nI 8) (qi_iclt (kc_Mo_unseal_187 Po) (qi_aload 0 (qi_iload 3 (qi_iload 2 (qi_iload 4 (qi_ic (nI 8) (qi_isub (qi_callv 4 7 (0, 0) sp_Mo_tag (qi_aload 0 (qi_iload 2 (qi_iload 4 (qi_callv 3 7 (0, 0) sp_Mo_lastEight (qi_lcmp (qi_ifeq (qi_aload 0 (qi_ic (-1) (qi_pi 7 214 (qi_ic (nI 0) (qi_istore 5 (kc_Mo_unseal_198 Po)))))) (kc_Mo_unseal_187 Po))))))))))))))))) (qi_ic (nI 22) (qi_iret (0, 0) Po))))) (qi_ic (nI 10) (qi_iret (0, 0) Po)))))))) (qi_aload 0 (qi_aload 0 (qi_gp 7 204 (qi_iload 2 (qi_iald 1204 (qi_pi 7 213 (qi_aload 0 (qi_iload 4 (qi_pi 7 214 (qi_ic (nI 0) (qi_istore 5 (kc_Mo_unseal_88 Po))))))))))))))))) (qi_iload 4 (qi_ic (nI 1) (qi_icne (kc_Mo_unseal_57 Po) (qi_aload 0 (qi_gp 7 206 (qi_ic (nI 40) (qi_iload 2 (qi_imul (qi_iald 1206 (qi_ic (nI 1) (qi_icne (kc_Mo_unseal_57 Po) (qi_aload 0 (qi_gp 7 195 (qi_iload 3 (qi_iald 1195 (qi_ic (nI 2) (qi_icge (kc_Mo_unseal_57 Po) (qi_ic (nI 100) (kc_Mo_unseal_59 Po))))))))))))))))))))))))))))))))))
abbrev kS_Mo_unseal (l : Launch) (D : va_G) (E : Nat → ClassId) (B : Nat) (sc : qa_Z) (Po : Option Value → qa_M → Prop) (pc : Nat) (k : qa_K) : Prop := qa_S l "SealedRecordsModel" prog_8_method_25_code 6 (some .int) false D E B rm_Mo_unseal sc (qa_Qf D E B rm_Mo_unseal Po) pc k
theorem ks_Mo_unseal_311 (l : Launch) (D : va_G) (E : Nat → ClassId) (B : Nat) (sc : qa_Z) (Po : Option Value → qa_M → Prop) : kS_Mo_unseal l D E B sc Po 311 (kc_Mo_unseal_311 Po) := (qs_iret kd_Mo_unseal_311)
theorem ks_Mo_unseal_295 (l : Launch) (D : va_G) (E : Nat → ClassId) (B : Nat) (sc : qa_Z) (Po : Option Value → qa_M → Prop) : kS_Mo_unseal l D E B sc Po 295 (kc_Mo_unseal_295 Po) := (fp_213 ww_344 kd_Mo_unseal_295 (qs_aload_n kd_Mo_unseal_298 rfl (fg_214 ww_345 kd_Mo_unseal_299 (qs_ifge (tgt := 310) kd_Mo_unseal_302 (by decide) (qs_iconst kd_Mo_unseal_310 (by decide) (ks_Mo_unseal_311 l D E B sc Po)) (qs_bipush kd_Mo_unseal_305 (by decide) (qs_goto (tgt := 311) kd_Mo_unseal_307 (by decide) (ks_Mo_unseal_311 l D E B sc Po)))))))
theorem ks_Mo_unseal_255 (l : Launch) (D : va_G) (E : Nat → ClassId) (B : Nat) (sc : qa_Z) (Po : Option Value → qa_M → Prop) {k198 : qa_K} (hk198 : kS_Mo_unseal l D E B sc Po 198 k198) : kS_Mo_unseal l D E B sc Po 255 (kc_Mo_unseal_255 Po k198) := (fp_214 ww_345 kd_Mo_unseal_255 (qs_iinc kd_Mo_unseal_258 (by decide) (by decide) (qs_goto (tgt := 198) kd_Mo_unseal_261 (by decide) hk198)))
theorem kt_Mo_unseal_198 (l : Launch) (D : va_G) (E : Nat → ClassId) (B : Nat) (sc : qa_Z) (Po : Option Value → qa_M → Prop) {k198 : qa_K} (hk198 : kS_Mo_unseal l D E B sc Po 198 k198) : kS_Mo_unseal l D E B sc Po 198 (kb_Mo_unseal_198 Po k198) := (qs_iload kd_Mo_unseal_198 (qs_iload kd_Mo_unseal_200 (qs_bipush kd_Mo_unseal_202 (by decide) (qs_isub kd_Mo_unseal_204 (qs_icge (tgt := 264) kd_Mo_unseal_205 (by decide) (qs_aload_n kd_Mo_unseal_264 rfl (fg_197 ww_281 kd_Mo_unseal_265 (qs_iload_n kd_Mo_unseal_268 rfl (qs_dup2 kd_Mo_unseal_269 (qs_iald (κ := 1197) rfl (by decide) kd_Mo_unseal_270 (qs_iconst kd_Mo_unseal_271 (by decide) (qs_iadd kd_Mo_unseal_272 (qs_iast (κ := 1197) rfl (by decide) kd_Mo_unseal_273 (qs_aload_n kd_Mo_unseal_274 rfl (qs_aload_n kd_Mo_unseal_275 rfl (fg_214 ww_345 kd_Mo_unseal_276 (qs_ifge (tgt := 286) kd_Mo_unseal_279 (by decide) (qs_aload_n kd_Mo_unseal_286 rfl (fg_215 ww_298 kd_Mo_unseal_287 (qs_aload_n kd_Mo_unseal_290 rfl (fg_214 ww_345 kd_Mo_unseal_291 (qs_iald (κ := 1215) rfl (by decide) kd_Mo_unseal_294 (ks_Mo_unseal_295 l D E B sc Po)))))) (qs_iconst kd_Mo_unseal_282 (by decide) (qs_goto (tgt := 295) kd_Mo_unseal_283 (by decide) (ks_Mo_unseal_295 l D E B sc Po))))))))))))))) (qs_aload_n kd_Mo_unseal_208 rfl (fg_215 ww_298 kd_Mo_unseal_209 (qs_iload kd_Mo_unseal_212 (qs_aload_n kd_Mo_unseal_214 rfl (fg_206 ww_291 kd_Mo_unseal_215 (qs_bipush kd_Mo_unseal_218 (by decide) (qs_iload_n kd_Mo_unseal_220 rfl (qs_imul kd_Mo_unseal_221 (qs_iload kd_Mo_unseal_222 (qs_iadd kd_Mo_unseal_224 (qs_iald (κ := 1206) rfl (by decide) kd_Mo_unseal_225 (qs_aload_n kd_Mo_unseal_226 rfl (qs_iload_n kd_Mo_unseal_227 rfl (qs_iload kd_Mo_unseal_228 (qs_callv (ci := 6) (ct_Mo_stream l sc) ww_328 (by decide) rfl (by decide) ww_329 ww_330 ww_331 ww_13 yd_Mo_stream kd_Mo_unseal_230 (qs_ixor kd_Mo_unseal_233 (qs_iast (κ := 1215) rfl (by decide) kd_Mo_unseal_234 (qs_aload_n kd_Mo_unseal_235 rfl (qs_aload_n kd_Mo_unseal_236 rfl (fg_215 ww_298 kd_Mo_unseal_237 (qs_iload kd_Mo_unseal_240 (qs_iald (κ := 1215) rfl (by decide) kd_Mo_unseal_242 (qs_ifeq (tgt := 251) kd_Mo_unseal_243 (by decide) (qs_aload_n kd_Mo_unseal_251 rfl (fg_214 ww_345 kd_Mo_unseal_252 (ks_Mo_unseal_255 l D E B sc Po hk198))) (qs_iload kd_Mo_unseal_246 (qs_goto (tgt := 255) kd_Mo_unseal_248 (by decide) (ks_Mo_unseal_255 l D E B sc Po hk198)))))))))))))))))))))))))))))))
theorem ks_Mo_unseal_198 (l : Launch) (D : va_G) (E : Nat → ClassId) (B : Nat) (sc : qa_Z) (Po : Option Value → qa_M → Prop) : kS_Mo_unseal l D E B sc Po 198 (kc_Mo_unseal_198 Po) := qs_loop fun k198 hk198 => kt_Mo_unseal_198 l D E B sc Po hk198
theorem ks_Mo_unseal_187 (l : Launch) (D : va_G) (E : Nat → ClassId) (B : Nat) (sc : qa_Z) (Po : Option Value → qa_M → Prop) : kS_Mo_unseal l D E B sc Po 187 (kc_Mo_unseal_187 Po) := (qs_bipush kd_Mo_unseal_187 (by decide) (qs_iret kd_Mo_unseal_189))
theorem ks_Mo_unseal_133 (l : Launch) (D : va_G) (E : Nat → ClassId) (B : Nat) (sc : qa_Z) (Po : Option Value → qa_M → Prop) : kS_Mo_unseal l D E B sc Po 133 (kc_Mo_unseal_133 Po) := (qs_iret kd_Mo_unseal_133)
theorem kt_Mo_unseal_88 (l : Launch) (D : va_G) (E : Nat → ClassId) (B : Nat) (sc : qa_Z) (Po : Option Value → qa_M → Prop) {k88 : qa_K} (hk88 : kS_Mo_unseal l D E B sc Po 88 k88) : kS_Mo_unseal l D E B sc Po 88 (kb_Mo_unseal_88 Po k88) := (qs_iload kd_Mo_unseal_88 (qs_iload kd_Mo_unseal_90 (qs_icge (tgt := 120) kd_Mo_unseal_92 (by decide) (qs_iload kd_Mo_unseal_120 (qs_bipush kd_Mo_unseal_122 (by decide) (qs_icle (tgt := 132) kd_Mo_unseal_124 (by decide) (qs_iconst kd_Mo_unseal_132 (by decide) (ks_Mo_unseal_133 l D E B sc Po)) (qs_bipush kd_Mo_unseal_127 (by decide) (qs_goto (tgt := 133) kd_Mo_unseal_129 (by decide) (ks_Mo_unseal_133 l D E B sc Po)))))) (qs_aload_n kd_Mo_unseal_95 rfl (fg_215 ww_298 kd_Mo_unseal_96 (qs_iload kd_Mo_unseal_99 (qs_aload_n kd_Mo_unseal_101 rfl (fg_206 ww_291 kd_Mo_unseal_102 (qs_bipush kd_Mo_unseal_105 (by decide) (qs_iload_n kd_Mo_unseal_107 rfl (qs_imul kd_Mo_unseal_108 (qs_iload kd_Mo_unseal_109 (qs_iadd kd_Mo_unseal_111 (qs_iald (κ := 1206) rfl (by decide) kd_Mo_unseal_112 (qs_iast (κ := 1215) rfl (by decide) kd_Mo_unseal_113 (qs_iinc kd_Mo_unseal_114 (by decide) (by decide) (qs_goto (tgt := 88) kd_Mo_unseal_117 (by decide) hk88)))))))))))))))))
theorem ks_Mo_unseal_88 (l : Launch) (D : va_G) (E : Nat → ClassId) (B : Nat) (sc : qa_Z) (Po : Option Value → qa_M → Prop) : kS_Mo_unseal l D E B sc Po 88 (kc_Mo_unseal_88 Po) := qs_loop fun k88 hk88 => kt_Mo_unseal_88 l D E B sc Po hk88
theorem ks_Mo_unseal_59 (l : Launch) (D : va_G) (E : Nat → ClassId) (B : Nat) (sc : qa_Z) (Po : Option Value → qa_M → Prop) : kS_Mo_unseal l D E B sc Po 59 (kc_Mo_unseal_59 Po) := (qs_iret kd_Mo_unseal_59)
theorem ks_Mo_unseal_57 (l : Launch) (D : va_G) (E : Nat → ClassId) (B : Nat) (sc : qa_Z) (Po : Option Value → qa_M → Prop) : kS_Mo_unseal l D E B sc Po 57 (kc_Mo_unseal_57 Po) := (qs_bipush kd_Mo_unseal_57 (by decide) (ks_Mo_unseal_59 l D E B sc Po))
theorem ks_Mo_unseal_0 (l : Launch) (D : va_G) (E : Nat → ClassId) (B : Nat) (sc : qa_Z) (Po : Option Value → qa_M → Prop) : kS_Mo_unseal l D E B sc Po 0 (kc_Mo_unseal_0 Po) := (qs_iconst kd_Mo_unseal_0 (by decide) (qs_iload_n kd_Mo_unseal_1 rfl (qs_iadd kd_Mo_unseal_2 (qs_istore_n kd_Mo_unseal_3 rfl (by decide) (qs_aload_n kd_Mo_unseal_4 rfl (fg_205 ww_290 kd_Mo_unseal_5 (qs_iload_n kd_Mo_unseal_8 rfl (qs_iald (κ := 1205) rfl (by decide) kd_Mo_unseal_9 (qs_istore kd_Mo_unseal_10 (by decide) (qs_aload_n kd_Mo_unseal_12 rfl (fg_204 ww_289 kd_Mo_unseal_13 (qs_iload_n kd_Mo_unseal_16 rfl (qs_iald (κ := 1204) rfl (by decide) kd_Mo_unseal_17 (qs_bipush kd_Mo_unseal_18 (by decide) (qs_icne (tgt := 60) kd_Mo_unseal_20 (by decide) (qs_aload_n kd_Mo_unseal_60 rfl (fg_195 ww_279 kd_Mo_unseal_61 (qs_iload_n kd_Mo_unseal_64 rfl (qs_iald (κ := 1195) rfl (by decide) kd_Mo_unseal_65 (qs_ifne (tgt := 134) kd_Mo_unseal_66 (by decide) (qs_aload_n kd_Mo_unseal_134 rfl (fg_204 ww_289 kd_Mo_unseal_135 (qs_iload_n kd_Mo_unseal_138 rfl (qs_iald (κ := 1204) rfl (by decide) kd_Mo_unseal_139 (qs_bipush kd_Mo_unseal_140 (by decide) (qs_iceq (tgt := 148) kd_Mo_unseal_142 (by decide) (qs_iload kd_Mo_unseal_148 (qs_bipush kd_Mo_unseal_150 (by decide) (qs_icle (tgt := 158) kd_Mo_unseal_152 (by decide) (qs_iload kd_Mo_unseal_158 (qs_bipush kd_Mo_unseal_160 (by decide) (qs_iclt (tgt := 187) kd_Mo_unseal_162 (by decide) (ks_Mo_unseal_187 l D E B sc Po) (qs_aload_n kd_Mo_unseal_165 rfl (qs_iload_n kd_Mo_unseal_166 rfl (qs_iload_n kd_Mo_unseal_167 rfl (qs_iload kd_Mo_unseal_168 (qs_bipush kd_Mo_unseal_170 (by decide) (qs_isub kd_Mo_unseal_172 (qs_callv (ci := 6) (ct_Mo_tag l sc) ww_324 (by decide) rfl (by decide) ww_325 ww_326 ww_327 ww_13 yd_Mo_tag kd_Mo_unseal_173 (qs_aload_n kd_Mo_unseal_176 rfl (qs_iload_n kd_Mo_unseal_177 rfl (qs_iload kd_Mo_unseal_178 (qs_callv (ci := 6) (ct_Mo_lastEight l sc) ww_346 (by decide) rfl (by decide) ww_347 ww_348 ww_349 ww_13 yd_Mo_lastEight kd_Mo_unseal_180 (qs_lcmp kd_Mo_unseal_183 (qs_ifeq (tgt := 190) kd_Mo_unseal_184 (by decide) (qs_aload_n kd_Mo_unseal_190 rfl (qs_iconst kd_Mo_unseal_191 (by decide) (fp_214 ww_345 kd_Mo_unseal_192 (qs_iconst kd_Mo_unseal_195 (by decide) (qs_istore kd_Mo_unseal_196 (by decide) (ks_Mo_unseal_198 l D E B sc Po)))))) (ks_Mo_unseal_187 l D E B sc Po))))))))))))))))) (qs_bipush kd_Mo_unseal_155 (by decide) (qs_iret kd_Mo_unseal_157))))) (qs_bipush kd_Mo_unseal_145 (by decide) (qs_iret kd_Mo_unseal_147)))))))) (qs_aload_n kd_Mo_unseal_69 rfl (qs_aload_n kd_Mo_unseal_70 rfl (fg_204 ww_289 kd_Mo_unseal_71 (qs_iload_n kd_Mo_unseal_74 rfl (qs_iald (κ := 1204) rfl (by decide) kd_Mo_unseal_75 (fp_213 ww_344 kd_Mo_unseal_76 (qs_aload_n kd_Mo_unseal_79 rfl (qs_iload kd_Mo_unseal_80 (fp_214 ww_345 kd_Mo_unseal_82 (qs_iconst kd_Mo_unseal_85 (by decide) (qs_istore kd_Mo_unseal_86 (by decide) (ks_Mo_unseal_88 l D E B sc Po))))))))))))))))) (qs_iload kd_Mo_unseal_23 (qs_iconst kd_Mo_unseal_25 (by decide) (qs_icne (tgt := 57) kd_Mo_unseal_26 (by decide) (ks_Mo_unseal_57 l D E B sc Po) (qs_aload_n kd_Mo_unseal_29 rfl (fg_206 ww_291 kd_Mo_unseal_30 (qs_bipush kd_Mo_unseal_33 (by decide) (qs_iload_n kd_Mo_unseal_35 rfl (qs_imul kd_Mo_unseal_36 (qs_iald (κ := 1206) rfl (by decide) kd_Mo_unseal_37 (qs_iconst kd_Mo_unseal_38 (by decide) (qs_icne (tgt := 57) kd_Mo_unseal_39 (by decide) (ks_Mo_unseal_57 l D E B sc Po) (qs_aload_n kd_Mo_unseal_42 rfl (fg_195 ww_279 kd_Mo_unseal_43 (qs_iload_n kd_Mo_unseal_46 rfl (qs_iald (κ := 1195) rfl (by decide) kd_Mo_unseal_47 (qs_iconst kd_Mo_unseal_48 (by decide) (qs_icge (tgt := 57) kd_Mo_unseal_49 (by decide) (ks_Mo_unseal_57 l D E B sc Po) (qs_bipush kd_Mo_unseal_52 (by decide) (qs_goto (tgt := 59) kd_Mo_unseal_54 (by decide) (ks_Mo_unseal_59 l D E B sc Po)))))))))))))))))))))))))))))))))))
def sp_Mo_unseal : qa_sp := fun args M Po => match args with
  | [.ref a0, .int a1, .int a2] => kc_Mo_unseal_0 Po (0, 0) [some (.ref a0), some (.int a1), some (.int a2), none, none, none] [] M
  | _ => False
theorem ct_Mo_unseal (l : Launch) (sc : qa_Z) : qa_T l ym_Mo_unseal (Cond.code ym_Mo_unseal prog_8_method_25_code 6 (some .int) :: q_W0) rm_Mo_unseal sc (sp_Mo_unseal) := by
  intro D E B args M Po h
  unfold sp_Mo_unseal at h
  split at h
  · exact qa_ct (ini := false) (by decide) (by decide) (Nat.le_of_ble_eq_true rfl) (qa_lvok rfl) (ks_Mo_unseal_0 l D E B sc Po) h
  · exact h.elim
