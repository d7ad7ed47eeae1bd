theorem kd_En_judge_0 : decode prog_2_method_14_code 0 = .ok (.aload_n 0, 1) := by decide +kernel
theorem kd_En_judge_1 : decode prog_2_method_14_code 1 = .ok (.getfield 52, 3) := by decide +kernel
theorem kd_En_judge_4 : decode prog_2_method_14_code 4 = .ok (.getfield 80, 3) := by decide +kernel
theorem kd_En_judge_7 : decode prog_2_method_14_code 7 = .ok (.istore_n 1, 1) := by decide +kernel
theorem kd_En_judge_8 : decode prog_2_method_14_code 8 = .ok (.iload_n 1, 1) := by decide +kernel
theorem kd_En_judge_9 : decode prog_2_method_14_code 9 = .ok (.bipush 21, 2) := by decide +kernel
theorem kd_En_judge_11 : decode prog_2_method_14_code 11 = .ok (.if_icmp .eq 18, 3) := by decide +kernel
theorem kd_En_judge_14 : decode prog_2_method_14_code 14 = .ok (.iload_n 1, 1) := by decide +kernel
theorem kd_En_judge_15 : decode prog_2_method_14_code 15 = .ok (.bipush 22, 2) := by decide +kernel
theorem kd_En_judge_17 : decode prog_2_method_14_code 17 = .ok (.if_icmp .eq 12, 3) := by decide +kernel
theorem kd_En_judge_20 : decode prog_2_method_14_code 20 = .ok (.iload_n 1, 1) := by decide +kernel
theorem kd_En_judge_21 : decode prog_2_method_14_code 21 = .ok (.bipush 23, 2) := by decide +kernel
theorem kd_En_judge_23 : decode prog_2_method_14_code 23 = .ok (.if_icmp .eq 6, 3) := by decide +kernel
theorem kd_En_judge_26 : decode prog_2_method_14_code 26 = .ok (.bipush 10, 2) := by decide +kernel
theorem kd_En_judge_28 : decode prog_2_method_14_code 28 = .ok (.ireturn, 1) := by decide +kernel
theorem kd_En_judge_29 : decode prog_2_method_14_code 29 = .ok (.iload_n 1, 1) := by decide +kernel
theorem kd_En_judge_30 : decode prog_2_method_14_code 30 = .ok (.bipush 23, 2) := by decide +kernel
theorem kd_En_judge_32 : decode prog_2_method_14_code 32 = .ok (.if_icmp .ne 17, 3) := by decide +kernel
theorem kd_En_judge_35 : decode prog_2_method_14_code 35 = .ok (.aload_n 0, 1) := by decide +kernel
theorem kd_En_judge_36 : decode prog_2_method_14_code 36 = .ok (.getfield 18, 3) := by decide +kernel
theorem kd_En_judge_39 : decode prog_2_method_14_code 39 = .ok (.getfield 70, 3) := by decide +kernel
theorem kd_En_judge_42 : decode prog_2_method_14_code 42 = .ok (.iconst 2, 1) := by decide +kernel
theorem kd_En_judge_43 : decode prog_2_method_14_code 43 = .ok (.if_icmp .eq 6, 3) := by decide +kernel
theorem kd_En_judge_46 : decode prog_2_method_14_code 46 = .ok (.bipush 10, 2) := by decide +kernel
theorem kd_En_judge_48 : decode prog_2_method_14_code 48 = .ok (.ireturn, 1) := by decide +kernel
theorem kd_En_judge_49 : decode prog_2_method_14_code 49 = .ok (.aload_n 0, 1) := by decide +kernel
theorem kd_En_judge_50 : decode prog_2_method_14_code 50 = .ok (.getfield 45, 3) := by decide +kernel
theorem kd_En_judge_53 : decode prog_2_method_14_code 53 = .ok (.invokevirtual 149, 3) := by decide +kernel
theorem kd_En_judge_56 : decode prog_2_method_14_code 56 = .ok (.ifCond .eq 12, 3) := by decide +kernel
theorem kd_En_judge_59 : decode prog_2_method_14_code 59 = .ok (.iload_n 1, 1) := by decide +kernel
theorem kd_En_judge_60 : decode prog_2_method_14_code 60 = .ok (.bipush 22, 2) := by decide +kernel
theorem kd_En_judge_62 : decode prog_2_method_14_code 62 = .ok (.if_icmp .eq 6, 3) := by decide +kernel
theorem kd_En_judge_65 : decode prog_2_method_14_code 65 = .ok (.bipush 10, 2) := by decide +kernel
theorem kd_En_judge_67 : decode prog_2_method_14_code 67 = .ok (.ireturn, 1) := by decide +kernel
theorem kd_En_judge_68 : decode prog_2_method_14_code 68 = .ok (.iload_n 1, 1) := by decide +kernel
theorem kd_En_judge_69 : decode prog_2_method_14_code 69 = .ok (.bipush 21, 2) := by decide +kernel
theorem kd_En_judge_71 : decode prog_2_method_14_code 71 = .ok (.if_icmp .ne 17, 3) := by decide +kernel
theorem kd_En_judge_74 : decode prog_2_method_14_code 74 = .ok (.aload_n 0, 1) := by decide +kernel
theorem kd_En_judge_75 : decode prog_2_method_14_code 75 = .ok (.getfield 52, 3) := by decide +kernel
theorem kd_En_judge_78 : decode prog_2_method_14_code 78 = .ok (.getfield 73, 3) := by decide +kernel
theorem kd_En_judge_81 : decode prog_2_method_14_code 81 = .ok (.iconst 2, 1) := by decide +kernel
theorem kd_En_judge_82 : decode prog_2_method_14_code 82 = .ok (.if_icmp .eq 6, 3) := by decide +kernel
theorem kd_En_judge_85 : decode prog_2_method_14_code 85 = .ok (.bipush 50, 2) := by decide +kernel
theorem kd_En_judge_87 : decode prog_2_method_14_code 87 = .ok (.ireturn, 1) := by decide +kernel
theorem kd_En_judge_88 : decode prog_2_method_14_code 88 = .ok (.iload_n 1, 1) := by decide +kernel
theorem kd_En_judge_89 : decode prog_2_method_14_code 89 = .ok (.bipush 22, 2) := by decide +kernel
theorem kd_En_judge_91 : decode prog_2_method_14_code 91 = .ok (.if_icmp .ne 10, 3) := by decide +kernel
theorem kd_En_judge_94 : decode prog_2_method_14_code 94 = .ok (.aload_n 0, 1) := by decide +kernel
theorem kd_En_judge_95 : decode prog_2_method_14_code 95 = .ok (.invokevirtual 153, 3) := by decide +kernel
theorem kd_En_judge_98 : decode prog_2_method_14_code 98 = .ok (.goto 4, 3) := by decide +kernel
theorem kd_En_judge_101 : decode prog_2_method_14_code 101 = .ok (.iconst 0, 1) := by decide +kernel
theorem kd_En_judge_102 : decode prog_2_method_14_code 102 = .ok (.ireturn, 1) := by decide +kernel
def kc_En_judge_102 (Po : Option Value → qa_M → Prop) : qa_K := (qi_iret (0, 0) Po)
def kc_En_judge_88 (Po : Option Value → qa_M → Prop) : qa_K := (qi_iload 1 (qi_ic (nI 22) (qi_icne (qi_ic (nI 0) (kc_En_judge_102 Po)) (qi_aload 0 (qi_callv 1 6 (0, 0) sp_En_judgeMessages (kc_En_judge_102 Po))))))
def kc_En_judge_68 (Po : Option Value → qa_M → Prop) : qa_K := (qi_iload 1 (qi_ic (nI 21) (qi_icne (kc_En_judge_88 Po) (qi_aload 0 (qi_gp 6 168 (qi_gi 2 34 (qi_ic (nI 2) (qi_iceq (kc_En_judge_88 Po) (qi_ic (nI 50) (qi_iret (0, 0) Po))))))))))
def kc_En_judge_49 (Po : Option Value → qa_M → Prop) : qa_K := (qi_aload 0 (qi_gp 6 166 (qi_callv 1 5 (0, 0) sp_Ms_isOpen (qi_ifeq (kc_En_judge_68 Po) (qi_iload 1 (qi_ic (nI 22) (qi_iceq (kc_En_judge_68 Po) (qi_ic (nI 10) (qi_iret (0, 0) Po)))))))))
def kc_En_judge_29 (Po : Option Value → qa_M → Prop) : qa_K := (qi_iload 1 (qi_ic (nI 23) (qi_icne (kc_En_judge_49 Po) (qi_aload 0 (qi_gp 6 162 (qi_gi 4 96 (qi_ic (nI 2) (qi_iceq (kc_En_judge_49 Po) (qi_ic (nI 10) (qi_iret (0, 0) Po))))))))))
def kc_En_judge_0 (Po : Option Value → qa_M → Prop) : qa_K := (qi_aload 0 (qi_gp 6 168 (qi_gi 2 33 (qi_istore 1 (qi_iload 1 (qi_ic (nI 21) (qi_iceq (kc_En_judge_29 Po) (qi_iload 1 (qi_ic (nI 22) (qi_iceq (kc_En_judge_29 Po) (qi_iload 1 (qi_ic (nI 23) (qi_iceq (kc_En_judge_29 Po) (qi_ic (nI 10) (qi_iret (0, 0) Po)))))))))))))))
abbrev kS_En_judge (l : Launch) (D : va_G) (E : Nat → ClassId) (B : Nat) (sc : qa_Z) (Po : Option Value → qa_M → Prop) (pc : Nat) (k : qa_K) : Prop := qa_S l "SealedRecords$End" prog_2_method_14_code 2 (some .int) false D E B rm_En_judge sc (qa_Qf D E B rm_En_judge Po) pc k
theorem ks_En_judge_102 (l : Launch) (D : va_G) (E : Nat → ClassId) (B : Nat) (sc : qa_Z) (Po : Option Value → qa_M → Prop) : kS_En_judge l D E B sc Po 102 (kc_En_judge_102 Po) := (qs_iret kd_En_judge_102)
theorem ks_En_judge_88 (l : Launch) (D : va_G) (E : Nat → ClassId) (B : Nat) (sc : qa_Z) (Po : Option Value → qa_M → Prop) : kS_En_judge l D E B sc Po 88 (kc_En_judge_88 Po) := (qs_iload_n kd_En_judge_88 rfl (qs_bipush kd_En_judge_89 (by decide) (qs_icne (tgt := 101) kd_En_judge_91 (by decide) (qs_iconst kd_En_judge_101 (by decide) (ks_En_judge_102 l D E B sc Po)) (qs_aload_n kd_En_judge_94 rfl (qs_callv (ci := 5) (ct_En_judgeMessages l sc) ww_218 (by decide) rfl (by decide) ww_219 ww_220 ww_221 ww_11 yd_En_judgeMessages kd_En_judge_95 (qs_goto (tgt := 102) kd_En_judge_98 (by decide) (ks_En_judge_102 l D E B sc Po)))))))
theorem ks_En_judge_68 (l : Launch) (D : va_G) (E : Nat → ClassId) (B : Nat) (sc : qa_Z) (Po : Option Value → qa_M → Prop) : kS_En_judge l D E B sc Po 68 (kc_En_judge_68 Po) := (qs_iload_n kd_En_judge_68 rfl (qs_bipush kd_En_judge_69 (by decide) (qs_icne (tgt := 88) kd_En_judge_71 (by decide) (ks_En_judge_88 l D E B sc Po) (qs_aload_n kd_En_judge_74 rfl (fg_168 ww_49 kd_En_judge_75 (fg_34 ww_127 kd_En_judge_78 (qs_iconst kd_En_judge_81 (by decide) (qs_iceq (tgt := 88) kd_En_judge_82 (by decide) (ks_En_judge_88 l D E B sc Po) (qs_bipush kd_En_judge_85 (by decide) (qs_iret kd_En_judge_87))))))))))
theorem ks_En_judge_49 (l : Launch) (D : va_G) (E : Nat → ClassId) (B : Nat) (sc : qa_Z) (Po : Option Value → qa_M → Prop) : kS_En_judge l D E B sc Po 49 (kc_En_judge_49 Po) := (qs_aload_n kd_En_judge_49 rfl (fg_166 ww_47 kd_En_judge_50 (qs_callv (ci := 4) (ct_Ms_isOpen l sc) ww_95 (by decide) rfl (by decide) ww_222 ww_97 ww_98 ww_9 yd_Ms_isOpen kd_En_judge_53 (qs_ifeq (tgt := 68) kd_En_judge_56 (by decide) (ks_En_judge_68 l D E B sc Po) (qs_iload_n kd_En_judge_59 rfl (qs_bipush kd_En_judge_60 (by decide) (qs_iceq (tgt := 68) kd_En_judge_62 (by decide) (ks_En_judge_68 l D E B sc Po) (qs_bipush kd_En_judge_65 (by decide) (qs_iret kd_En_judge_67)))))))))
theorem ks_En_judge_29 (l : Launch) (D : va_G) (E : Nat → ClassId) (B : Nat) (sc : qa_Z) (Po : Option Value → qa_M → Prop) : kS_En_judge l D E B sc Po 29 (kc_En_judge_29 Po) := (qs_iload_n kd_En_judge_29 rfl (qs_bipush kd_En_judge_30 (by decide) (qs_icne (tgt := 49) kd_En_judge_32 (by decide) (ks_En_judge_49 l D E B sc Po) (qs_aload_n kd_En_judge_35 rfl (fg_162 ww_33 kd_En_judge_36 (fg_96 ww_126 kd_En_judge_39 (qs_iconst kd_En_judge_42 (by decide) (qs_iceq (tgt := 49) kd_En_judge_43 (by decide) (ks_En_judge_49 l D E B sc Po) (qs_bipush kd_En_judge_46 (by decide) (qs_iret kd_En_judge_48))))))))))
theorem ks_En_judge_0 (l : Launch) (D : va_G) (E : Nat → ClassId) (B : Nat) (sc : qa_Z) (Po : Option Value → qa_M → Prop) : kS_En_judge l D E B sc Po 0 (kc_En_judge_0 Po) := (qs_aload_n kd_En_judge_0 rfl (fg_168 ww_49 kd_En_judge_1 (fg_33 ww_162 kd_En_judge_4 (qs_istore_n kd_En_judge_7 rfl (by decide) (qs_iload_n kd_En_judge_8 rfl (qs_bipush kd_En_judge_9 (by decide) (qs_iceq (tgt := 29) kd_En_judge_11 (by decide) (ks_En_judge_29 l D E B sc Po) (qs_iload_n kd_En_judge_14 rfl (qs_bipush kd_En_judge_15 (by decide) (qs_iceq (tgt := 29) kd_En_judge_17 (by decide) (ks_En_judge_29 l D E B sc Po) (qs_iload_n kd_En_judge_20 rfl (qs_bipush kd_En_judge_21 (by decide) (qs_iceq (tgt := 29) kd_En_judge_23 (by decide) (ks_En_judge_29 l D E B sc Po) (qs_bipush kd_En_judge_26 (by decide) (qs_iret kd_En_judge_28)))))))))))))))
def sp_En_judge : qa_sp := fun args M Po => match args with
  | [.ref a0] => kc_En_judge_0 Po (0, 0) [some (.ref a0), none] [] M
  | _ => False
theorem ct_En_judge (l : Launch) (sc : qa_Z) : qa_T l ym_En_judge (Cond.code ym_En_judge prog_2_method_14_code 2 (some .int) :: q_W0) rm_En_judge sc (sp_En_judge) := by
  intro D E B args M Po h
  unfold sp_En_judge at h
  split at h
  · exact qa_ct (ini := false) (by decide) (by decide) (Nat.le_of_ble_eq_true rfl) (qa_lvok rfl) (ks_En_judge_0 l D E B sc Po) h
  · exact h.elim
theorem kd_En_changeKey_0 : decode prog_2_method_19_code 0 = .ok (.aload_n 0, 1) := by decide +kernel
theorem kd_En_changeKey_1 : decode prog_2_method_19_code 1 = .ok (.getfield 18, 3) := by decide +kernel
theorem kd_En_changeKey_4 : decode prog_2_method_19_code 4 = .ok (.invokevirtual 183, 3) := by decide +kernel
theorem kd_En_changeKey_7 : decode prog_2_method_19_code 7 = .ok (.iload_n 1, 1) := by decide +kernel
theorem kd_En_changeKey_8 : decode prog_2_method_19_code 8 = .ok (.iconst 1, 1) := by decide +kernel
theorem kd_En_changeKey_9 : decode prog_2_method_19_code 9 = .ok (.if_icmp .ne 8, 3) := by decide +kernel
theorem kd_En_changeKey_12 : decode prog_2_method_19_code 12 = .ok (.aload_n 0, 1) := by decide +kernel
theorem kd_En_changeKey_13 : decode prog_2_method_19_code 13 = .ok (.iconst 1, 1) := by decide +kernel
theorem kd_En_changeKey_14 : decode prog_2_method_19_code 14 = .ok (.putfield 186, 3) := by decide +kernel
theorem kd_En_changeKey_17 : decode prog_2_method_19_code 17 = .ok (.return_, 1) := by decide +kernel
def kc_En_changeKey_17 (Po : Option Value → qa_M → Prop) : qa_K := (qi_vret (0, 0) Po)
def kc_En_changeKey_0 (Po : Option Value → qa_M → Prop) : qa_K := (qi_aload 0 (qi_gp 6 162 (qi_callv 1 4 (0, 0) sp_Sd_changeSecret (qi_iload 1 (qi_ic (nI 1) (qi_icne (kc_En_changeKey_17 Po) (qi_aload 0 (qi_ic (nI 1) (qi_pz 6 172 (kc_En_changeKey_17 Po))))))))))
abbrev kS_En_changeKey (l : Launch) (D : va_G) (E : Nat → ClassId) (B : Nat) (sc : qa_Z) (Po : Option Value → qa_M → Prop) (pc : Nat) (k : qa_K) : Prop := qa_S l "SealedRecords$End" prog_2_method_19_code 2 none false D E B rm_En_changeKey sc (qa_Qf D E B rm_En_changeKey Po) pc k
theorem ks_En_changeKey_17 (l : Launch) (D : va_G) (E : Nat → ClassId) (B : Nat) (sc : qa_Z) (Po : Option Value → qa_M → Prop) : kS_En_changeKey l D E B sc Po 17 (kc_En_changeKey_17 Po) := (qs_vret kd_En_changeKey_17)
theorem ks_En_changeKey_0 (l : Launch) (D : va_G) (E : Nat → ClassId) (B : Nat) (sc : qa_Z) (Po : Option Value → qa_M → Prop) : kS_En_changeKey l D E B sc Po 0 (kc_En_changeKey_0 Po) := (qs_aload_n kd_En_changeKey_0 rfl (fg_162 ww_33 kd_En_changeKey_1 (qs_callv (ci := 3) (ct_Sd_changeSecret l sc) ww_108 (by decide) rfl (by decide) ww_223 ww_110 ww_111 ww_7 yd_Sd_changeSecret kd_En_changeKey_4 (qs_iload_n kd_En_changeKey_7 rfl (qs_iconst kd_En_changeKey_8 (by decide) (qs_icne (tgt := 17) kd_En_changeKey_9 (by decide) (ks_En_changeKey_17 l D E B sc Po) (qs_aload_n kd_En_changeKey_12 rfl (qs_iconst kd_En_changeKey_13 (by decide) (fp_172 ww_224 kd_En_changeKey_14 (ks_En_changeKey_17 l D E B sc Po))))))))))
def sp_En_changeKey : qa_sp := fun args M Po => match args with
  | [.ref a0, .int a1] => kc_En_changeKey_0 Po (0, 0) [some (.ref a0), some (.int a1)] [] M
  | _ => False
theorem ct_En_changeKey (l : Launch) (sc : qa_Z) : qa_T l ym_En_changeKey (Cond.code ym_En_changeKey prog_2_method_19_code 2 none :: q_W0) rm_En_changeKey sc (sp_En_changeKey) := by
  intro D E B args M Po h
  unfold sp_En_changeKey at h
  split at h
  · exact qa_ct (ini := false) (by decide) (by decide) (Nat.le_of_ble_eq_true rfl) (qa_lvok rfl) (ks_En_changeKey_0 l D E B sc Po) h
  · exact h.elim
theorem kd_En_acceptMessages_0 : decode prog_2_method_18_code 0 = .ok (.iconst 0, 1) := by decide +kernel
theorem kd_En_acceptMessages_1 : decode prog_2_method_18_code 1 = .ok (.istore_n 1, 1) := by decide +kernel
theorem kd_En_acceptMessages_2 : decode prog_2_method_18_code 2 = .ok (.iload_n 1, 1) := by decide +kernel
theorem kd_En_acceptMessages_3 : decode prog_2_method_18_code 3 = .ok (.aload_n 0, 1) := by decide +kernel
theorem kd_En_acceptMessages_4 : decode prog_2_method_18_code 4 = .ok (.getfield 52, 3) := by decide +kernel
theorem kd_En_acceptMessages_7 : decode prog_2_method_18_code 7 = .ok (.getfield 73, 3) := by decide +kernel
theorem kd_En_acceptMessages_10 : decode prog_2_method_18_code 10 = .ok (.if_icmp .ge 47, 3) := by decide +kernel
theorem kd_En_acceptMessages_13 : decode prog_2_method_18_code 13 = .ok (.aload_n 0, 1) := by decide +kernel
theorem kd_En_acceptMessages_14 : decode prog_2_method_18_code 14 = .ok (.getfield 52, 3) := by decide +kernel
theorem kd_En_acceptMessages_17 : decode prog_2_method_18_code 17 = .ok (.getfield 103, 3) := by decide +kernel
theorem kd_En_acceptMessages_20 : decode prog_2_method_18_code 20 = .ok (.iload_n 1, 1) := by decide +kernel
theorem kd_En_acceptMessages_21 : decode prog_2_method_18_code 21 = .ok (.iaload, 1) := by decide +kernel
theorem kd_En_acceptMessages_22 : decode prog_2_method_18_code 22 = .ok (.istore_n 2, 1) := by decide +kernel
theorem kd_En_acceptMessages_23 : decode prog_2_method_18_code 23 = .ok (.aload_n 0, 1) := by decide +kernel
theorem kd_En_acceptMessages_24 : decode prog_2_method_18_code 24 = .ok (.getfield 45, 3) := by decide +kernel
theorem kd_En_acceptMessages_27 : decode prog_2_method_18_code 27 = .ok (.iload_n 2, 1) := by decide +kernel
theorem kd_En_acceptMessages_28 : decode prog_2_method_18_code 28 = .ok (.invokevirtual 159, 3) := by decide +kernel
theorem kd_En_acceptMessages_31 : decode prog_2_method_18_code 31 = .ok (.ifCond .eq 20, 3) := by decide +kernel
theorem kd_En_acceptMessages_34 : decode prog_2_method_18_code 34 = .ok (.aload_n 0, 1) := by decide +kernel
theorem kd_En_acceptMessages_35 : decode prog_2_method_18_code 35 = .ok (.getfield 45, 3) := by decide +kernel
theorem kd_En_acceptMessages_38 : decode prog_2_method_18_code 38 = .ok (.getfield 163, 3) := by decide +kernel
theorem kd_En_acceptMessages_41 : decode prog_2_method_18_code 41 = .ok (.bipush 24, 2) := by decide +kernel
theorem kd_En_acceptMessages_43 : decode prog_2_method_18_code 43 = .ok (.if_icmp .ne 8, 3) := by decide +kernel
theorem kd_En_acceptMessages_46 : decode prog_2_method_18_code 46 = .ok (.aload_n 0, 1) := by decide +kernel
theorem kd_En_acceptMessages_47 : decode prog_2_method_18_code 47 = .ok (.iload_n 2, 1) := by decide +kernel
theorem kd_En_acceptMessages_48 : decode prog_2_method_18_code 48 = .ok (.invokevirtual 180, 3) := by decide +kernel
theorem kd_En_acceptMessages_51 : decode prog_2_method_18_code 51 = .ok (.iinc 1 1, 3) := by decide +kernel
theorem kd_En_acceptMessages_54 : decode prog_2_method_18_code 54 = .ok (.goto (-52), 3) := by decide +kernel
theorem kd_En_acceptMessages_57 : decode prog_2_method_18_code 57 = .ok (.return_, 1) := by decide +kernel
def kc_En_acceptMessages_51 (Po : Option Value → qa_M → Prop) (k2 : qa_K) : qa_K := (qi_iinc 1 (nI 1) k2)
def kb_En_acceptMessages_2 (Po : Option Value → qa_M → Prop) (k2 : qa_K) : qa_K := (qi_iload 1 (qi_aload 0 (qi_gp 6 168 (qi_gi 2 34 (qi_icge (qi_vret (0, 0) Po) (qi_aload 0 (qi_gp 6 168 (qi_gp 2 32 (qi_iload 1 (qi_iald 1032 (qi_istore 2 (qi_aload 0 (qi_gp 6 166 (qi_iload 2 (qi_callv 2 5 (0, 0) sp_Ms_completesWith (qi_ifeq (kc_En_acceptMessages_51 Po k2) (qi_aload 0 (qi_gp 6 166 (qi_gi 5 128 (qi_ic (nI 24) (qi_icne (kc_En_acceptMessages_51 Po k2) (qi_aload 0 (qi_iload 2 (qi_callv 2 6 (0, 0) sp_En_changeKey (kc_En_acceptMessages_51 Po k2)))))))))))))))))))))))))
def kc_En_acceptMessages_2 (Po : Option Value → qa_M → Prop) : qa_K := qi_loop (kb_En_acceptMessages_2 Po)
def kc_En_acceptMessages_0 (Po : Option Value → qa_M → Prop) : qa_K := (qi_ic (nI 0) (qi_istore 1 (kc_En_acceptMessages_2 Po)))
abbrev kS_En_acceptMessages (l : Launch) (D : va_G) (E : Nat → ClassId) (B : Nat) (sc : qa_Z) (Po : Option Value → qa_M → Prop) (pc : Nat) (k : qa_K) : Prop := qa_S l "SealedRecords$End" prog_2_method_18_code 3 none false D E B rm_En_acceptMessages sc (qa_Qf D E B rm_En_acceptMessages Po) pc k
theorem ks_En_acceptMessages_51 (l : Launch) (D : va_G) (E : Nat → ClassId) (B : Nat) (sc : qa_Z) (Po : Option Value → qa_M → Prop) {k2 : qa_K} (hk2 : kS_En_acceptMessages l D E B sc Po 2 k2) : kS_En_acceptMessages l D E B sc Po 51 (kc_En_acceptMessages_51 Po k2) := (qs_iinc kd_En_acceptMessages_51 (by decide) (by decide) (qs_goto (tgt := 2) kd_En_acceptMessages_54 (by decide) hk2))
theorem kt_En_acceptMessages_2 (l : Launch) (D : va_G) (E : Nat → ClassId) (B : Nat) (sc : qa_Z) (Po : Option Value → qa_M → Prop) {k2 : qa_K} (hk2 : kS_En_acceptMessages l D E B sc Po 2 k2) : kS_En_acceptMessages l D E B sc Po 2 (kb_En_acceptMessages_2 Po k2) := (qs_iload_n kd_En_acceptMessages_2 rfl (qs_aload_n kd_En_acceptMessages_3 rfl (fg_168 ww_49 kd_En_acceptMessages_4 (fg_34 ww_127 kd_En_acceptMessages_7 (qs_icge (tgt := 57) kd_En_acceptMessages_10 (by decide) (qs_vret kd_En_acceptMessages_57) (qs_aload_n kd_En_acceptMessages_13 rfl (fg_168 ww_49 kd_En_acceptMessages_14 (fg_32 ww_140 kd_En_acceptMessages_17 (qs_iload_n kd_En_acceptMessages_20 rfl (qs_iald (κ := 1032) rfl (by decide) kd_En_acceptMessages_21 (qs_istore_n kd_En_acceptMessages_22 rfl (by decide) (qs_aload_n kd_En_acceptMessages_23 rfl (fg_166 ww_47 kd_En_acceptMessages_24 (qs_iload_n kd_En_acceptMessages_27 rfl (qs_callv (ci := 4) (ct_Ms_completesWith l sc) ww_204 (by decide) rfl (by decide) ww_205 ww_206 ww_207 ww_9 yd_Ms_completesWith kd_En_acceptMessages_28 (qs_ifeq (tgt := 51) kd_En_acceptMessages_31 (by decide) (ks_En_acceptMessages_51 l D E B sc Po hk2) (qs_aload_n kd_En_acceptMessages_34 rfl (fg_166 ww_47 kd_En_acceptMessages_35 (fg_128 ww_208 kd_En_acceptMessages_38 (qs_bipush kd_En_acceptMessages_41 (by decide) (qs_icne (tgt := 51) kd_En_acceptMessages_43 (by decide) (ks_En_acceptMessages_51 l D E B sc Po hk2) (qs_aload_n kd_En_acceptMessages_46 rfl (qs_iload_n kd_En_acceptMessages_47 rfl (qs_callv (ci := 5) (ct_En_changeKey l sc) ww_225 (by decide) rfl (by decide) ww_226 ww_227 ww_228 ww_11 yd_En_changeKey kd_En_acceptMessages_48 (ks_En_acceptMessages_51 l D E B sc Po hk2)))))))))))))))))))))))))
theorem ks_En_acceptMessages_2 (l : Launch) (D : va_G) (E : Nat → ClassId) (B : Nat) (sc : qa_Z) (Po : Option Value → qa_M → Prop) : kS_En_acceptMessages l D E B sc Po 2 (kc_En_acceptMessages_2 Po) := qs_loop fun k2 hk2 => kt_En_acceptMessages_2 l D E B sc Po hk2
theorem ks_En_acceptMessages_0 (l : Launch) (D : va_G) (E : Nat → ClassId) (B : Nat) (sc : qa_Z) (Po : Option Value → qa_M → Prop) : kS_En_acceptMessages l D E B sc Po 0 (kc_En_acceptMessages_0 Po) := (qs_iconst kd_En_acceptMessages_0 (by decide) (qs_istore_n kd_En_acceptMessages_1 rfl (by decide) (ks_En_acceptMessages_2 l D E B sc Po)))
def sp_En_acceptMessages : qa_sp := fun args M Po => match args with
  | [.ref a0] => kc_En_acceptMessages_0 Po (0, 0) [some (.ref a0), none, none] [] M
  | _ => False
theorem ct_En_acceptMessages (l : Launch) (sc : qa_Z) : qa_T l ym_En_acceptMessages (Cond.code ym_En_acceptMessages prog_2_method_18_code 3 none :: q_W0) rm_En_acceptMessages sc (sp_En_acceptMessages) := by
  intro D E B args M Po h
  unfold sp_En_acceptMessages at h
  split at h
  · exact qa_ct (ini := false) (by decide) (by decide) (Nat.le_of_ble_eq_true rfl) (qa_lvok rfl) (ks_En_acceptMessages_0 l D E B sc Po) h
  · exact h.elim
theorem kd_En_accept_0 : decode prog_2_method_17_code 0 = .ok (.aload_n 0, 1) := by decide +kernel
theorem kd_En_accept_1 : decode prog_2_method_17_code 1 = .ok (.getfield 39, 3) := by decide +kernel
theorem kd_En_accept_4 : decode prog_2_method_17_code 4 = .ok (.invokevirtual 173, 3) := by decide +kernel
theorem kd_En_accept_7 : decode prog_2_method_17_code 7 = .ok (.aload_n 0, 1) := by decide +kernel
theorem kd_En_accept_8 : decode prog_2_method_17_code 8 = .ok (.getfield 52, 3) := by decide +kernel
theorem kd_En_accept_11 : decode prog_2_method_17_code 11 = .ok (.invokevirtual 76, 3) := by decide +kernel
theorem kd_En_accept_14 : decode prog_2_method_17_code 14 = .ok (.aload_n 0, 1) := by decide +kernel
theorem kd_En_accept_15 : decode prog_2_method_17_code 15 = .ok (.getfield 52, 3) := by decide +kernel
theorem kd_En_accept_18 : decode prog_2_method_17_code 18 = .ok (.getfield 80, 3) := by decide +kernel
theorem kd_En_accept_21 : decode prog_2_method_17_code 21 = .ok (.bipush 21, 2) := by decide +kernel
theorem kd_En_accept_23 : decode prog_2_method_17_code 23 = .ok (.if_icmp .ne 16, 3) := by decide +kernel
theorem kd_En_accept_26 : decode prog_2_method_17_code 26 = .ok (.aload_n 0, 1) := by decide +kernel
theorem kd_En_accept_27 : decode prog_2_method_17_code 27 = .ok (.aload_n 0, 1) := by decide +kernel
theorem kd_En_accept_28 : decode prog_2_method_17_code 28 = .ok (.getfield 52, 3) := by decide +kernel
theorem kd_En_accept_31 : decode prog_2_method_17_code 31 = .ok (.getfield 103, 3) := by decide +kernel
theorem kd_En_accept_34 : decode prog_2_method_17_code 34 = .ok (.iconst 1, 1) := by decide +kernel
theorem kd_En_accept_35 : decode prog_2_method_17_code 35 = .ok (.iaload, 1) := by decide +kernel
theorem kd_En_accept_36 : decode prog_2_method_17_code 36 = .ok (.invokevirtual 133, 3) := by decide +kernel
theorem kd_En_accept_39 : decode prog_2_method_17_code 39 = .ok (.aload_n 0, 1) := by decide +kernel
theorem kd_En_accept_40 : decode prog_2_method_17_code 40 = .ok (.getfield 52, 3) := by decide +kernel
theorem kd_En_accept_43 : decode prog_2_method_17_code 43 = .ok (.getfield 80, 3) := by decide +kernel
theorem kd_En_accept_46 : decode prog_2_method_17_code 46 = .ok (.bipush 22, 2) := by decide +kernel
theorem kd_En_accept_48 : decode prog_2_method_17_code 48 = .ok (.if_icmp .ne 7, 3) := by decide +kernel
theorem kd_En_accept_51 : decode prog_2_method_17_code 51 = .ok (.aload_n 0, 1) := by decide +kernel
theorem kd_En_accept_52 : decode prog_2_method_17_code 52 = .ok (.invokevirtual 177, 3) := by decide +kernel
theorem kd_En_accept_55 : decode prog_2_method_17_code 55 = .ok (.return_, 1) := by decide +kernel
def kc_En_accept_55 (Po : Option Value → qa_M → Prop) : qa_K := (qi_vret (0, 0) Po)
def kc_En_accept_39 (Po : Option Value → qa_M → Prop) : qa_K := (qi_aload 0 (qi_gp 6 168 (qi_gi 2 33 (qi_ic (nI 22) (qi_icne (kc_En_accept_55 Po) (qi_aload 0 (qi_callv 1 6 (0, 0) sp_En_acceptMessages (kc_En_accept_55 Po))))))))
def kc_En_accept_0 (Po : Option Value → qa_M → Prop) : qa_K := (qi_aload 0 (qi_gp 6 165 (qi_callv 1 3 (0, 0) sp_Rw_addNewest (qi_aload 0 (qi_gp 6 168 (qi_callv 2 2 (0, 0) sp_Pk_becomeLike (qi_aload 0 (qi_gp 6 168 (qi_gi 2 33 (qi_ic (nI 21) (qi_icne (kc_En_accept_39 Po) (qi_aload 0 (qi_aload 0 (qi_gp 6 168 (qi_gp 2 32 (qi_ic (nI 1) (qi_iald 1032 (qi_callv 2 6 (0, 0) sp_En_closeReceiving (kc_En_accept_39 Po)))))))))))))))))))
abbrev kS_En_accept (l : Launch) (D : va_G) (E : Nat → ClassId) (B : Nat) (sc : qa_Z) (Po : Option Value → qa_M → Prop) (pc : Nat) (k : qa_K) : Prop := qa_S l "SealedRecords$End" prog_2_method_17_code 1 none false D E B rm_En_accept sc (qa_Qf D E B rm_En_accept Po) pc k
theorem ks_En_accept_55 (l : Launch) (D : va_G) (E : Nat → ClassId) (B : Nat) (sc : qa_Z) (Po : Option Value → qa_M → Prop) : kS_En_accept l D E B sc Po 55 (kc_En_accept_55 Po) := (qs_vret kd_En_accept_55)
theorem ks_En_accept_39 (l : Launch) (D : va_G) (E : Nat → ClassId) (B : Nat) (sc : qa_Z) (Po : Option Value → qa_M → Prop) : kS_En_accept l D E B sc Po 39 (kc_En_accept_39 Po) := (qs_aload_n kd_En_accept_39 rfl (fg_168 ww_49 kd_En_accept_40 (fg_33 ww_162 kd_En_accept_43 (qs_bipush kd_En_accept_46 (by decide) (qs_icne (tgt := 55) kd_En_accept_48 (by decide) (ks_En_accept_55 l D E B sc Po) (qs_aload_n kd_En_accept_51 rfl (qs_callv (ci := 5) (ct_En_acceptMessages l sc) ww_229 (by decide) rfl (by decide) ww_230 ww_231 ww_232 ww_11 yd_En_acceptMessages kd_En_accept_52 (ks_En_accept_55 l D E B sc Po))))))))
theorem ks_En_accept_0 (l : Launch) (D : va_G) (E : Nat → ClassId) (B : Nat) (sc : qa_Z) (Po : Option Value → qa_M → Prop) : kS_En_accept l D E B sc Po 0 (kc_En_accept_0 Po) := (qs_aload_n kd_En_accept_0 rfl (fg_165 ww_42 kd_En_accept_1 (qs_callv (ci := 2) (ct_Rw_addNewest l sc) ww_173 (by decide) rfl (by decide) ww_233 ww_175 ww_176 ww_5 yd_Rw_addNewest kd_En_accept_4 (qs_aload_n kd_En_accept_7 rfl (fg_168 ww_49 kd_En_accept_8 (qs_callv (ci := 1) (ct_Pk_becomeLike l sc) ww_158 (by decide) rfl (by decide) ww_159 ww_160 ww_161 ww_3 yd_Pk_becomeLike kd_En_accept_11 (qs_aload_n kd_En_accept_14 rfl (fg_168 ww_49 kd_En_accept_15 (fg_33 ww_162 kd_En_accept_18 (qs_bipush kd_En_accept_21 (by decide) (qs_icne (tgt := 39) kd_En_accept_23 (by decide) (ks_En_accept_39 l D E B sc Po) (qs_aload_n kd_En_accept_26 rfl (qs_aload_n kd_En_accept_27 rfl (fg_168 ww_49 kd_En_accept_28 (fg_32 ww_140 kd_En_accept_31 (qs_iconst kd_En_accept_34 (by decide) (qs_iald (κ := 1032) rfl (by decide) kd_En_accept_35 (qs_callv (ci := 5) (ct_En_closeReceiving l sc) ww_72 (by decide) rfl (by decide) ww_73 ww_74 ww_75 ww_11 yd_En_closeReceiving kd_En_accept_36 (ks_En_accept_39 l D E B sc Po)))))))))))))))))))
def sp_En_accept : qa_sp := fun args M Po => match args with
  | [.ref a0] => kc_En_accept_0 Po (0, 0) [some (.ref a0)] [] M
  | _ => False
theorem ct_En_accept (l : Launch) (sc : qa_Z) : qa_T l ym_En_accept (Cond.code ym_En_accept prog_2_method_17_code 1 none :: q_W0) rm_En_accept sc (sp_En_accept) := by
  intro D E B args M Po h
  unfold sp_En_accept at h
  split at h
  · exact qa_ct (ini := false) (by decide) (by decide) (Nat.le_of_ble_eq_true rfl) (qa_lvok rfl) (ks_En_accept_0 l D E B sc Po) h
  · exact h.elim
theorem kd_En_receive_0 : decode prog_2_method_7_code 0 = .ok (.aload_n 0, 1) := by decide +kernel
theorem kd_En_receive_1 : decode prog_2_method_7_code 1 = .ok (.aload_n 1, 1) := by decide +kernel
theorem kd_En_receive_2 : decode prog_2_method_7_code 2 = .ok (.invokevirtual 118, 3) := by decide +kernel
theorem kd_En_receive_5 : decode prog_2_method_7_code 5 = .ok (.istore_n 2, 1) := by decide +kernel
theorem kd_En_receive_6 : decode prog_2_method_7_code 6 = .ok (.iload_n 2, 1) := by decide +kernel
theorem kd_En_receive_7 : decode prog_2_method_7_code 7 = .ok (.bipush 100, 2) := by decide +kernel
theorem kd_En_receive_9 : decode prog_2_method_7_code 9 = .ok (.if_icmp .ne 6, 3) := by decide +kernel
theorem kd_En_receive_12 : decode prog_2_method_7_code 12 = .ok (.bipush 100, 2) := by decide +kernel
theorem kd_En_receive_14 : decode prog_2_method_7_code 14 = .ok (.ireturn, 1) := by decide +kernel
theorem kd_En_receive_15 : decode prog_2_method_7_code 15 = .ok (.iload_n 2, 1) := by decide +kernel
theorem kd_En_receive_16 : decode prog_2_method_7_code 16 = .ok (.ifCond .ne 8, 3) := by decide +kernel
theorem kd_En_receive_19 : decode prog_2_method_7_code 19 = .ok (.aload_n 0, 1) := by decide +kernel
theorem kd_En_receive_20 : decode prog_2_method_7_code 20 = .ok (.invokevirtual 122, 3) := by decide +kernel
theorem kd_En_receive_23 : decode prog_2_method_7_code 23 = .ok (.istore_n 2, 1) := by decide +kernel
theorem kd_En_receive_24 : decode prog_2_method_7_code 24 = .ok (.iload_n 2, 1) := by decide +kernel
theorem kd_En_receive_25 : decode prog_2_method_7_code 25 = .ok (.ifCond .eq 9, 3) := by decide +kernel
theorem kd_En_receive_28 : decode prog_2_method_7_code 28 = .ok (.aload_n 0, 1) := by decide +kernel
theorem kd_En_receive_29 : decode prog_2_method_7_code 29 = .ok (.iload_n 2, 1) := by decide +kernel
theorem kd_En_receive_30 : decode prog_2_method_7_code 30 = .ok (.invokevirtual 126, 3) := by decide +kernel
theorem kd_En_receive_33 : decode prog_2_method_7_code 33 = .ok (.ireturn, 1) := by decide +kernel
theorem kd_En_receive_34 : decode prog_2_method_7_code 34 = .ok (.aload_n 0, 1) := by decide +kernel
theorem kd_En_receive_35 : decode prog_2_method_7_code 35 = .ok (.invokevirtual 130, 3) := by decide +kernel
theorem kd_En_receive_38 : decode prog_2_method_7_code 38 = .ok (.aload_n 0, 1) := by decide +kernel
theorem kd_En_receive_39 : decode prog_2_method_7_code 39 = .ok (.getfield 52, 3) := by decide +kernel
theorem kd_En_receive_42 : decode prog_2_method_7_code 42 = .ok (.getfield 73, 3) := by decide +kernel
theorem kd_En_receive_45 : decode prog_2_method_7_code 45 = .ok (.ireturn, 1) := by decide +kernel
def kc_En_receive_24 (Po : Option Value → qa_M → Prop) : qa_K := (qi_iload 2 (qi_ifeq (qi_aload 0 (qi_callv 1 6 (0, 0) sp_En_accept (qi_aload 0 (qi_gp 6 168 (qi_gi 2 34 (qi_iret (0, 0) Po)))))) (qi_aload 0 (qi_iload 2 (qi_callv 2 6 (0, 0) sp_En_raiseAlert (qi_iret (0, 0) Po))))))
def kc_En_receive_0 (Po : Option Value → qa_M → Prop) : qa_K := (qi_aload 0 (qi_aload 1 (qi_callv 2 6 (0, 0) sp_En_open (qi_istore 2 (qi_iload 2 (qi_ic (nI 100) (qi_icne (qi_iload 2 (qi_ifne (kc_En_receive_24 Po) (qi_aload 0 (qi_callv 1 6 (0, 0) sp_En_judge (qi_istore 2 (kc_En_receive_24 Po)))))) (qi_ic (nI 100) (qi_iret (0, 0) Po)))))))))
abbrev kS_En_receive (l : Launch) (D : va_G) (E : Nat → ClassId) (B : Nat) (sc : qa_Z) (Po : Option Value → qa_M → Prop) (pc : Nat) (k : qa_K) : Prop := qa_S l "SealedRecords$End" prog_2_method_7_code 3 (some .int) false D E B rm_En_receive sc (qa_Qf D E B rm_En_receive Po) pc k
theorem ks_En_receive_24 (l : Launch) (D : va_G) (E : Nat → ClassId) (B : Nat) (sc : qa_Z) (Po : Option Value → qa_M → Prop) : kS_En_receive l D E B sc Po 24 (kc_En_receive_24 Po) := (qs_iload_n kd_En_receive_24 rfl (qs_ifeq (tgt := 34) kd_En_receive_25 (by decide) (qs_aload_n kd_En_receive_34 rfl (qs_callv (ci := 5) (ct_En_accept l sc) ww_234 (by decide) rfl (by decide) ww_235 ww_236 ww_237 ww_11 yd_En_accept kd_En_receive_35 (qs_aload_n kd_En_receive_38 rfl (fg_168 ww_49 kd_En_receive_39 (fg_34 ww_127 kd_En_receive_42 (qs_iret kd_En_receive_45)))))) (qs_aload_n kd_En_receive_28 rfl (qs_iload_n kd_En_receive_29 rfl (qs_callv (ci := 5) (ct_En_raiseAlert l sc) ww_99 (by decide) rfl (by decide) ww_238 ww_101 ww_102 ww_11 yd_En_raiseAlert kd_En_receive_30 (qs_iret kd_En_receive_33))))))
theorem ks_En_receive_0 (l : Launch) (D : va_G) (E : Nat → ClassId) (B : Nat) (sc : qa_Z) (Po : Option Value → qa_M → Prop) : kS_En_receive l D E B sc Po 0 (kc_En_receive_0 Po) := (qs_aload_n kd_En_receive_0 rfl (qs_aload_n kd_En_receive_1 rfl (qs_callv (ci := 5) (ct_En_open l sc) ww_239 (by decide) rfl (by decide) ww_240 ww_241 ww_242 ww_11 yd_En_open kd_En_receive_2 (qs_istore_n kd_En_receive_5 rfl (by decide) (qs_iload_n kd_En_receive_6 rfl (qs_bipush kd_En_receive_7 (by decide) (qs_icne (tgt := 15) kd_En_receive_9 (by decide) (qs_iload_n kd_En_receive_15 rfl (qs_ifne (tgt := 24) kd_En_receive_16 (by decide) (ks_En_receive_24 l D E B sc Po) (qs_aload_n kd_En_receive_19 rfl (qs_callv (ci := 5) (ct_En_judge l sc) ww_243 (by decide) rfl (by decide) ww_244 ww_245 ww_246 ww_11 yd_En_judge kd_En_receive_20 (qs_istore_n kd_En_receive_23 rfl (by decide) (ks_En_receive_24 l D E B sc Po)))))) (qs_bipush kd_En_receive_12 (by decide) (qs_iret kd_En_receive_14)))))))))
def sp_En_receive : qa_sp := fun args M Po => match args with
  | [.ref a0, .ref a1] => kc_En_receive_0 Po (0, 0) [some (.ref a0), some (.ref a1), none] [] M
  | _ => False
theorem ct_En_receive (l : Launch) (sc : qa_Z) : qa_T l ym_En_receive (Cond.code ym_En_receive prog_2_method_7_code 3 (some .int) :: q_W0) rm_En_receive sc (sp_En_receive) := by
  intro D E B args M Po h
  unfold sp_En_receive at h
  split at h
  · exact qa_ct (ini := false) (by decide) (by decide) (Nat.le_of_ble_eq_true rfl) (qa_lvok rfl) (ks_En_receive_0 l D E B sc Po) h
  · exact h.elim
theorem kd_SR_deliver_0 : decode prog_1_method_7_code 0 = .ok (.iload_n 1, 1) := by decide +kernel
theorem kd_SR_deliver_1 : decode prog_1_method_7_code 1 = .ok (.invokestatic 22, 3) := by decide +kernel
theorem kd_SR_deliver_4 : decode prog_1_method_7_code 4 = .ok (.ifCond .eq 19, 3) := by decide +kernel
theorem kd_SR_deliver_7 : decode prog_1_method_7_code 7 = .ok (.aload_n 0, 1) := by decide +kernel
theorem kd_SR_deliver_8 : decode prog_1_method_7_code 8 = .ok (.getfield 18, 3) := by decide +kernel
theorem kd_SR_deliver_11 : decode prog_1_method_7_code 11 = .ok (.iload_n 1, 1) := by decide +kernel
theorem kd_SR_deliver_12 : decode prog_1_method_7_code 12 = .ok (.aaload, 1) := by decide +kernel
theorem kd_SR_deliver_13 : decode prog_1_method_7_code 13 = .ok (.getfield 107, 3) := by decide +kernel
theorem kd_SR_deliver_16 : decode prog_1_method_7_code 16 = .ok (.iconst 0, 1) := by decide +kernel
theorem kd_SR_deliver_17 : decode prog_1_method_7_code 17 = .ok (.invokevirtual 125, 3) := by decide +kernel
theorem kd_SR_deliver_20 : decode prog_1_method_7_code 20 = .ok (.ifCond .ne 5, 3) := by decide +kernel
theorem kd_SR_deliver_23 : decode prog_1_method_7_code 23 = .ok (.iconst (-1), 1) := by decide +kernel
theorem kd_SR_deliver_24 : decode prog_1_method_7_code 24 = .ok (.ireturn, 1) := by decide +kernel
theorem kd_SR_deliver_25 : decode prog_1_method_7_code 25 = .ok (.aload_n 0, 1) := by decide +kernel
theorem kd_SR_deliver_26 : decode prog_1_method_7_code 26 = .ok (.getfield 18, 3) := by decide +kernel
theorem kd_SR_deliver_29 : decode prog_1_method_7_code 29 = .ok (.iload_n 1, 1) := by decide +kernel
theorem kd_SR_deliver_30 : decode prog_1_method_7_code 30 = .ok (.aaload, 1) := by decide +kernel
theorem kd_SR_deliver_31 : decode prog_1_method_7_code 31 = .ok (.astore_n 2, 1) := by decide +kernel
theorem kd_SR_deliver_32 : decode prog_1_method_7_code 32 = .ok (.aload_n 2, 1) := by decide +kernel
theorem kd_SR_deliver_33 : decode prog_1_method_7_code 33 = .ok (.getfield 43, 3) := by decide +kernel
theorem kd_SR_deliver_36 : decode prog_1_method_7_code 36 = .ok (.getfield 46, 3) := by decide +kernel
theorem kd_SR_deliver_39 : decode prog_1_method_7_code 39 = .ok (.ifCond .eq 15, 3) := by decide +kernel
theorem kd_SR_deliver_42 : decode prog_1_method_7_code 42 = .ok (.aload_n 2, 1) := by decide +kernel
theorem kd_SR_deliver_43 : decode prog_1_method_7_code 43 = .ok (.getfield 107, 3) := by decide +kernel
theorem kd_SR_deliver_46 : decode prog_1_method_7_code 46 = .ok (.iconst 0, 1) := by decide +kernel
theorem kd_SR_deliver_47 : decode prog_1_method_7_code 47 = .ok (.invokevirtual 128, 3) := by decide +kernel
theorem kd_SR_deliver_50 : decode prog_1_method_7_code 50 = .ok (.pop, 1) := by decide +kernel
theorem kd_SR_deliver_51 : decode prog_1_method_7_code 51 = .ok (.bipush (-2), 2) := by decide +kernel
theorem kd_SR_deliver_53 : decode prog_1_method_7_code 53 = .ok (.ireturn, 1) := by decide +kernel
theorem kd_SR_deliver_54 : decode prog_1_method_7_code 54 = .ok (.aload_n 2, 1) := by decide +kernel
theorem kd_SR_deliver_55 : decode prog_1_method_7_code 55 = .ok (.getfield 132, 3) := by decide +kernel
theorem kd_SR_deliver_58 : decode prog_1_method_7_code 58 = .ok (.invokevirtual 111, 3) := by decide +kernel
theorem kd_SR_deliver_61 : decode prog_1_method_7_code 61 = .ok (.ifCond .eq 6, 3) := by decide +kernel
theorem kd_SR_deliver_64 : decode prog_1_method_7_code 64 = .ok (.bipush (-3), 2) := by decide +kernel
theorem kd_SR_deliver_66 : decode prog_1_method_7_code 66 = .ok (.ireturn, 1) := by decide +kernel
theorem kd_SR_deliver_67 : decode prog_1_method_7_code 67 = .ok (.aload_n 2, 1) := by decide +kernel
theorem kd_SR_deliver_68 : decode prog_1_method_7_code 68 = .ok (.aload_n 2, 1) := by decide +kernel
theorem kd_SR_deliver_69 : decode prog_1_method_7_code 69 = .ok (.getfield 107, 3) := by decide +kernel
theorem kd_SR_deliver_72 : decode prog_1_method_7_code 72 = .ok (.iconst 0, 1) := by decide +kernel
theorem kd_SR_deliver_73 : decode prog_1_method_7_code 73 = .ok (.invokevirtual 128, 3) := by decide +kernel
theorem kd_SR_deliver_76 : decode prog_1_method_7_code 76 = .ok (.invokevirtual 135, 3) := by decide +kernel
theorem kd_SR_deliver_79 : decode prog_1_method_7_code 79 = .ok (.ireturn, 1) := by decide +kernel
def kc_SR_deliver_23 (Po : Option Value → qa_M → Prop) : qa_K := (qi_ic (-1) (qi_iret (0, 0) Po))
def kc_SR_deliver_0 (Po : Option Value → qa_M → Prop) : qa_K := (qi_iload 1 (qi_call 1 (0, 0) sp_SR_isEnd (qi_ifeq (kc_SR_deliver_23 Po) (qi_aload 0 (qi_gp 1 1 (qi_iload 1 (qi_aald 1001 (qi_gp 6 164 (qi_ic (nI 0) (qi_callv 2 3 (0, 0) sp_Rw_has (qi_ifne (qi_aload 0 (qi_gp 1 1 (qi_iload 1 (qi_aald 1001 (qi_astore 2 (qi_aload 2 (qi_gp 6 162 (qi_gi 4 99 (qi_ifeq (qi_aload 2 (qi_gp 6 165 (qi_callv 1 3 (0, 0) sp_Rw_isFull (qi_ifeq (qi_aload 2 (qi_aload 2 (qi_gp 6 164 (qi_ic (nI 0) (qi_callv 2 3 (0, 0) sp_Rw_remove (qi_callv 2 6 (0, 0) sp_En_receive (qi_iret (0, 0) Po))))))) (qi_ic (-3) (qi_iret (0, 0) Po)))))) (qi_aload 2 (qi_gp 6 164 (qi_ic (nI 0) (qi_callv 2 3 (0, 0) sp_Rw_remove (qi_pop (qi_ic (-2) (qi_iret (0, 0) Po)))))))))))))))) (kc_SR_deliver_23 Po))))))))))))
abbrev kS_SR_deliver (l : Launch) (D : va_G) (E : Nat → ClassId) (B : Nat) (sc : qa_Z) (Po : Option Value → qa_M → Prop) (pc : Nat) (k : qa_K) : Prop := qa_S l "SealedRecords" prog_1_method_7_code 3 (some .int) false D E B rm_SR_deliver sc (qa_Qf D E B rm_SR_deliver Po) pc k
theorem ks_SR_deliver_23 (l : Launch) (D : va_G) (E : Nat → ClassId) (B : Nat) (sc : qa_Z) (Po : Option Value → qa_M → Prop) : kS_SR_deliver l D E B sc Po 23 (kc_SR_deliver_23 Po) := (qs_iconst kd_SR_deliver_23 (by decide) (qs_iret kd_SR_deliver_24))
theorem ks_SR_deliver_0 (l : Launch) (D : va_G) (E : Nat → ClassId) (B : Nat) (sc : qa_Z) (Po : Option Value → qa_M → Prop) : kS_SR_deliver l D E B sc Po 0 (kc_SR_deliver_0 Po) := (qs_iload_n kd_SR_deliver_0 rfl (qs_calls (ct_SR_isEnd l sc) ww_61 (by decide) (by decide) ww_62 ww_63 ww_1 yd_SR_isEnd kd_SR_deliver_1 (qs_ifeq (tgt := 23) kd_SR_deliver_4 (by decide) (ks_SR_deliver_23 l D E B sc Po) (qs_aload_n kd_SR_deliver_7 rfl (fg_1 ww_57 kd_SR_deliver_8 (qs_iload_n kd_SR_deliver_11 rfl (qs_aald (κ := 1001) (t := 0) rfl (fun _ => rfl) (by decide) kd_SR_deliver_12 (fg_164 ww_168 kd_SR_deliver_13 (qs_iconst kd_SR_deliver_16 (by decide) (qs_callv (ci := 2) (ct_Rw_has l sc) ww_247 (by decide) rfl (by decide) ww_248 ww_249 ww_250 ww_5 yd_Rw_has kd_SR_deliver_17 (qs_ifne (tgt := 25) kd_SR_deliver_20 (by decide) (qs_aload_n kd_SR_deliver_25 rfl (fg_1 ww_57 kd_SR_deliver_26 (qs_iload_n kd_SR_deliver_29 rfl (qs_aald (κ := 1001) (t := 0) rfl (fun _ => rfl) (by decide) kd_SR_deliver_30 (qs_astore_n kd_SR_deliver_31 rfl (by decide) (qs_aload_n kd_SR_deliver_32 rfl (fg_162 ww_103 kd_SR_deliver_33 (fg_99 ww_93 kd_SR_deliver_36 (qs_ifeq (tgt := 54) kd_SR_deliver_39 (by decide) (qs_aload_n kd_SR_deliver_54 rfl (fg_165 ww_251 kd_SR_deliver_55 (qs_callv (ci := 2) (ct_Rw_isFull l sc) ww_169 (by decide) rfl (by decide) ww_170 ww_171 ww_172 ww_5 yd_Rw_isFull kd_SR_deliver_58 (qs_ifeq (tgt := 67) kd_SR_deliver_61 (by decide) (qs_aload_n kd_SR_deliver_67 rfl (qs_aload_n kd_SR_deliver_68 rfl (fg_164 ww_168 kd_SR_deliver_69 (qs_iconst kd_SR_deliver_72 (by decide) (qs_callv (ci := 2) (ct_Rw_remove l sc) ww_252 (by decide) rfl (by decide) ww_253 ww_254 ww_255 ww_5 yd_Rw_remove kd_SR_deliver_73 (qs_callv (ci := 5) (ct_En_receive l sc) ww_256 (by decide) rfl (by decide) ww_257 ww_258 ww_259 ww_11 yd_En_receive kd_SR_deliver_76 (qs_iret kd_SR_deliver_79))))))) (qs_bipush kd_SR_deliver_64 (by decide) (qs_iret kd_SR_deliver_66)))))) (qs_aload_n kd_SR_deliver_42 rfl (fg_164 ww_168 kd_SR_deliver_43 (qs_iconst kd_SR_deliver_46 (by decide) (qs_callv (ci := 2) (ct_Rw_remove l sc) ww_252 (by decide) rfl (by decide) ww_253 ww_254 ww_255 ww_5 yd_Rw_remove kd_SR_deliver_47 (qs_pop kd_SR_deliver_50 (qs_bipush kd_SR_deliver_51 (by decide) (qs_iret kd_SR_deliver_53)))))))))))))))) (ks_SR_deliver_23 l D E B sc Po))))))))))))
def sp_SR_deliver : qa_sp := fun args M Po => match args with
  | [.ref a0, .int a1] => kc_SR_deliver_0 Po (0, 0) [some (.ref a0), some (.int a1), none] [] M
  | _ => False
theorem ct_SR_deliver (l : Launch) (sc : qa_Z) : qa_T l ym_SR_deliver (Cond.code ym_SR_deliver prog_1_method_7_code 3 (some .int) :: q_W0) rm_SR_deliver sc (sp_SR_deliver) := by
  intro D E B args M Po h
  unfold sp_SR_deliver at h
  split at h
  · exact qa_ct (ini := false) (by decide) (by decide) (Nat.le_of_ble_eq_true rfl) (qa_lvok rfl) (ks_SR_deliver_0 l D E B sc Po) h
  · exact h.elim
theorem kd_SR_isOnWire_0 : decode prog_1_method_20_code 0 = .ok (.iload_n 1, 1) := by decide +kernel
theorem kd_SR_isOnWire_1 : decode prog_1_method_20_code 1 = .ok (.invokestatic 22, 3) := by decide +kernel
theorem kd_SR_isOnWire_4 : decode prog_1_method_20_code 4 = .ok (.ifCond .eq 23, 3) := by decide +kernel
theorem kd_SR_isOnWire_7 : decode prog_1_method_20_code 7 = .ok (.aload_n 0, 1) := by decide +kernel
theorem kd_SR_isOnWire_8 : decode prog_1_method_20_code 8 = .ok (.getfield 18, 3) := by decide +kernel
theorem kd_SR_isOnWire_11 : decode prog_1_method_20_code 11 = .ok (.iload_n 1, 1) := by decide +kernel
theorem kd_SR_isOnWire_12 : decode prog_1_method_20_code 12 = .ok (.aaload, 1) := by decide +kernel
theorem kd_SR_isOnWire_13 : decode prog_1_method_20_code 13 = .ok (.getfield 107, 3) := by decide +kernel
theorem kd_SR_isOnWire_16 : decode prog_1_method_20_code 16 = .ok (.iload_n 2, 1) := by decide +kernel
theorem kd_SR_isOnWire_17 : decode prog_1_method_20_code 17 = .ok (.invokevirtual 125, 3) := by decide +kernel
theorem kd_SR_isOnWire_20 : decode prog_1_method_20_code 20 = .ok (.ifCond .eq 7, 3) := by decide +kernel
theorem kd_SR_isOnWire_23 : decode prog_1_method_20_code 23 = .ok (.iconst 1, 1) := by decide +kernel
theorem kd_SR_isOnWire_24 : decode prog_1_method_20_code 24 = .ok (.goto 4, 3) := by decide +kernel
theorem kd_SR_isOnWire_27 : decode prog_1_method_20_code 27 = .ok (.iconst 0, 1) := by decide +kernel
theorem kd_SR_isOnWire_28 : decode prog_1_method_20_code 28 = .ok (.ireturn, 1) := by decide +kernel
def kc_SR_isOnWire_28 (Po : Option Value → qa_M → Prop) : qa_K := (qi_zret (0, 0) Po)
def kc_SR_isOnWire_27 (Po : Option Value → qa_M → Prop) : qa_K := (qi_ic (nI 0) (kc_SR_isOnWire_28 Po))
def kc_SR_isOnWire_0 (Po : Option Value → qa_M → Prop) : qa_K := (qi_iload 1 (qi_call 1 (0, 0) sp_SR_isEnd (qi_ifeq (kc_SR_isOnWire_27 Po) (qi_aload 0 (qi_gp 1 1 (qi_iload 1 (qi_aald 1001 (qi_gp 6 164 (qi_iload 2 (qi_callv 2 3 (0, 0) sp_Rw_has (qi_ifeq (kc_SR_isOnWire_27 Po) (qi_ic (nI 1) (kc_SR_isOnWire_28 Po)))))))))))))
abbrev kS_SR_isOnWire (l : Launch) (D : va_G) (E : Nat → ClassId) (B : Nat) (sc : qa_Z) (Po : Option Value → qa_M → Prop) (pc : Nat) (k : qa_K) : Prop := qa_S l "SealedRecords" prog_1_method_20_code 3 (some .boolean) false D E B rm_SR_isOnWire sc (qa_Qf D E B rm_SR_isOnWire Po) pc k
theorem ks_SR_isOnWire_28 (l : Launch) (D : va_G) (E : Nat → ClassId) (B : Nat) (sc : qa_Z) (Po : Option Value → qa_M → Prop) : kS_SR_isOnWire l D E B sc Po 28 (kc_SR_isOnWire_28 Po) := (qs_zret kd_SR_isOnWire_28)
theorem ks_SR_isOnWire_27 (l : Launch) (D : va_G) (E : Nat → ClassId) (B : Nat) (sc : qa_Z) (Po : Option Value → qa_M → Prop) : kS_SR_isOnWire l D E B sc Po 27 (kc_SR_isOnWire_27 Po) := (qs_iconst kd_SR_isOnWire_27 (by decide) (ks_SR_isOnWire_28 l D E B sc Po))
theorem ks_SR_isOnWire_0 (l : Launch) (D : va_G) (E : Nat → ClassId) (B : Nat) (sc : qa_Z) (Po : Option Value → qa_M → Prop) : kS_SR_isOnWire l D E B sc Po 0 (kc_SR_isOnWire_0 Po) := (qs_iload_n kd_SR_isOnWire_0 rfl (qs_calls (ct_SR_isEnd l sc) ww_61 (by decide) (by decide) ww_62 ww_63 ww_1 yd_SR_isEnd kd_SR_isOnWire_1 (qs_ifeq (tgt := 27) kd_SR_isOnWire_4 (by decide) (ks_SR_isOnWire_27 l D E B sc Po) (qs_aload_n kd_SR_isOnWire_7 rfl (fg_1 ww_57 kd_SR_isOnWire_8 (qs_iload_n kd_SR_isOnWire_11 rfl (qs_aald (κ := 1001) (t := 0) rfl (fun _ => rfl) (by decide) kd_SR_isOnWire_12 (fg_164 ww_168 kd_SR_isOnWire_13 (qs_iload_n kd_SR_isOnWire_16 rfl (qs_callv (ci := 2) (ct_Rw_has l sc) ww_247 (by decide) rfl (by decide) ww_248 ww_249 ww_250 ww_5 yd_Rw_has kd_SR_isOnWire_17 (qs_ifeq (tgt := 27) kd_SR_isOnWire_20 (by decide) (ks_SR_isOnWire_27 l D E B sc Po) (qs_iconst kd_SR_isOnWire_23 (by decide) (qs_goto (tgt := 28) kd_SR_isOnWire_24 (by decide) (ks_SR_isOnWire_28 l D E B sc Po))))))))))))))
def sp_SR_isOnWire : qa_sp := fun args M Po => match args with
  | [.ref a0, .int a1, .int a2] => kc_SR_isOnWire_0 Po (0, 0) [some (.ref a0), some (.int a1), some (.int a2)] [] M
  | _ => False
theorem ct_SR_isOnWire (l : Launch) (sc : qa_Z) : qa_T l ym_SR_isOnWire (Cond.code ym_SR_isOnWire prog_1_method_20_code 3 (some .boolean) :: q_W0) rm_SR_isOnWire sc (sp_SR_isOnWire) := by
  intro D E B args M Po h
  unfold sp_SR_isOnWire at h
  split at h
  · exact qa_ct (ini := false) (by decide) (by decide) (Nat.le_of_ble_eq_true rfl) (qa_lvok rfl) (ks_SR_isOnWire_0 l D E B sc Po) h
  · exact h.elim
theorem kd_SR_alter_0 : decode prog_1_method_8_code 0 = .ok (.aload_n 0, 1) := by decide +kernel
theorem kd_SR_alter_1 : decode prog_1_method_8_code 1 = .ok (.iload_n 1, 1) := by decide +kernel
theorem kd_SR_alter_2 : decode prog_1_method_8_code 2 = .ok (.iload_n 2, 1) := by decide +kernel
theorem kd_SR_alter_3 : decode prog_1_method_8_code 3 = .ok (.invokevirtual 139, 3) := by decide +kernel
theorem kd_SR_alter_6 : decode prog_1_method_8_code 6 = .ok (.ifCond .eq 17, 3) := by decide +kernel
theorem kd_SR_alter_9 : decode prog_1_method_8_code 9 = .ok (.iload 4, 2) := by decide +kernel
theorem kd_SR_alter_11 : decode prog_1_method_8_code 11 = .ok (.iconst 1, 1) := by decide +kernel
theorem kd_SR_alter_12 : decode prog_1_method_8_code 12 = .ok (.if_icmp .lt 11, 3) := by decide +kernel
theorem kd_SR_alter_15 : decode prog_1_method_8_code 15 = .ok (.iload 4, 2) := by decide +kernel
theorem kd_SR_alter_17 : decode prog_1_method_8_code 17 = .ok (.sipush 255, 3) := by decide +kernel
theorem kd_SR_alter_20 : decode prog_1_method_8_code 20 = .ok (.if_icmp .le 5, 3) := by decide +kernel
theorem kd_SR_alter_23 : decode prog_1_method_8_code 23 = .ok (.iconst 0, 1) := by decide +kernel
theorem kd_SR_alter_24 : decode prog_1_method_8_code 24 = .ok (.ireturn, 1) := by decide +kernel
theorem kd_SR_alter_25 : decode prog_1_method_8_code 25 = .ok (.aload_n 0, 1) := by decide +kernel
theorem kd_SR_alter_26 : decode prog_1_method_8_code 26 = .ok (.getfield 18, 3) := by decide +kernel
theorem kd_SR_alter_29 : decode prog_1_method_8_code 29 = .ok (.iload_n 1, 1) := by decide +kernel
theorem kd_SR_alter_30 : decode prog_1_method_8_code 30 = .ok (.aaload, 1) := by decide +kernel
theorem kd_SR_alter_31 : decode prog_1_method_8_code 31 = .ok (.getfield 107, 3) := by decide +kernel
theorem kd_SR_alter_34 : decode prog_1_method_8_code 34 = .ok (.getfield 143, 3) := by decide +kernel
theorem kd_SR_alter_37 : decode prog_1_method_8_code 37 = .ok (.iload_n 2, 1) := by decide +kernel
theorem kd_SR_alter_38 : decode prog_1_method_8_code 38 = .ok (.aaload, 1) := by decide +kernel
theorem kd_SR_alter_39 : decode prog_1_method_8_code 39 = .ok (.astore 5, 2) := by decide +kernel
theorem kd_SR_alter_41 : decode prog_1_method_8_code 41 = .ok (.iload_n 3, 1) := by decide +kernel
theorem kd_SR_alter_42 : decode prog_1_method_8_code 42 = .ok (.ifCond .lt 12, 3) := by decide +kernel
theorem kd_SR_alter_45 : decode prog_1_method_8_code 45 = .ok (.iload_n 3, 1) := by decide +kernel
theorem kd_SR_alter_46 : decode prog_1_method_8_code 46 = .ok (.aload 5, 2) := by decide +kernel
theorem kd_SR_alter_48 : decode prog_1_method_8_code 48 = .ok (.getfield 122, 3) := by decide +kernel
theorem kd_SR_alter_51 : decode prog_1_method_8_code 51 = .ok (.if_icmp .le 5, 3) := by decide +kernel
theorem kd_SR_alter_54 : decode prog_1_method_8_code 54 = .ok (.iconst 0, 1) := by decide +kernel
theorem kd_SR_alter_55 : decode prog_1_method_8_code 55 = .ok (.ireturn, 1) := by decide +kernel
theorem kd_SR_alter_56 : decode prog_1_method_8_code 56 = .ok (.iload_n 3, 1) := by decide +kernel
theorem kd_SR_alter_57 : decode prog_1_method_8_code 57 = .ok (.ifCond .ne 18, 3) := by decide +kernel
theorem kd_SR_alter_60 : decode prog_1_method_8_code 60 = .ok (.aload 5, 2) := by decide +kernel
theorem kd_SR_alter_62 : decode prog_1_method_8_code 62 = .ok (.dup, 1) := by decide +kernel
theorem kd_SR_alter_63 : decode prog_1_method_8_code 63 = .ok (.getfield 147, 3) := by decide +kernel
theorem kd_SR_alter_66 : decode prog_1_method_8_code 66 = .ok (.iload 4, 2) := by decide +kernel
theorem kd_SR_alter_68 : decode prog_1_method_8_code 68 = .ok (.ixor, 1) := by decide +kernel
theorem kd_SR_alter_69 : decode prog_1_method_8_code 69 = .ok (.putfield 147, 3) := by decide +kernel
theorem kd_SR_alter_72 : decode prog_1_method_8_code 72 = .ok (.goto 17, 3) := by decide +kernel
theorem kd_SR_alter_75 : decode prog_1_method_8_code 75 = .ok (.aload 5, 2) := by decide +kernel
theorem kd_SR_alter_77 : decode prog_1_method_8_code 77 = .ok (.getfield 150, 3) := by decide +kernel
theorem kd_SR_alter_80 : decode prog_1_method_8_code 80 = .ok (.iload_n 3, 1) := by decide +kernel
theorem kd_SR_alter_81 : decode prog_1_method_8_code 81 = .ok (.iconst 1, 1) := by decide +kernel
theorem kd_SR_alter_82 : decode prog_1_method_8_code 82 = .ok (.isub, 1) := by decide +kernel
theorem kd_SR_alter_83 : decode prog_1_method_8_code 83 = .ok (.dup2, 1) := by decide +kernel
theorem kd_SR_alter_84 : decode prog_1_method_8_code 84 = .ok (.iaload, 1) := by decide +kernel
theorem kd_SR_alter_85 : decode prog_1_method_8_code 85 = .ok (.iload 4, 2) := by decide +kernel
theorem kd_SR_alter_87 : decode prog_1_method_8_code 87 = .ok (.ixor, 1) := by decide +kernel
theorem kd_SR_alter_88 : decode prog_1_method_8_code 88 = .ok (.iastore, 1) := by decide +kernel
theorem kd_SR_alter_89 : decode prog_1_method_8_code 89 = .ok (.iconst 1, 1) := by decide +kernel
theorem kd_SR_alter_90 : decode prog_1_method_8_code 90 = .ok (.ireturn, 1) := by decide +kernel
def kc_SR_alter_89 (Po : Option Value → qa_M → Prop) : qa_K := (qi_ic (nI 1) (qi_zret (0, 0) Po))
def kc_SR_alter_54 (Po : Option Value → qa_M → Prop) : qa_K := (qi_ic (nI 0) (qi_zret (0, 0) Po))
def kc_SR_alter_23 (Po : Option Value → qa_M → Prop) : qa_K := (qi_ic (nI 0) (qi_zret (0, 0) Po))
def kc_SR_alter_0 (Po : Option Value → qa_M → Prop) : qa_K := (qi_aload 0 (qi_iload 1 (qi_iload 2 (qi_callv 3 1 (0, 0) sp_SR_isOnWire (qi_ifeq (kc_SR_alter_23 Po) (qi_iload 4 (qi_ic (nI 1) (qi_iclt (kc_SR_alter_23 Po) (qi_iload 4 (qi_ic (nI 255) (qi_icle (qi_aload 0 (qi_gp 1 1 (qi_iload 1 (qi_aald 1001 (qi_gp 6 164 (qi_gp 3 64 (qi_iload 2 (qi_aald 1064 (qi_astore 5 (qi_iload 3 (qi_iflt (kc_SR_alter_54 Po) (qi_iload 3 (qi_aload 5 (qi_gi 2 34 (qi_icle (qi_iload 3 (qi_ifne (qi_aload 5 (qi_gp 2 32 (qi_iload 3 (qi_ic (nI 1) (qi_isub (qi_dup2 (qi_iald 1032 (qi_iload 4 (qi_ixor (qi_iast 1032 (kc_SR_alter_89 Po))))))))))) (qi_aload 5 (qi_dup (qi_gi 2 33 (qi_iload 4 (qi_ixor (qi_pi 2 33 (kc_SR_alter_89 Po))))))))) (kc_SR_alter_54 Po)))))))))))))))) (kc_SR_alter_23 Po))))))))))))
abbrev kS_SR_alter (l : Launch) (D : va_G) (E : Nat → ClassId) (B : Nat) (sc : qa_Z) (Po : Option Value → qa_M → Prop) (pc : Nat) (k : qa_K) : Prop := qa_S l "SealedRecords" prog_1_method_8_code 6 (some .boolean) false D E B rm_SR_alter sc (qa_Qf D E B rm_SR_alter Po) pc k
theorem ks_SR_alter_89 (l : Launch) (D : va_G) (E : Nat → ClassId) (B : Nat) (sc : qa_Z) (Po : Option Value → qa_M → Prop) : kS_SR_alter l D E B sc Po 89 (kc_SR_alter_89 Po) := (qs_iconst kd_SR_alter_89 (by decide) (qs_zret kd_SR_alter_90))
theorem ks_SR_alter_54 (l : Launch) (D : va_G) (E : Nat → ClassId) (B : Nat) (sc : qa_Z) (Po : Option Value → qa_M → Prop) : kS_SR_alter l D E B sc Po 54 (kc_SR_alter_54 Po) := (qs_iconst kd_SR_alter_54 (by decide) (qs_zret kd_SR_alter_55))
theorem ks_SR_alter_23 (l : Launch) (D : va_G) (E : Nat → ClassId) (B : Nat) (sc : qa_Z) (Po : Option Value → qa_M → Prop) : kS_SR_alter l D E B sc Po 23 (kc_SR_alter_23 Po) := (qs_iconst kd_SR_alter_23 (by decide) (qs_zret kd_SR_alter_24))
theorem ks_SR_alter_0 (l : Launch) (D : va_G) (E : Nat → ClassId) (B : Nat) (sc : qa_Z) (Po : Option Value → qa_M → Prop) : kS_SR_alter l D E B sc Po 0 (kc_SR_alter_0 Po) := (qs_aload_n kd_SR_alter_0 rfl (qs_iload_n kd_SR_alter_1 rfl (qs_iload_n kd_SR_alter_2 rfl (qs_callv (ci := 0) (ct_SR_isOnWire l sc) ww_260 (by decide) rfl (by decide) ww_261 ww_262 ww_263 ww_1 yd_SR_isOnWire kd_SR_alter_3 (qs_ifeq (tgt := 23) kd_SR_alter_6 (by decide) (ks_SR_alter_23 l D E B sc Po) (qs_iload kd_SR_alter_9 (qs_iconst kd_SR_alter_11 (by decide) (qs_iclt (tgt := 23) kd_SR_alter_12 (by decide) (ks_SR_alter_23 l D E B sc Po) (qs_iload kd_SR_alter_15 (qs_sipush kd_SR_alter_17 (by decide) (qs_icle (tgt := 25) kd_SR_alter_20 (by decide) (qs_aload_n kd_SR_alter_25 rfl (fg_1 ww_57 kd_SR_alter_26 (qs_iload_n kd_SR_alter_29 rfl (qs_aald (κ := 1001) (t := 0) rfl (fun _ => rfl) (by decide) kd_SR_alter_30 (fg_164 ww_168 kd_SR_alter_31 (fg_64 ww_264 kd_SR_alter_34 (qs_iload_n kd_SR_alter_37 rfl (qs_aald (κ := 1064) (t := 1) rfl (fun _ => rfl) (by decide) kd_SR_alter_38 (qs_astore kd_SR_alter_39 (by decide) (qs_iload_n kd_SR_alter_41 rfl (qs_iflt (tgt := 54) kd_SR_alter_42 (by decide) (ks_SR_alter_54 l D E B sc Po) (qs_iload_n kd_SR_alter_45 rfl (qs_aload kd_SR_alter_46 (fg_34 ww_181 kd_SR_alter_48 (qs_icle (tgt := 56) kd_SR_alter_51 (by decide) (qs_iload_n kd_SR_alter_56 rfl (qs_ifne (tgt := 75) kd_SR_alter_57 (by decide) (qs_aload kd_SR_alter_75 (fg_32 ww_265 kd_SR_alter_77 (qs_iload_n kd_SR_alter_80 rfl (qs_iconst kd_SR_alter_81 (by decide) (qs_isub kd_SR_alter_82 (qs_dup2 kd_SR_alter_83 (qs_iald (κ := 1032) rfl (by decide) kd_SR_alter_84 (qs_iload kd_SR_alter_85 (qs_ixor kd_SR_alter_87 (qs_iast (κ := 1032) rfl (by decide) kd_SR_alter_88 (ks_SR_alter_89 l D E B sc Po))))))))))) (qs_aload kd_SR_alter_60 (qs_dup kd_SR_alter_62 (fg_33 ww_266 kd_SR_alter_63 (qs_iload kd_SR_alter_66 (qs_ixor kd_SR_alter_68 (fp_33 ww_266 kd_SR_alter_69 (qs_goto (tgt := 89) kd_SR_alter_72 (by decide) (ks_SR_alter_89 l D E B sc Po)))))))))) (ks_SR_alter_54 l D E B sc Po)))))))))))))))) (ks_SR_alter_23 l D E B sc Po))))))))))))
def sp_SR_alter : qa_sp := fun args M Po => match args with
  | [.ref a0, .int a1, .int a2, .int a3, .int a4] => kc_SR_alter_0 Po (0, 0) [some (.ref a0), some (.int a1), some (.int a2), some (.int a3), some (.int a4), none] [] M
  | _ => False
theorem ct_SR_alter (l : Launch) (sc : qa_Z) : qa_T l ym_SR_alter (Cond.code ym_SR_alter prog_1_method_8_code 6 (some .boolean) :: q_W0) rm_SR_alter sc (sp_SR_alter) := by
  intro D E B args M Po h
  unfold sp_SR_alter at h
  split at h
  · exact qa_ct (ini := false) (by decide) (by decide) (Nat.le_of_ble_eq_true rfl) (qa_lvok rfl) (ks_SR_alter_0 l D E B sc Po) h
  · exact h.elim
theorem kd_SR_cut_0 : decode prog_1_method_9_code 0 = .ok (.aload_n 0, 1) := by decide +kernel
theorem kd_SR_cut_1 : decode prog_1_method_9_code 1 = .ok (.iload_n 1, 1) := by decide +kernel
theorem kd_SR_cut_2 : decode prog_1_method_9_code 2 = .ok (.iload_n 2, 1) := by decide +kernel
theorem kd_SR_cut_3 : decode prog_1_method_9_code 3 = .ok (.invokevirtual 139, 3) := by decide +kernel
theorem kd_SR_cut_6 : decode prog_1_method_9_code 6 = .ok (.ifCond .eq 23, 3) := by decide +kernel
theorem kd_SR_cut_9 : decode prog_1_method_9_code 9 = .ok (.aload_n 0, 1) := by decide +kernel
theorem kd_SR_cut_10 : decode prog_1_method_9_code 10 = .ok (.getfield 18, 3) := by decide +kernel
theorem kd_SR_cut_13 : decode prog_1_method_9_code 13 = .ok (.iload_n 1, 1) := by decide +kernel
theorem kd_SR_cut_14 : decode prog_1_method_9_code 14 = .ok (.aaload, 1) := by decide +kernel
theorem kd_SR_cut_15 : decode prog_1_method_9_code 15 = .ok (.getfield 107, 3) := by decide +kernel
theorem kd_SR_cut_18 : decode prog_1_method_9_code 18 = .ok (.getfield 143, 3) := by decide +kernel
theorem kd_SR_cut_21 : decode prog_1_method_9_code 21 = .ok (.iload_n 2, 1) := by decide +kernel
theorem kd_SR_cut_22 : decode prog_1_method_9_code 22 = .ok (.aaload, 1) := by decide +kernel
theorem kd_SR_cut_23 : decode prog_1_method_9_code 23 = .ok (.getfield 122, 3) := by decide +kernel
theorem kd_SR_cut_26 : decode prog_1_method_9_code 26 = .ok (.ifCond .ne 5, 3) := by decide +kernel
theorem kd_SR_cut_29 : decode prog_1_method_9_code 29 = .ok (.iconst 0, 1) := by decide +kernel
theorem kd_SR_cut_30 : decode prog_1_method_9_code 30 = .ok (.ireturn, 1) := by decide +kernel
theorem kd_SR_cut_31 : decode prog_1_method_9_code 31 = .ok (.aload_n 0, 1) := by decide +kernel
theorem kd_SR_cut_32 : decode prog_1_method_9_code 32 = .ok (.getfield 18, 3) := by decide +kernel
theorem kd_SR_cut_35 : decode prog_1_method_9_code 35 = .ok (.iload_n 1, 1) := by decide +kernel
theorem kd_SR_cut_36 : decode prog_1_method_9_code 36 = .ok (.aaload, 1) := by decide +kernel
theorem kd_SR_cut_37 : decode prog_1_method_9_code 37 = .ok (.getfield 107, 3) := by decide +kernel
theorem kd_SR_cut_40 : decode prog_1_method_9_code 40 = .ok (.getfield 143, 3) := by decide +kernel
theorem kd_SR_cut_43 : decode prog_1_method_9_code 43 = .ok (.iload_n 2, 1) := by decide +kernel
theorem kd_SR_cut_44 : decode prog_1_method_9_code 44 = .ok (.aaload, 1) := by decide +kernel
theorem kd_SR_cut_45 : decode prog_1_method_9_code 45 = .ok (.dup, 1) := by decide +kernel
theorem kd_SR_cut_46 : decode prog_1_method_9_code 46 = .ok (.getfield 122, 3) := by decide +kernel
theorem kd_SR_cut_49 : decode prog_1_method_9_code 49 = .ok (.iconst 1, 1) := by decide +kernel
theorem kd_SR_cut_50 : decode prog_1_method_9_code 50 = .ok (.isub, 1) := by decide +kernel
theorem kd_SR_cut_51 : decode prog_1_method_9_code 51 = .ok (.putfield 122, 3) := by decide +kernel
theorem kd_SR_cut_54 : decode prog_1_method_9_code 54 = .ok (.iconst 1, 1) := by decide +kernel
theorem kd_SR_cut_55 : decode prog_1_method_9_code 55 = .ok (.ireturn, 1) := by decide +kernel
def kc_SR_cut_29 (Po : Option Value → qa_M → Prop) : qa_K := (qi_ic (nI 0) (qi_zret (0, 0) Po))
def kc_SR_cut_0 (Po : Option Value → qa_M → Prop) : qa_K := (qi_aload 0 (qi_iload 1 (qi_iload 2 (qi_callv 3 1 (0, 0) sp_SR_isOnWire (qi_ifeq (kc_SR_cut_29 Po) (qi_aload 0 (qi_gp 1 1 (qi_iload 1 (qi_aald 1001 (qi_gp 6 164 (qi_gp 3 64 (qi_iload 2 (qi_aald 1064 (qi_gi 2 34 (qi_ifne (qi_aload 0 (qi_gp 1 1 (qi_iload 1 (qi_aald 1001 (qi_gp 6 164 (qi_gp 3 64 (qi_iload 2 (qi_aald 1064 (qi_dup (qi_gi 2 34 (qi_ic (nI 1) (qi_isub (qi_pi 2 34 (qi_ic (nI 1) (qi_zret (0, 0) Po))))))))))))))) (kc_SR_cut_29 Po))))))))))))))))
abbrev kS_SR_cut (l : Launch) (D : va_G) (E : Nat → ClassId) (B : Nat) (sc : qa_Z) (Po : Option Value → qa_M → Prop) (pc : Nat) (k : qa_K) : Prop := qa_S l "SealedRecords" prog_1_method_9_code 3 (some .boolean) false D E B rm_SR_cut sc (qa_Qf D E B rm_SR_cut Po) pc k
theorem ks_SR_cut_29 (l : Launch) (D : va_G) (E : Nat → ClassId) (B : Nat) (sc : qa_Z) (Po : Option Value → qa_M → Prop) : kS_SR_cut l D E B sc Po 29 (kc_SR_cut_29 Po) := (qs_iconst kd_SR_cut_29 (by decide) (qs_zret kd_SR_cut_30))
theorem ks_SR_cut_0 (l : Launch) (D : va_G) (E : Nat → ClassId) (B : Nat) (sc : qa_Z) (Po : Option Value → qa_M → Prop) : kS_SR_cut l D E B sc Po 0 (kc_SR_cut_0 Po) := (qs_aload_n kd_SR_cut_0 rfl (qs_iload_n kd_SR_cut_1 rfl (qs_iload_n kd_SR_cut_2 rfl (qs_callv (ci := 0) (ct_SR_isOnWire l sc) ww_260 (by decide) rfl (by decide) ww_261 ww_262 ww_263 ww_1 yd_SR_isOnWire kd_SR_cut_3 (qs_ifeq (tgt := 29) kd_SR_cut_6 (by decide) (ks_SR_cut_29 l D E B sc Po) (qs_aload_n kd_SR_cut_9 rfl (fg_1 ww_57 kd_SR_cut_10 (qs_iload_n kd_SR_cut_13 rfl (qs_aald (κ := 1001) (t := 0) rfl (fun _ => rfl) (by decide) kd_SR_cut_14 (fg_164 ww_168 kd_SR_cut_15 (fg_64 ww_264 kd_SR_cut_18 (qs_iload_n kd_SR_cut_21 rfl (qs_aald (κ := 1064) (t := 1) rfl (fun _ => rfl) (by decide) kd_SR_cut_22 (fg_34 ww_181 kd_SR_cut_23 (qs_ifne (tgt := 31) kd_SR_cut_26 (by decide) (qs_aload_n kd_SR_cut_31 rfl (fg_1 ww_57 kd_SR_cut_32 (qs_iload_n kd_SR_cut_35 rfl (qs_aald (κ := 1001) (t := 0) rfl (fun _ => rfl) (by decide) kd_SR_cut_36 (fg_164 ww_168 kd_SR_cut_37 (fg_64 ww_264 kd_SR_cut_40 (qs_iload_n kd_SR_cut_43 rfl (qs_aald (κ := 1064) (t := 1) rfl (fun _ => rfl) (by decide) kd_SR_cut_44 (qs_dup kd_SR_cut_45 (fg_34 ww_181 kd_SR_cut_46 (qs_iconst kd_SR_cut_49 (by decide) (qs_isub kd_SR_cut_50 (fp_34 ww_181 kd_SR_cut_51 (qs_iconst kd_SR_cut_54 (by decide) (qs_zret kd_SR_cut_55))))))))))))))) (ks_SR_cut_29 l D E B sc Po))))))))))))))))
def sp_SR_cut : qa_sp := fun args M Po => match args with
  | [.ref a0, .int a1, .int a2] => kc_SR_cut_0 Po (0, 0) [some (.ref a0), some (.int a1), some (.int a2)] [] M
  | _ => False
theorem ct_SR_cut (l : Launch) (sc : qa_Z) : qa_T l ym_SR_cut (Cond.code ym_SR_cut prog_1_method_9_code 3 (some .boolean) :: q_W0) rm_SR_cut sc (sp_SR_cut) := by
  intro D E B args M Po h
  unfold sp_SR_cut at h
  split at h
  · exact qa_ct (ini := false) (by decide) (by decide) (Nat.le_of_ble_eq_true rfl) (qa_lvok rfl) (ks_SR_cut_0 l D E B sc Po) h
  · exact h.elim
theorem kd_SR_lose_0 : decode prog_1_method_10_code 0 = .ok (.aload_n 0, 1) := by decide +kernel
theorem kd_SR_lose_1 : decode prog_1_method_10_code 1 = .ok (.iload_n 1, 1) := by decide +kernel
theorem kd_SR_lose_2 : decode prog_1_method_10_code 2 = .ok (.iload_n 2, 1) := by decide +kernel
theorem kd_SR_lose_3 : decode prog_1_method_10_code 3 = .ok (.invokevirtual 139, 3) := by decide +kernel
theorem kd_SR_lose_6 : decode prog_1_method_10_code 6 = .ok (.ifCond .ne 5, 3) := by decide +kernel
theorem kd_SR_lose_9 : decode prog_1_method_10_code 9 = .ok (.iconst 0, 1) := by decide +kernel
theorem kd_SR_lose_10 : decode prog_1_method_10_code 10 = .ok (.ireturn, 1) := by decide +kernel
theorem kd_SR_lose_11 : decode prog_1_method_10_code 11 = .ok (.aload_n 0, 1) := by decide +kernel
theorem kd_SR_lose_12 : decode prog_1_method_10_code 12 = .ok (.getfield 18, 3) := by decide +kernel
theorem kd_SR_lose_15 : decode prog_1_method_10_code 15 = .ok (.iload_n 1, 1) := by decide +kernel
theorem kd_SR_lose_16 : decode prog_1_method_10_code 16 = .ok (.aaload, 1) := by decide +kernel
theorem kd_SR_lose_17 : decode prog_1_method_10_code 17 = .ok (.getfield 107, 3) := by decide +kernel
theorem kd_SR_lose_20 : decode prog_1_method_10_code 20 = .ok (.iload_n 2, 1) := by decide +kernel
theorem kd_SR_lose_21 : decode prog_1_method_10_code 21 = .ok (.invokevirtual 128, 3) := by decide +kernel
theorem kd_SR_lose_24 : decode prog_1_method_10_code 24 = .ok (.pop, 1) := by decide +kernel
theorem kd_SR_lose_25 : decode prog_1_method_10_code 25 = .ok (.iconst 1, 1) := by decide +kernel
theorem kd_SR_lose_26 : decode prog_1_method_10_code 26 = .ok (.ireturn, 1) := by decide +kernel
def kc_SR_lose_0 (Po : Option Value → qa_M → Prop) : qa_K := (qi_aload 0 (qi_iload 1 (qi_iload 2 (qi_callv 3 1 (0, 0) sp_SR_isOnWire (qi_ifne (qi_aload 0 (qi_gp 1 1 (qi_iload 1 (qi_aald 1001 (qi_gp 6 164 (qi_iload 2 (qi_callv 2 3 (0, 0) sp_Rw_remove (qi_pop (qi_ic (nI 1) (qi_zret (0, 0) Po)))))))))) (qi_ic (nI 0) (qi_zret (0, 0) Po)))))))
abbrev kS_SR_lose (l : Launch) (D : va_G) (E : Nat → ClassId) (B : Nat) (sc : qa_Z) (Po : Option Value → qa_M → Prop) (pc : Nat) (k : qa_K) : Prop := qa_S l "SealedRecords" prog_1_method_10_code 3 (some .boolean) false D E B rm_SR_lose sc (qa_Qf D E B rm_SR_lose Po) pc k
theorem ks_SR_lose_0 (l : Launch) (D : va_G) (E : Nat → ClassId) (B : Nat) (sc : qa_Z) (Po : Option Value → qa_M → Prop) : kS_SR_lose l D E B sc Po 0 (kc_SR_lose_0 Po) := (qs_aload_n kd_SR_lose_0 rfl (qs_iload_n kd_SR_lose_1 rfl (qs_iload_n kd_SR_lose_2 rfl (qs_callv (ci := 0) (ct_SR_isOnWire l sc) ww_260 (by decide) rfl (by decide) ww_261 ww_262 ww_263 ww_1 yd_SR_isOnWire kd_SR_lose_3 (qs_ifne (tgt := 11) kd_SR_lose_6 (by decide) (qs_aload_n kd_SR_lose_11 rfl (fg_1 ww_57 kd_SR_lose_12 (qs_iload_n kd_SR_lose_15 rfl (qs_aald (κ := 1001) (t := 0) rfl (fun _ => rfl) (by decide) kd_SR_lose_16 (fg_164 ww_168 kd_SR_lose_17 (qs_iload_n kd_SR_lose_20 rfl (qs_callv (ci := 2) (ct_Rw_remove l sc) ww_252 (by decide) rfl (by decide) ww_253 ww_254 ww_255 ww_5 yd_Rw_remove kd_SR_lose_21 (qs_pop kd_SR_lose_24 (qs_iconst kd_SR_lose_25 (by decide) (qs_zret kd_SR_lose_26)))))))))) (qs_iconst kd_SR_lose_9 (by decide) (qs_zret kd_SR_lose_10)))))))
def sp_SR_lose : qa_sp := fun args M Po => match args with
  | [.ref a0, .int a1, .int a2] => kc_SR_lose_0 Po (0, 0) [some (.ref a0), some (.int a1), some (.int a2)] [] M
  | _ => False
theorem ct_SR_lose (l : Launch) (sc : qa_Z) : qa_T l ym_SR_lose (Cond.code ym_SR_lose prog_1_method_10_code 3 (some .boolean) :: q_W0) rm_SR_lose sc (sp_SR_lose) := by
  intro D E B args M Po h
  unfold sp_SR_lose at h
  split at h
  · exact qa_ct (ini := false) (by decide) (by decide) (Nat.le_of_ble_eq_true rfl) (qa_lvok rfl) (ks_SR_lose_0 l D E B sc Po) h
  · exact h.elim
theorem kd_SR_copy_0 : decode prog_1_method_11_code 0 = .ok (.aload_n 0, 1) := by decide +kernel
theorem kd_SR_copy_1 : decode prog_1_method_11_code 1 = .ok (.iload_n 1, 1) := by decide +kernel
theorem kd_SR_copy_2 : decode prog_1_method_11_code 2 = .ok (.iload_n 2, 1) := by decide +kernel
theorem kd_SR_copy_3 : decode prog_1_method_11_code 3 = .ok (.invokevirtual 139, 3) := by decide +kernel
theorem kd_SR_copy_6 : decode prog_1_method_11_code 6 = .ok (.ifCond .eq 18, 3) := by decide +kernel
theorem kd_SR_copy_9 : decode prog_1_method_11_code 9 = .ok (.aload_n 0, 1) := by decide +kernel
theorem kd_SR_copy_10 : decode prog_1_method_11_code 10 = .ok (.getfield 18, 3) := by decide +kernel
theorem kd_SR_copy_13 : decode prog_1_method_11_code 13 = .ok (.iload_n 1, 1) := by decide +kernel
theorem kd_SR_copy_14 : decode prog_1_method_11_code 14 = .ok (.aaload, 1) := by decide +kernel
theorem kd_SR_copy_15 : decode prog_1_method_11_code 15 = .ok (.getfield 107, 3) := by decide +kernel
theorem kd_SR_copy_18 : decode prog_1_method_11_code 18 = .ok (.invokevirtual 111, 3) := by decide +kernel
theorem kd_SR_copy_21 : decode prog_1_method_11_code 21 = .ok (.ifCond .eq 5, 3) := by decide +kernel
theorem kd_SR_copy_24 : decode prog_1_method_11_code 24 = .ok (.iconst 0, 1) := by decide +kernel
theorem kd_SR_copy_25 : decode prog_1_method_11_code 25 = .ok (.ireturn, 1) := by decide +kernel
theorem kd_SR_copy_26 : decode prog_1_method_11_code 26 = .ok (.aload_n 0, 1) := by decide +kernel
theorem kd_SR_copy_27 : decode prog_1_method_11_code 27 = .ok (.getfield 18, 3) := by decide +kernel
theorem kd_SR_copy_30 : decode prog_1_method_11_code 30 = .ok (.iload_n 1, 1) := by decide +kernel
theorem kd_SR_copy_31 : decode prog_1_method_11_code 31 = .ok (.aaload, 1) := by decide +kernel
theorem kd_SR_copy_32 : decode prog_1_method_11_code 32 = .ok (.getfield 107, 3) := by decide +kernel
theorem kd_SR_copy_35 : decode prog_1_method_11_code 35 = .ok (.astore_n 3, 1) := by decide +kernel
theorem kd_SR_copy_36 : decode prog_1_method_11_code 36 = .ok (.aload_n 3, 1) := by decide +kernel
theorem kd_SR_copy_37 : decode prog_1_method_11_code 37 = .ok (.invokevirtual 114, 3) := by decide +kernel
theorem kd_SR_copy_40 : decode prog_1_method_11_code 40 = .ok (.aload_n 3, 1) := by decide +kernel
theorem kd_SR_copy_41 : decode prog_1_method_11_code 41 = .ok (.getfield 143, 3) := by decide +kernel
theorem kd_SR_copy_44 : decode prog_1_method_11_code 44 = .ok (.iload_n 2, 1) := by decide +kernel
theorem kd_SR_copy_45 : decode prog_1_method_11_code 45 = .ok (.aaload, 1) := by decide +kernel
theorem kd_SR_copy_46 : decode prog_1_method_11_code 46 = .ok (.invokevirtual 154, 3) := by decide +kernel
theorem kd_SR_copy_49 : decode prog_1_method_11_code 49 = .ok (.iconst 1, 1) := by decide +kernel
theorem kd_SR_copy_50 : decode prog_1_method_11_code 50 = .ok (.ireturn, 1) := by decide +kernel
def kc_SR_copy_24 (Po : Option Value → qa_M → Prop) : qa_K := (qi_ic (nI 0) (qi_zret (0, 0) Po))
def kc_SR_copy_0 (Po : Option Value → qa_M → Prop) : qa_K := (qi_aload 0 (qi_iload 1 (qi_iload 2 (qi_callv 3 1 (0, 0) sp_SR_isOnWire (qi_ifeq (kc_SR_copy_24 Po) (qi_aload 0 (qi_gp 1 1 (qi_iload 1 (qi_aald 1001 (qi_gp 6 164 (qi_callv 1 3 (0, 0) sp_Rw_isFull (qi_ifeq (qi_aload 0 (qi_gp 1 1 (qi_iload 1 (qi_aald 1001 (qi_gp 6 164 (qi_astore 3 (qi_aload 3 (qi_callv 1 3 (0, 0) sp_Rw_addNewest (qi_aload 3 (qi_gp 3 64 (qi_iload 2 (qi_aald 1064 (qi_callv 2 2 (0, 0) sp_Pk_becomeLike (qi_ic (nI 1) (qi_zret (0, 0) Po))))))))))))))) (kc_SR_copy_24 Po)))))))))))))
abbrev kS_SR_copy (l : Launch) (D : va_G) (E : Nat → ClassId) (B : Nat) (sc : qa_Z) (Po : Option Value → qa_M → Prop) (pc : Nat) (k : qa_K) : Prop := qa_S l "SealedRecords" prog_1_method_11_code 4 (some .boolean) false D E B rm_SR_copy sc (qa_Qf D E B rm_SR_copy Po) pc k
theorem ks_SR_copy_24 (l : Launch) (D : va_G) (E : Nat → ClassId) (B : Nat) (sc : qa_Z) (Po : Option Value → qa_M → Prop) : kS_SR_copy l D E B sc Po 24 (kc_SR_copy_24 Po) := (qs_iconst kd_SR_copy_24 (by decide) (qs_zret kd_SR_copy_25))
theorem ks_SR_copy_0 (l : Launch) (D : va_G) (E : Nat → ClassId) (B : Nat) (sc : qa_Z) (Po : Option Value → qa_M → Prop) : kS_SR_copy l D E B sc Po 0 (kc_SR_copy_0 Po) := (qs_aload_n kd_SR_copy_0 rfl (qs_iload_n kd_SR_copy_1 rfl (qs_iload_n kd_SR_copy_2 rfl (qs_callv (ci := 0) (ct_SR_isOnWire l sc) ww_260 (by decide) rfl (by decide) ww_261 ww_262 ww_263 ww_1 yd_SR_isOnWire kd_SR_copy_3 (qs_ifeq (tgt := 24) kd_SR_copy_6 (by decide) (ks_SR_copy_24 l D E B sc Po) (qs_aload_n kd_SR_copy_9 rfl (fg_1 ww_57 kd_SR_copy_10 (qs_iload_n kd_SR_copy_13 rfl (qs_aald (κ := 1001) (t := 0) rfl (fun _ => rfl) (by decide) kd_SR_copy_14 (fg_164 ww_168 kd_SR_copy_15 (qs_callv (ci := 2) (ct_Rw_isFull l sc) ww_169 (by decide) rfl (by decide) ww_170 ww_171 ww_172 ww_5 yd_Rw_isFull kd_SR_copy_18 (qs_ifeq (tgt := 26) kd_SR_copy_21 (by decide) (qs_aload_n kd_SR_copy_26 rfl (fg_1 ww_57 kd_SR_copy_27 (qs_iload_n kd_SR_copy_30 rfl (qs_aald (κ := 1001) (t := 0) rfl (fun _ => rfl) (by decide) kd_SR_copy_31 (fg_164 ww_168 kd_SR_copy_32 (qs_astore_n kd_SR_copy_35 rfl (by decide) (qs_aload_n kd_SR_copy_36 rfl (qs_callv (ci := 2) (ct_Rw_addNewest l sc) ww_173 (by decide) rfl (by decide) ww_174 ww_175 ww_176 ww_5 yd_Rw_addNewest kd_SR_copy_37 (qs_aload_n kd_SR_copy_40 rfl (fg_64 ww_264 kd_SR_copy_41 (qs_iload_n kd_SR_copy_44 rfl (qs_aald (κ := 1064) (t := 1) rfl (fun _ => rfl) (by decide) kd_SR_copy_45 (qs_callv (ci := 1) (ct_Pk_becomeLike l sc) ww_158 (by decide) rfl (by decide) ww_267 ww_160 ww_161 ww_3 yd_Pk_becomeLike kd_SR_copy_46 (qs_iconst kd_SR_copy_49 (by decide) (qs_zret kd_SR_copy_50))))))))))))))) (ks_SR_copy_24 l D E B sc Po)))))))))))))
def sp_SR_copy : qa_sp := fun args M Po => match args with
  | [.ref a0, .int a1, .int a2] => kc_SR_copy_0 Po (0, 0) [some (.ref a0), some (.int a1), some (.int a2), none] [] M
  | _ => False
theorem ct_SR_copy (l : Launch) (sc : qa_Z) : qa_T l ym_SR_copy (Cond.code ym_SR_copy prog_1_method_11_code 4 (some .boolean) :: q_W0) rm_SR_copy sc (sp_SR_copy) := by
  intro D E B args M Po h
  unfold sp_SR_copy at h
  split at h
  · exact qa_ct (ini := false) (by decide) (by decide) (Nat.le_of_ble_eq_true rfl) (qa_lvok rfl) (ks_SR_copy_0 l D E B sc Po) h
  · exact h.elim
theorem kd_SR_swap_0 : decode prog_1_method_12_code 0 = .ok (.aload_n 0, 1) := by decide +kernel
theorem kd_SR_swap_1 : decode prog_1_method_12_code 1 = .ok (.iload_n 1, 1) := by decide +kernel
theorem kd_SR_swap_2 : decode prog_1_method_12_code 2 = .ok (.iload_n 2, 1) := by decide +kernel
theorem kd_SR_swap_3 : decode prog_1_method_12_code 3 = .ok (.invokevirtual 139, 3) := by decide +kernel
theorem kd_SR_swap_6 : decode prog_1_method_12_code 6 = .ok (.ifCond .eq 14, 3) := by decide +kernel
theorem kd_SR_swap_9 : decode prog_1_method_12_code 9 = .ok (.aload_n 0, 1) := by decide +kernel
theorem kd_SR_swap_10 : decode prog_1_method_12_code 10 = .ok (.iload_n 1, 1) := by decide +kernel
theorem kd_SR_swap_11 : decode prog_1_method_12_code 11 = .ok (.iload_n 2, 1) := by decide +kernel
theorem kd_SR_swap_12 : decode prog_1_method_12_code 12 = .ok (.iconst 1, 1) := by decide +kernel
theorem kd_SR_swap_13 : decode prog_1_method_12_code 13 = .ok (.iadd, 1) := by decide +kernel
theorem kd_SR_swap_14 : decode prog_1_method_12_code 14 = .ok (.invokevirtual 139, 3) := by decide +kernel
theorem kd_SR_swap_17 : decode prog_1_method_12_code 17 = .ok (.ifCond .ne 5, 3) := by decide +kernel
theorem kd_SR_swap_20 : decode prog_1_method_12_code 20 = .ok (.iconst 0, 1) := by decide +kernel
theorem kd_SR_swap_21 : decode prog_1_method_12_code 21 = .ok (.ireturn, 1) := by decide +kernel
theorem kd_SR_swap_22 : decode prog_1_method_12_code 22 = .ok (.aload_n 0, 1) := by decide +kernel
theorem kd_SR_swap_23 : decode prog_1_method_12_code 23 = .ok (.getfield 18, 3) := by decide +kernel
theorem kd_SR_swap_26 : decode prog_1_method_12_code 26 = .ok (.iload_n 1, 1) := by decide +kernel
theorem kd_SR_swap_27 : decode prog_1_method_12_code 27 = .ok (.aaload, 1) := by decide +kernel
theorem kd_SR_swap_28 : decode prog_1_method_12_code 28 = .ok (.getfield 107, 3) := by decide +kernel
theorem kd_SR_swap_31 : decode prog_1_method_12_code 31 = .ok (.astore_n 3, 1) := by decide +kernel
theorem kd_SR_swap_32 : decode prog_1_method_12_code 32 = .ok (.aload_n 3, 1) := by decide +kernel
theorem kd_SR_swap_33 : decode prog_1_method_12_code 33 = .ok (.getfield 143, 3) := by decide +kernel
theorem kd_SR_swap_36 : decode prog_1_method_12_code 36 = .ok (.iload_n 2, 1) := by decide +kernel
theorem kd_SR_swap_37 : decode prog_1_method_12_code 37 = .ok (.aaload, 1) := by decide +kernel
theorem kd_SR_swap_38 : decode prog_1_method_12_code 38 = .ok (.astore 4, 2) := by decide +kernel
theorem kd_SR_swap_40 : decode prog_1_method_12_code 40 = .ok (.aload_n 3, 1) := by decide +kernel
theorem kd_SR_swap_41 : decode prog_1_method_12_code 41 = .ok (.getfield 143, 3) := by decide +kernel
theorem kd_SR_swap_44 : decode prog_1_method_12_code 44 = .ok (.iload_n 2, 1) := by decide +kernel
theorem kd_SR_swap_45 : decode prog_1_method_12_code 45 = .ok (.aload_n 3, 1) := by decide +kernel
theorem kd_SR_swap_46 : decode prog_1_method_12_code 46 = .ok (.getfield 143, 3) := by decide +kernel
theorem kd_SR_swap_49 : decode prog_1_method_12_code 49 = .ok (.iload_n 2, 1) := by decide +kernel
theorem kd_SR_swap_50 : decode prog_1_method_12_code 50 = .ok (.iconst 1, 1) := by decide +kernel
theorem kd_SR_swap_51 : decode prog_1_method_12_code 51 = .ok (.iadd, 1) := by decide +kernel
theorem kd_SR_swap_52 : decode prog_1_method_12_code 52 = .ok (.aaload, 1) := by decide +kernel
theorem kd_SR_swap_53 : decode prog_1_method_12_code 53 = .ok (.aastore, 1) := by decide +kernel
theorem kd_SR_swap_54 : decode prog_1_method_12_code 54 = .ok (.aload_n 3, 1) := by decide +kernel
theorem kd_SR_swap_55 : decode prog_1_method_12_code 55 = .ok (.getfield 143, 3) := by decide +kernel
theorem kd_SR_swap_58 : decode prog_1_method_12_code 58 = .ok (.iload_n 2, 1) := by decide +kernel
theorem kd_SR_swap_59 : decode prog_1_method_12_code 59 = .ok (.iconst 1, 1) := by decide +kernel
theorem kd_SR_swap_60 : decode prog_1_method_12_code 60 = .ok (.iadd, 1) := by decide +kernel
theorem kd_SR_swap_61 : decode prog_1_method_12_code 61 = .ok (.aload 4, 2) := by decide +kernel
theorem kd_SR_swap_63 : decode prog_1_method_12_code 63 = .ok (.aastore, 1) := by decide +kernel
theorem kd_SR_swap_64 : decode prog_1_method_12_code 64 = .ok (.iconst 1, 1) := by decide +kernel
theorem kd_SR_swap_65 : decode prog_1_method_12_code 65 = .ok (.ireturn, 1) := by decide +kernel
def kc_SR_swap_20 (Po : Option Value → qa_M → Prop) : qa_K := (qi_ic (nI 0) (qi_zret (0, 0) Po))
def kc_SR_swap_0 (Po : Option Value → qa_M → Prop) : qa_K := (qi_aload 0 (qi_iload 1 (qi_iload 2 (qi_callv 3 1 (0, 0) sp_SR_isOnWire (qi_ifeq (kc_SR_swap_20 Po) (qi_aload 0 (qi_iload 1 (qi_iload 2 (qi_ic (nI 1) (qi_iadd (qi_callv 3 1 (0, 0) sp_SR_isOnWire (qi_ifne (qi_aload 0 (qi_gp 1 1 (qi_iload 1 (qi_aald 1001 (qi_gp 6 164 (qi_astore 3 (qi_aload 3 (qi_gp 3 64 (qi_iload 2 (qi_aald 1064 (qi_astore 4 (qi_aload 3 (qi_gp 3 64 (qi_iload 2 (qi_aload 3 (qi_gp 3 64 (qi_iload 2 (qi_ic (nI 1) (qi_iadd (qi_aald 1064 (qi_aast 1064 2 (qi_aload 3 (qi_gp 3 64 (qi_iload 2 (qi_ic (nI 1) (qi_iadd (qi_aload 4 (qi_aast 1064 2 (qi_ic (nI 1) (qi_zret (0, 0) Po)))))))))))))))))))))))))))))) (kc_SR_swap_20 Po)))))))))))))
abbrev kS_SR_swap (l : Launch) (D : va_G) (E : Nat → ClassId) (B : Nat) (sc : qa_Z) (Po : Option Value → qa_M → Prop) (pc : Nat) (k : qa_K) : Prop := qa_S l "SealedRecords" prog_1_method_12_code 5 (some .boolean) false D E B rm_SR_swap sc (qa_Qf D E B rm_SR_swap Po) pc k
theorem ks_SR_swap_20 (l : Launch) (D : va_G) (E : Nat → ClassId) (B : Nat) (sc : qa_Z) (Po : Option Value → qa_M → Prop) : kS_SR_swap l D E B sc Po 20 (kc_SR_swap_20 Po) := (qs_iconst kd_SR_swap_20 (by decide) (qs_zret kd_SR_swap_21))
theorem ks_SR_swap_0 (l : Launch) (D : va_G) (E : Nat → ClassId) (B : Nat) (sc : qa_Z) (Po : Option Value → qa_M → Prop) : kS_SR_swap l D E B sc Po 0 (kc_SR_swap_0 Po) := (qs_aload_n kd_SR_swap_0 rfl (qs_iload_n kd_SR_swap_1 rfl (qs_iload_n kd_SR_swap_2 rfl (qs_callv (ci := 0) (ct_SR_isOnWire l sc) ww_260 (by decide) rfl (by decide) ww_261 ww_262 ww_263 ww_1 yd_SR_isOnWire kd_SR_swap_3 (qs_ifeq (tgt := 20) kd_SR_swap_6 (by decide) (ks_SR_swap_20 l D E B sc Po) (qs_aload_n kd_SR_swap_9 rfl (qs_iload_n kd_SR_swap_10 rfl (qs_iload_n kd_SR_swap_11 rfl (qs_iconst kd_SR_swap_12 (by decide) (qs_iadd kd_SR_swap_13 (qs_callv (ci := 0) (ct_SR_isOnWire l sc) ww_260 (by decide) rfl (by decide) ww_261 ww_262 ww_263 ww_1 yd_SR_isOnWire kd_SR_swap_14 (qs_ifne (tgt := 22) kd_SR_swap_17 (by decide) (qs_aload_n kd_SR_swap_22 rfl (fg_1 ww_57 kd_SR_swap_23 (qs_iload_n kd_SR_swap_26 rfl (qs_aald (κ := 1001) (t := 0) rfl (fun _ => rfl) (by decide) kd_SR_swap_27 (fg_164 ww_168 kd_SR_swap_28 (qs_astore_n kd_SR_swap_31 rfl (by decide) (qs_aload_n kd_SR_swap_32 rfl (fg_64 ww_264 kd_SR_swap_33 (qs_iload_n kd_SR_swap_36 rfl (qs_aald (κ := 1064) (t := 1) rfl (fun _ => rfl) (by decide) kd_SR_swap_37 (qs_astore kd_SR_swap_38 (by decide) (qs_aload_n kd_SR_swap_40 rfl (fg_64 ww_264 kd_SR_swap_41 (qs_iload_n kd_SR_swap_44 rfl (qs_aload_n kd_SR_swap_45 rfl (fg_64 ww_264 kd_SR_swap_46 (qs_iload_n kd_SR_swap_49 rfl (qs_iconst kd_SR_swap_50 (by decide) (qs_iadd kd_SR_swap_51 (qs_aald (κ := 1064) (t := 1) rfl (fun _ => rfl) (by decide) kd_SR_swap_52 (qs_aast (κ := 1064) (t := 1) (ci := 1) rfl rfl (fun _ => rfl) (by decide) kd_SR_swap_53 (qs_aload_n kd_SR_swap_54 rfl (fg_64 ww_264 kd_SR_swap_55 (qs_iload_n kd_SR_swap_58 rfl (qs_iconst kd_SR_swap_59 (by decide) (qs_iadd kd_SR_swap_60 (qs_aload kd_SR_swap_61 (qs_aast (κ := 1064) (t := 1) (ci := 1) rfl rfl (fun _ => rfl) (by decide) kd_SR_swap_63 (qs_iconst kd_SR_swap_64 (by decide) (qs_zret kd_SR_swap_65)))))))))))))))))))))))))))))) (ks_SR_swap_20 l D E B sc Po)))))))))))))
def sp_SR_swap : qa_sp := fun args M Po => match args with
  | [.ref a0, .int a1, .int a2] => kc_SR_swap_0 Po (0, 0) [some (.ref a0), some (.int a1), some (.int a2), none, none] [] M
  | _ => False
theorem ct_SR_swap (l : Launch) (sc : qa_Z) : qa_T l ym_SR_swap (Cond.code ym_SR_swap prog_1_method_12_code 5 (some .boolean) :: q_W0) rm_SR_swap sc (sp_SR_swap) := by
  intro D E B args M Po h
  unfold sp_SR_swap at h
  split at h
  · exact qa_ct (ini := false) (by decide) (by decide) (Nat.le_of_ble_eq_true rfl) (qa_lvok rfl) (ks_SR_swap_0 l D E B sc Po) h
  · exact h.elim
