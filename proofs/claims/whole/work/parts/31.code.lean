theorem kd_Mo_deliver_0 : decode prog_8_method_31_code 0 = .ok (.iload_n 1, 1) := by decide +kernel
theorem kd_Mo_deliver_1 : decode prog_8_method_31_code 1 = .ok (.invokestatic 83, 3) := by decide +kernel
theorem kd_Mo_deliver_4 : decode prog_8_method_31_code 4 = .ok (.ifCond .eq 12, 3) := by decide +kernel
theorem kd_Mo_deliver_7 : decode prog_8_method_31_code 7 = .ok (.aload_n 0, 1) := by decide +kernel
theorem kd_Mo_deliver_8 : decode prog_8_method_31_code 8 = .ok (.getfield 42, 3) := by decide +kernel
theorem kd_Mo_deliver_11 : decode prog_8_method_31_code 11 = .ok (.iload_n 1, 1) := by decide +kernel
theorem kd_Mo_deliver_12 : decode prog_8_method_31_code 12 = .ok (.iaload, 1) := by decide +kernel
theorem kd_Mo_deliver_13 : decode prog_8_method_31_code 13 = .ok (.ifCond .ne 5, 3) := by decide +kernel
theorem kd_Mo_deliver_16 : decode prog_8_method_31_code 16 = .ok (.iconst (-1), 1) := by decide +kernel
theorem kd_Mo_deliver_17 : decode prog_8_method_31_code 17 = .ok (.ireturn, 1) := by decide +kernel
theorem kd_Mo_deliver_18 : decode prog_8_method_31_code 18 = .ok (.aload_n 0, 1) := by decide +kernel
theorem kd_Mo_deliver_19 : decode prog_8_method_31_code 19 = .ok (.getfield 26, 3) := by decide +kernel
theorem kd_Mo_deliver_22 : decode prog_8_method_31_code 22 = .ok (.iconst 2, 1) := by decide +kernel
theorem kd_Mo_deliver_23 : decode prog_8_method_31_code 23 = .ok (.iload_n 1, 1) := by decide +kernel
theorem kd_Mo_deliver_24 : decode prog_8_method_31_code 24 = .ok (.iadd, 1) := by decide +kernel
theorem kd_Mo_deliver_25 : decode prog_8_method_31_code 25 = .ok (.baload, 1) := by decide +kernel
theorem kd_Mo_deliver_26 : decode prog_8_method_31_code 26 = .ok (.ifCond .eq 13, 3) := by decide +kernel
theorem kd_Mo_deliver_29 : decode prog_8_method_31_code 29 = .ok (.aload_n 0, 1) := by decide +kernel
theorem kd_Mo_deliver_30 : decode prog_8_method_31_code 30 = .ok (.iload_n 1, 1) := by decide +kernel
theorem kd_Mo_deliver_31 : decode prog_8_method_31_code 31 = .ok (.iconst 0, 1) := by decide +kernel
theorem kd_Mo_deliver_32 : decode prog_8_method_31_code 32 = .ok (.invokevirtual 161, 3) := by decide +kernel
theorem kd_Mo_deliver_35 : decode prog_8_method_31_code 35 = .ok (.pop, 1) := by decide +kernel
theorem kd_Mo_deliver_36 : decode prog_8_method_31_code 36 = .ok (.bipush (-2), 2) := by decide +kernel
theorem kd_Mo_deliver_38 : decode prog_8_method_31_code 38 = .ok (.ireturn, 1) := by decide +kernel
theorem kd_Mo_deliver_39 : decode prog_8_method_31_code 39 = .ok (.aload_n 0, 1) := by decide +kernel
theorem kd_Mo_deliver_40 : decode prog_8_method_31_code 40 = .ok (.getfield 54, 3) := by decide +kernel
theorem kd_Mo_deliver_43 : decode prog_8_method_31_code 43 = .ok (.iload_n 1, 1) := by decide +kernel
theorem kd_Mo_deliver_44 : decode prog_8_method_31_code 44 = .ok (.iaload, 1) := by decide +kernel
theorem kd_Mo_deliver_45 : decode prog_8_method_31_code 45 = .ok (.bipush 16, 2) := by decide +kernel
theorem kd_Mo_deliver_47 : decode prog_8_method_31_code 47 = .ok (.if_icmp .ne 6, 3) := by decide +kernel
theorem kd_Mo_deliver_50 : decode prog_8_method_31_code 50 = .ok (.bipush (-3), 2) := by decide +kernel
theorem kd_Mo_deliver_52 : decode prog_8_method_31_code 52 = .ok (.ireturn, 1) := by decide +kernel
theorem kd_Mo_deliver_53 : decode prog_8_method_31_code 53 = .ok (.aload_n 0, 1) := by decide +kernel
theorem kd_Mo_deliver_54 : decode prog_8_method_31_code 54 = .ok (.iload_n 1, 1) := by decide +kernel
theorem kd_Mo_deliver_55 : decode prog_8_method_31_code 55 = .ok (.bipush 12, 2) := by decide +kernel
theorem kd_Mo_deliver_57 : decode prog_8_method_31_code 57 = .ok (.iload_n 1, 1) := by decide +kernel
theorem kd_Mo_deliver_58 : decode prog_8_method_31_code 58 = .ok (.imul, 1) := by decide +kernel
theorem kd_Mo_deliver_59 : decode prog_8_method_31_code 59 = .ok (.invokevirtual 164, 3) := by decide +kernel
theorem kd_Mo_deliver_62 : decode prog_8_method_31_code 62 = .ok (.istore_n 2, 1) := by decide +kernel
theorem kd_Mo_deliver_63 : decode prog_8_method_31_code 63 = .ok (.aload_n 0, 1) := by decide +kernel
theorem kd_Mo_deliver_64 : decode prog_8_method_31_code 64 = .ok (.iload_n 1, 1) := by decide +kernel
theorem kd_Mo_deliver_65 : decode prog_8_method_31_code 65 = .ok (.iconst 0, 1) := by decide +kernel
theorem kd_Mo_deliver_66 : decode prog_8_method_31_code 66 = .ok (.invokevirtual 161, 3) := by decide +kernel
theorem kd_Mo_deliver_69 : decode prog_8_method_31_code 69 = .ok (.pop, 1) := by decide +kernel
theorem kd_Mo_deliver_70 : decode prog_8_method_31_code 70 = .ok (.iload_n 2, 1) := by decide +kernel
theorem kd_Mo_deliver_71 : decode prog_8_method_31_code 71 = .ok (.bipush 100, 2) := by decide +kernel
theorem kd_Mo_deliver_73 : decode prog_8_method_31_code 73 = .ok (.if_icmp .ne 6, 3) := by decide +kernel
theorem kd_Mo_deliver_76 : decode prog_8_method_31_code 76 = .ok (.bipush 100, 2) := by decide +kernel
theorem kd_Mo_deliver_78 : decode prog_8_method_31_code 78 = .ok (.ireturn, 1) := by decide +kernel
theorem kd_Mo_deliver_79 : decode prog_8_method_31_code 79 = .ok (.iload_n 2, 1) := by decide +kernel
theorem kd_Mo_deliver_80 : decode prog_8_method_31_code 80 = .ok (.ifCond .ne 11, 3) := by decide +kernel
theorem kd_Mo_deliver_83 : decode prog_8_method_31_code 83 = .ok (.aload_n 0, 1) := by decide +kernel
theorem kd_Mo_deliver_84 : decode prog_8_method_31_code 84 = .ok (.iload_n 1, 1) := by decide +kernel
theorem kd_Mo_deliver_85 : decode prog_8_method_31_code 85 = .ok (.invokevirtual 167, 3) := by decide +kernel
theorem kd_Mo_deliver_88 : decode prog_8_method_31_code 88 = .ok (.goto 4, 3) := by decide +kernel
theorem kd_Mo_deliver_91 : decode prog_8_method_31_code 91 = .ok (.iload_n 2, 1) := by decide +kernel
theorem kd_Mo_deliver_92 : decode prog_8_method_31_code 92 = .ok (.istore_n 2, 1) := by decide +kernel
theorem kd_Mo_deliver_93 : decode prog_8_method_31_code 93 = .ok (.iload_n 2, 1) := by decide +kernel
theorem kd_Mo_deliver_94 : decode prog_8_method_31_code 94 = .ok (.ifCond .le 15, 3) := by decide +kernel
theorem kd_Mo_deliver_97 : decode prog_8_method_31_code 97 = .ok (.aload_n 0, 1) := by decide +kernel
theorem kd_Mo_deliver_98 : decode prog_8_method_31_code 98 = .ok (.iload_n 1, 1) := by decide +kernel
theorem kd_Mo_deliver_99 : decode prog_8_method_31_code 99 = .ok (.iload_n 2, 1) := by decide +kernel
theorem kd_Mo_deliver_100 : decode prog_8_method_31_code 100 = .ok (.invokevirtual 93, 3) := by decide +kernel
theorem kd_Mo_deliver_103 : decode prog_8_method_31_code 103 = .ok (.sipush 256, 3) := by decide +kernel
theorem kd_Mo_deliver_106 : decode prog_8_method_31_code 106 = .ok (.iload_n 2, 1) := by decide +kernel
theorem kd_Mo_deliver_107 : decode prog_8_method_31_code 107 = .ok (.iadd, 1) := by decide +kernel
theorem kd_Mo_deliver_108 : decode prog_8_method_31_code 108 = .ok (.ireturn, 1) := by decide +kernel
theorem kd_Mo_deliver_109 : decode prog_8_method_31_code 109 = .ok (.aload_n 0, 1) := by decide +kernel
theorem kd_Mo_deliver_110 : decode prog_8_method_31_code 110 = .ok (.iload_n 1, 1) := by decide +kernel
theorem kd_Mo_deliver_111 : decode prog_8_method_31_code 111 = .ok (.invokevirtual 171, 3) := by decide +kernel
theorem kd_Mo_deliver_114 : decode prog_8_method_31_code 114 = .ok (.aload_n 0, 1) := by decide +kernel
theorem kd_Mo_deliver_115 : decode prog_8_method_31_code 115 = .ok (.getfield 136, 3) := by decide +kernel
theorem kd_Mo_deliver_118 : decode prog_8_method_31_code 118 = .ok (.ireturn, 1) := by decide +kernel
def kc_Mo_deliver_92 (Po : Option Value → qa_M → Prop) : qa_K := (qi_istore 2 (qi_iload 2 (qi_ifle (qi_aload 0 (qi_iload 1 (qi_callv 2 7 (0, 0) sp_Mo_store (qi_aload 0 (qi_gi 7 214 (qi_iret (0, 0) Po)))))) (qi_aload 0 (qi_iload 1 (qi_iload 2 (qi_callv 3 7 (0, 0) sp_Mo_alert (qi_ic (nI 256) (qi_iload 2 (qi_iadd (qi_iret (0, 0) Po)))))))))))
def kc_Mo_deliver_16 (Po : Option Value → qa_M → Prop) : qa_K := (qi_ic (-1) (qi_iret (0, 0) Po))
def kc_Mo_deliver_0 (Po : Option Value → qa_M → Prop) : qa_K := (qi_iload 1 (qi_call 1 (0, 0) sp_Mo_isEnd (qi_ifeq (kc_Mo_deliver_16 Po) (qi_aload 0 (qi_gp 7 203 (qi_iload 1 (qi_iald 1203 (qi_ifne (qi_aload 0 (qi_gp 7 198 (qi_ic (nI 2) (qi_iload 1 (qi_iadd (qi_iald 1198 (qi_ifeq (qi_aload 0 (qi_gp 7 207 (qi_iload 1 (qi_iald 1207 (qi_ic (nI 16) (qi_icne (qi_aload 0 (qi_iload 1 (qi_ic (nI 12) (qi_iload 1 (qi_imul (qi_callv 3 7 (0, 0) sp_Mo_unseal (qi_istore 2 (qi_aload 0 (qi_iload 1 (qi_ic (nI 0) (qi_callv 3 7 (0, 0) sp_Mo_lose (qi_pop (qi_iload 2 (qi_ic (nI 100) (qi_icne (qi_iload 2 (qi_ifne (qi_iload 2 (kc_Mo_deliver_92 Po)) (qi_aload 0 (qi_iload 1 (qi_callv 2 7 (0, 0) sp_Mo_judge (kc_Mo_deliver_92 Po)))))) (qi_ic (nI 100) (qi_iret (0, 0) Po))))))))))))))))) (qi_ic (-3) (qi_iret (0, 0) Po)))))))) (qi_aload 0 (qi_iload 1 (qi_ic (nI 0) (qi_callv 3 7 (0, 0) sp_Mo_lose (qi_pop (qi_ic (-2) (qi_iret (0, 0) Po)))))))))))))) (kc_Mo_deliver_16 Po)))))))))
abbrev kS_Mo_deliver (l : Launch) (D : va_G) (E : Nat → ClassId) (B : Nat) (sc : qa_Z) (Po : Option Value → qa_M → Prop) (pc : Nat) (k : qa_K) : Prop := qa_S l "SealedRecordsModel" prog_8_method_31_code 3 (some .int) false D E B rm_Mo_deliver sc (qa_Qf D E B rm_Mo_deliver Po) pc k
theorem ks_Mo_deliver_92 (l : Launch) (D : va_G) (E : Nat → ClassId) (B : Nat) (sc : qa_Z) (Po : Option Value → qa_M → Prop) : kS_Mo_deliver l D E B sc Po 92 (kc_Mo_deliver_92 Po) := (qs_istore_n kd_Mo_deliver_92 rfl (by decide) (qs_iload_n kd_Mo_deliver_93 rfl (qs_ifle (tgt := 109) kd_Mo_deliver_94 (by decide) (qs_aload_n kd_Mo_deliver_109 rfl (qs_iload_n kd_Mo_deliver_110 rfl (qs_callv (ci := 6) (ct_Mo_store l sc) ww_362 (by decide) rfl (by decide) ww_363 ww_364 ww_365 ww_13 yd_Mo_store kd_Mo_deliver_111 (qs_aload_n kd_Mo_deliver_114 rfl (fg_214 ww_345 kd_Mo_deliver_115 (qs_iret kd_Mo_deliver_118)))))) (qs_aload_n kd_Mo_deliver_97 rfl (qs_iload_n kd_Mo_deliver_98 rfl (qs_iload_n kd_Mo_deliver_99 rfl (qs_callv (ci := 6) (ct_Mo_alert l sc) ww_310 (by decide) rfl (by decide) ww_311 ww_312 ww_313 ww_13 yd_Mo_alert kd_Mo_deliver_100 (qs_sipush kd_Mo_deliver_103 (by decide) (qs_iload_n kd_Mo_deliver_106 rfl (qs_iadd kd_Mo_deliver_107 (qs_iret kd_Mo_deliver_108)))))))))))
theorem ks_Mo_deliver_16 (l : Launch) (D : va_G) (E : Nat → ClassId) (B : Nat) (sc : qa_Z) (Po : Option Value → qa_M → Prop) : kS_Mo_deliver l D E B sc Po 16 (kc_Mo_deliver_16 Po) := (qs_iconst kd_Mo_deliver_16 (by decide) (qs_iret kd_Mo_deliver_17))
theorem ks_Mo_deliver_0 (l : Launch) (D : va_G) (E : Nat → ClassId) (B : Nat) (sc : qa_Z) (Po : Option Value → qa_M → Prop) : kS_Mo_deliver l D E B sc Po 0 (kc_Mo_deliver_0 Po) := (qs_iload_n kd_Mo_deliver_0 rfl (qs_calls (ct_Mo_isEnd l sc) ww_301 (by decide) (by decide) ww_302 ww_303 ww_13 yd_Mo_isEnd kd_Mo_deliver_1 (qs_ifeq (tgt := 16) kd_Mo_deliver_4 (by decide) (ks_Mo_deliver_16 l D E B sc Po) (qs_aload_n kd_Mo_deliver_7 rfl (fg_203 ww_288 kd_Mo_deliver_8 (qs_iload_n kd_Mo_deliver_11 rfl (qs_iald (κ := 1203) rfl (by decide) kd_Mo_deliver_12 (qs_ifne (tgt := 18) kd_Mo_deliver_13 (by decide) (qs_aload_n kd_Mo_deliver_18 rfl (fg_198 ww_283 kd_Mo_deliver_19 (qs_iconst kd_Mo_deliver_22 (by decide) (qs_iload_n kd_Mo_deliver_23 rfl (qs_iadd kd_Mo_deliver_24 (qs_zald (κ := 1198) rfl (by decide) kd_Mo_deliver_25 (qs_ifeq (tgt := 39) kd_Mo_deliver_26 (by decide) (qs_aload_n kd_Mo_deliver_39 rfl (fg_207 ww_292 kd_Mo_deliver_40 (qs_iload_n kd_Mo_deliver_43 rfl (qs_iald (κ := 1207) rfl (by decide) kd_Mo_deliver_44 (qs_bipush kd_Mo_deliver_45 (by decide) (qs_icne (tgt := 53) kd_Mo_deliver_47 (by decide) (qs_aload_n kd_Mo_deliver_53 rfl (qs_iload_n kd_Mo_deliver_54 rfl (qs_bipush kd_Mo_deliver_55 (by decide) (qs_iload_n kd_Mo_deliver_57 rfl (qs_imul kd_Mo_deliver_58 (qs_callv (ci := 6) (ct_Mo_unseal l sc) ww_366 (by decide) rfl (by decide) ww_367 ww_368 ww_369 ww_13 yd_Mo_unseal kd_Mo_deliver_59 (qs_istore_n kd_Mo_deliver_62 rfl (by decide) (qs_aload_n kd_Mo_deliver_63 rfl (qs_iload_n kd_Mo_deliver_64 rfl (qs_iconst kd_Mo_deliver_65 (by decide) (qs_callv (ci := 6) (ct_Mo_lose l sc) ww_370 (by decide) rfl (by decide) ww_371 ww_372 ww_373 ww_13 yd_Mo_lose kd_Mo_deliver_66 (qs_pop kd_Mo_deliver_69 (qs_iload_n kd_Mo_deliver_70 rfl (qs_bipush kd_Mo_deliver_71 (by decide) (qs_icne (tgt := 79) kd_Mo_deliver_73 (by decide) (qs_iload_n kd_Mo_deliver_79 rfl (qs_ifne (tgt := 91) kd_Mo_deliver_80 (by decide) (qs_iload_n kd_Mo_deliver_91 rfl (ks_Mo_deliver_92 l D E B sc Po)) (qs_aload_n kd_Mo_deliver_83 rfl (qs_iload_n kd_Mo_deliver_84 rfl (qs_callv (ci := 6) (ct_Mo_judge l sc) ww_374 (by decide) rfl (by decide) ww_375 ww_376 ww_377 ww_13 yd_Mo_judge kd_Mo_deliver_85 (qs_goto (tgt := 92) kd_Mo_deliver_88 (by decide) (ks_Mo_deliver_92 l D E B sc Po))))))) (qs_bipush kd_Mo_deliver_76 (by decide) (qs_iret kd_Mo_deliver_78))))))))))))))))) (qs_bipush kd_Mo_deliver_50 (by decide) (qs_iret kd_Mo_deliver_52)))))))) (qs_aload_n kd_Mo_deliver_29 rfl (qs_iload_n kd_Mo_deliver_30 rfl (qs_iconst kd_Mo_deliver_31 (by decide) (qs_callv (ci := 6) (ct_Mo_lose l sc) ww_370 (by decide) rfl (by decide) ww_371 ww_372 ww_373 ww_13 yd_Mo_lose kd_Mo_deliver_32 (qs_pop kd_Mo_deliver_35 (qs_bipush kd_Mo_deliver_36 (by decide) (qs_iret kd_Mo_deliver_38)))))))))))))) (ks_Mo_deliver_16 l D E B sc Po)))))))))
def sp_Mo_deliver : qa_sp := fun args M Po => match args with
  | [.ref a0, .int a1] => kc_Mo_deliver_0 Po (0, 0) [some (.ref a0), some (.int a1), none] [] M
  | _ => False
theorem ct_Mo_deliver (l : Launch) (sc : qa_Z) : qa_T l ym_Mo_deliver (Cond.code ym_Mo_deliver prog_8_method_31_code 3 (some .int) :: q_W0) rm_Mo_deliver sc (sp_Mo_deliver) := by
  intro D E B args M Po h
  unfold sp_Mo_deliver at h
  split at h
  · exact qa_ct (ini := false) (by decide) (by decide) (Nat.le_of_ble_eq_true rfl) (qa_lvok rfl) (ks_Mo_deliver_0 l D E B sc Po) h
  · exact h.elim
theorem kd_Mo_items_0 : decode prog_8_method_32_code 0 = .ok (.iload_n 1, 1) := by decide +kernel
theorem kd_Mo_items_1 : decode prog_8_method_32_code 1 = .ok (.invokestatic 83, 3) := by decide +kernel
theorem kd_Mo_items_4 : decode prog_8_method_32_code 4 = .ok (.ifCond .eq 12, 3) := by decide +kernel
theorem kd_Mo_items_7 : decode prog_8_method_32_code 7 = .ok (.aload_n 0, 1) := by decide +kernel
theorem kd_Mo_items_8 : decode prog_8_method_32_code 8 = .ok (.getfield 54, 3) := by decide +kernel
theorem kd_Mo_items_11 : decode prog_8_method_32_code 11 = .ok (.iload_n 1, 1) := by decide +kernel
theorem kd_Mo_items_12 : decode prog_8_method_32_code 12 = .ok (.iaload, 1) := by decide +kernel
theorem kd_Mo_items_13 : decode prog_8_method_32_code 13 = .ok (.goto 4, 3) := by decide +kernel
theorem kd_Mo_items_16 : decode prog_8_method_32_code 16 = .ok (.iconst (-1), 1) := by decide +kernel
theorem kd_Mo_items_17 : decode prog_8_method_32_code 17 = .ok (.ireturn, 1) := by decide +kernel
def kc_Mo_items_17 (Po : Option Value → qa_M → Prop) : qa_K := (qi_iret (0, 0) Po)
def kc_Mo_items_0 (Po : Option Value → qa_M → Prop) : qa_K := (qi_iload 1 (qi_call 1 (0, 0) sp_Mo_isEnd (qi_ifeq (qi_ic (-1) (kc_Mo_items_17 Po)) (qi_aload 0 (qi_gp 7 207 (qi_iload 1 (qi_iald 1207 (kc_Mo_items_17 Po))))))))
abbrev kS_Mo_items (l : Launch) (D : va_G) (E : Nat → ClassId) (B : Nat) (sc : qa_Z) (Po : Option Value → qa_M → Prop) (pc : Nat) (k : qa_K) : Prop := qa_S l "SealedRecordsModel" prog_8_method_32_code 2 (some .int) false D E B rm_Mo_items sc (qa_Qf D E B rm_Mo_items Po) pc k
theorem ks_Mo_items_17 (l : Launch) (D : va_G) (E : Nat → ClassId) (B : Nat) (sc : qa_Z) (Po : Option Value → qa_M → Prop) : kS_Mo_items l D E B sc Po 17 (kc_Mo_items_17 Po) := (qs_iret kd_Mo_items_17)
theorem ks_Mo_items_0 (l : Launch) (D : va_G) (E : Nat → ClassId) (B : Nat) (sc : qa_Z) (Po : Option Value → qa_M → Prop) : kS_Mo_items l D E B sc Po 0 (kc_Mo_items_0 Po) := (qs_iload_n kd_Mo_items_0 rfl (qs_calls (ct_Mo_isEnd l sc) ww_301 (by decide) (by decide) ww_302 ww_303 ww_13 yd_Mo_isEnd kd_Mo_items_1 (qs_ifeq (tgt := 16) kd_Mo_items_4 (by decide) (qs_iconst kd_Mo_items_16 (by decide) (ks_Mo_items_17 l D E B sc Po)) (qs_aload_n kd_Mo_items_7 rfl (fg_207 ww_292 kd_Mo_items_8 (qs_iload_n kd_Mo_items_11 rfl (qs_iald (κ := 1207) rfl (by decide) kd_Mo_items_12 (qs_goto (tgt := 17) kd_Mo_items_13 (by decide) (ks_Mo_items_17 l D E B sc Po)))))))))
def sp_Mo_items : qa_sp := fun args M Po => match args with
  | [.ref a0, .int a1] => kc_Mo_items_0 Po (0, 0) [some (.ref a0), some (.int a1)] [] M
  | _ => False
theorem ct_Mo_items (l : Launch) (sc : qa_Z) : qa_T l ym_Mo_items (Cond.code ym_Mo_items prog_8_method_32_code 2 (some .int) :: q_W0) rm_Mo_items sc (sp_Mo_items) := by
  intro D E B args M Po h
  unfold sp_Mo_items at h
  split at h
  · exact qa_ct (ini := false) (by decide) (by decide) (Nat.le_of_ble_eq_true rfl) (qa_lvok rfl) (ks_Mo_items_0 l D E B sc Po) h
  · exact h.elim
theorem kd_Mo_item_0 : decode prog_8_method_33_code 0 = .ok (.iload_n 1, 1) := by decide +kernel
theorem kd_Mo_item_1 : decode prog_8_method_33_code 1 = .ok (.invokestatic 83, 3) := by decide +kernel
theorem kd_Mo_item_4 : decode prog_8_method_33_code 4 = .ok (.ifCond .eq 31, 3) := by decide +kernel
theorem kd_Mo_item_7 : decode prog_8_method_33_code 7 = .ok (.aload_n 0, 1) := by decide +kernel
theorem kd_Mo_item_8 : decode prog_8_method_33_code 8 = .ok (.getfield 54, 3) := by decide +kernel
theorem kd_Mo_item_11 : decode prog_8_method_33_code 11 = .ok (.iload_n 1, 1) := by decide +kernel
theorem kd_Mo_item_12 : decode prog_8_method_33_code 12 = .ok (.iaload, 1) := by decide +kernel
theorem kd_Mo_item_13 : decode prog_8_method_33_code 13 = .ok (.ifCond .eq 22, 3) := by decide +kernel
theorem kd_Mo_item_16 : decode prog_8_method_33_code 16 = .ok (.iload_n 2, 1) := by decide +kernel
theorem kd_Mo_item_17 : decode prog_8_method_33_code 17 = .ok (.bipush (-2), 2) := by decide +kernel
theorem kd_Mo_item_19 : decode prog_8_method_33_code 19 = .ok (.if_icmp .lt 16, 3) := by decide +kernel
theorem kd_Mo_item_22 : decode prog_8_method_33_code 22 = .ok (.iload_n 2, 1) := by decide +kernel
theorem kd_Mo_item_23 : decode prog_8_method_33_code 23 = .ok (.aload_n 0, 1) := by decide +kernel
theorem kd_Mo_item_24 : decode prog_8_method_33_code 24 = .ok (.getfield 60, 3) := by decide +kernel
theorem kd_Mo_item_27 : decode prog_8_method_33_code 27 = .ok (.bipush 16, 2) := by decide +kernel
theorem kd_Mo_item_29 : decode prog_8_method_33_code 29 = .ok (.iload_n 1, 1) := by decide +kernel
theorem kd_Mo_item_30 : decode prog_8_method_33_code 30 = .ok (.imul, 1) := by decide +kernel
theorem kd_Mo_item_31 : decode prog_8_method_33_code 31 = .ok (.iaload, 1) := by decide +kernel
theorem kd_Mo_item_32 : decode prog_8_method_33_code 32 = .ok (.if_icmp .lt 5, 3) := by decide +kernel
theorem kd_Mo_item_35 : decode prog_8_method_33_code 35 = .ok (.iconst (-1), 1) := by decide +kernel
theorem kd_Mo_item_36 : decode prog_8_method_33_code 36 = .ok (.ireturn, 1) := by decide +kernel
theorem kd_Mo_item_37 : decode prog_8_method_33_code 37 = .ok (.iload_n 2, 1) := by decide +kernel
theorem kd_Mo_item_38 : decode prog_8_method_33_code 38 = .ok (.bipush (-2), 2) := by decide +kernel
theorem kd_Mo_item_40 : decode prog_8_method_33_code 40 = .ok (.if_icmp .ne 15, 3) := by decide +kernel
theorem kd_Mo_item_43 : decode prog_8_method_33_code 43 = .ok (.aload_n 0, 1) := by decide +kernel
theorem kd_Mo_item_44 : decode prog_8_method_33_code 44 = .ok (.getfield 57, 3) := by decide +kernel
theorem kd_Mo_item_47 : decode prog_8_method_33_code 47 = .ok (.bipush 16, 2) := by decide +kernel
theorem kd_Mo_item_49 : decode prog_8_method_33_code 49 = .ok (.iload_n 1, 1) := by decide +kernel
theorem kd_Mo_item_50 : decode prog_8_method_33_code 50 = .ok (.imul, 1) := by decide +kernel
theorem kd_Mo_item_51 : decode prog_8_method_33_code 51 = .ok (.iaload, 1) := by decide +kernel
theorem kd_Mo_item_52 : decode prog_8_method_33_code 52 = .ok (.goto 32, 3) := by decide +kernel
theorem kd_Mo_item_55 : decode prog_8_method_33_code 55 = .ok (.iload_n 2, 1) := by decide +kernel
theorem kd_Mo_item_56 : decode prog_8_method_33_code 56 = .ok (.iconst (-1), 1) := by decide +kernel
theorem kd_Mo_item_57 : decode prog_8_method_33_code 57 = .ok (.if_icmp .ne 15, 3) := by decide +kernel
theorem kd_Mo_item_60 : decode prog_8_method_33_code 60 = .ok (.aload_n 0, 1) := by decide +kernel
theorem kd_Mo_item_61 : decode prog_8_method_33_code 61 = .ok (.getfield 60, 3) := by decide +kernel
theorem kd_Mo_item_64 : decode prog_8_method_33_code 64 = .ok (.bipush 16, 2) := by decide +kernel
theorem kd_Mo_item_66 : decode prog_8_method_33_code 66 = .ok (.iload_n 1, 1) := by decide +kernel
theorem kd_Mo_item_67 : decode prog_8_method_33_code 67 = .ok (.imul, 1) := by decide +kernel
theorem kd_Mo_item_68 : decode prog_8_method_33_code 68 = .ok (.iaload, 1) := by decide +kernel
theorem kd_Mo_item_69 : decode prog_8_method_33_code 69 = .ok (.goto 15, 3) := by decide +kernel
theorem kd_Mo_item_72 : decode prog_8_method_33_code 72 = .ok (.aload_n 0, 1) := by decide +kernel
theorem kd_Mo_item_73 : decode prog_8_method_33_code 73 = .ok (.getfield 63, 3) := by decide +kernel
theorem kd_Mo_item_76 : decode prog_8_method_33_code 76 = .ok (.sipush 256, 3) := by decide +kernel
theorem kd_Mo_item_79 : decode prog_8_method_33_code 79 = .ok (.iload_n 1, 1) := by decide +kernel
theorem kd_Mo_item_80 : decode prog_8_method_33_code 80 = .ok (.imul, 1) := by decide +kernel
theorem kd_Mo_item_81 : decode prog_8_method_33_code 81 = .ok (.iload_n 2, 1) := by decide +kernel
theorem kd_Mo_item_82 : decode prog_8_method_33_code 82 = .ok (.iadd, 1) := by decide +kernel
theorem kd_Mo_item_83 : decode prog_8_method_33_code 83 = .ok (.iaload, 1) := by decide +kernel
theorem kd_Mo_item_84 : decode prog_8_method_33_code 84 = .ok (.ireturn, 1) := by decide +kernel
def kc_Mo_item_84 (Po : Option Value → qa_M → Prop) : qa_K := (qi_iret (0, 0) Po)
def kc_Mo_item_35 (Po : Option Value → qa_M → Prop) : qa_K := (qi_ic (-1) (qi_iret (0, 0) Po))
def kc_Mo_item_0 (Po : Option Value → qa_M → Prop) : qa_K := (qi_iload 1 (qi_call 1 (0, 0) sp_Mo_isEnd (qi_ifeq (kc_Mo_item_35 Po) (qi_aload 0 (qi_gp 7 207 (qi_iload 1 (qi_iald 1207 (qi_ifeq (kc_Mo_item_35 Po) (qi_iload 2 (qi_ic (-2) (qi_iclt (kc_Mo_item_35 Po) (qi_iload 2 (qi_aload 0 (qi_gp 7 209 (qi_ic (nI 16) (qi_iload 1 (qi_imul (qi_iald 1209 (qi_iclt (qi_iload 2 (qi_ic (-2) (qi_icne (qi_iload 2 (qi_ic (-1) (qi_icne (qi_aload 0 (qi_gp 7 210 (qi_ic (nI 256) (qi_iload 1 (qi_imul (qi_iload 2 (qi_iadd (qi_iald 1210 (kc_Mo_item_84 Po))))))))) (qi_aload 0 (qi_gp 7 209 (qi_ic (nI 16) (qi_iload 1 (qi_imul (qi_iald 1209 (kc_Mo_item_84 Po)))))))))) (qi_aload 0 (qi_gp 7 208 (qi_ic (nI 16) (qi_iload 1 (qi_imul (qi_iald 1208 (kc_Mo_item_84 Po)))))))))) (kc_Mo_item_35 Po))))))))))))))))))))
abbrev kS_Mo_item (l : Launch) (D : va_G) (E : Nat → ClassId) (B : Nat) (sc : qa_Z) (Po : Option Value → qa_M → Prop) (pc : Nat) (k : qa_K) : Prop := qa_S l "SealedRecordsModel" prog_8_method_33_code 3 (some .int) false D E B rm_Mo_item sc (qa_Qf D E B rm_Mo_item Po) pc k
theorem ks_Mo_item_84 (l : Launch) (D : va_G) (E : Nat → ClassId) (B : Nat) (sc : qa_Z) (Po : Option Value → qa_M → Prop) : kS_Mo_item l D E B sc Po 84 (kc_Mo_item_84 Po) := (qs_iret kd_Mo_item_84)
theorem ks_Mo_item_35 (l : Launch) (D : va_G) (E : Nat → ClassId) (B : Nat) (sc : qa_Z) (Po : Option Value → qa_M → Prop) : kS_Mo_item l D E B sc Po 35 (kc_Mo_item_35 Po) := (qs_iconst kd_Mo_item_35 (by decide) (qs_iret kd_Mo_item_36))
theorem ks_Mo_item_0 (l : Launch) (D : va_G) (E : Nat → ClassId) (B : Nat) (sc : qa_Z) (Po : Option Value → qa_M → Prop) : kS_Mo_item l D E B sc Po 0 (kc_Mo_item_0 Po) := (qs_iload_n kd_Mo_item_0 rfl (qs_calls (ct_Mo_isEnd l sc) ww_301 (by decide) (by decide) ww_302 ww_303 ww_13 yd_Mo_isEnd kd_Mo_item_1 (qs_ifeq (tgt := 35) kd_Mo_item_4 (by decide) (ks_Mo_item_35 l D E B sc Po) (qs_aload_n kd_Mo_item_7 rfl (fg_207 ww_292 kd_Mo_item_8 (qs_iload_n kd_Mo_item_11 rfl (qs_iald (κ := 1207) rfl (by decide) kd_Mo_item_12 (qs_ifeq (tgt := 35) kd_Mo_item_13 (by decide) (ks_Mo_item_35 l D E B sc Po) (qs_iload_n kd_Mo_item_16 rfl (qs_bipush kd_Mo_item_17 (by decide) (qs_iclt (tgt := 35) kd_Mo_item_19 (by decide) (ks_Mo_item_35 l D E B sc Po) (qs_iload_n kd_Mo_item_22 rfl (qs_aload_n kd_Mo_item_23 rfl (fg_209 ww_294 kd_Mo_item_24 (qs_bipush kd_Mo_item_27 (by decide) (qs_iload_n kd_Mo_item_29 rfl (qs_imul kd_Mo_item_30 (qs_iald (κ := 1209) rfl (by decide) kd_Mo_item_31 (qs_iclt (tgt := 37) kd_Mo_item_32 (by decide) (qs_iload_n kd_Mo_item_37 rfl (qs_bipush kd_Mo_item_38 (by decide) (qs_icne (tgt := 55) kd_Mo_item_40 (by decide) (qs_iload_n kd_Mo_item_55 rfl (qs_iconst kd_Mo_item_56 (by decide) (qs_icne (tgt := 72) kd_Mo_item_57 (by decide) (qs_aload_n kd_Mo_item_72 rfl (fg_210 ww_295 kd_Mo_item_73 (qs_sipush kd_Mo_item_76 (by decide) (qs_iload_n kd_Mo_item_79 rfl (qs_imul kd_Mo_item_80 (qs_iload_n kd_Mo_item_81 rfl (qs_iadd kd_Mo_item_82 (qs_iald (κ := 1210) rfl (by decide) kd_Mo_item_83 (ks_Mo_item_84 l D E B sc Po))))))))) (qs_aload_n kd_Mo_item_60 rfl (fg_209 ww_294 kd_Mo_item_61 (qs_bipush kd_Mo_item_64 (by decide) (qs_iload_n kd_Mo_item_66 rfl (qs_imul kd_Mo_item_67 (qs_iald (κ := 1209) rfl (by decide) kd_Mo_item_68 (qs_goto (tgt := 84) kd_Mo_item_69 (by decide) (ks_Mo_item_84 l D E B sc Po))))))))))) (qs_aload_n kd_Mo_item_43 rfl (fg_208 ww_293 kd_Mo_item_44 (qs_bipush kd_Mo_item_47 (by decide) (qs_iload_n kd_Mo_item_49 rfl (qs_imul kd_Mo_item_50 (qs_iald (κ := 1208) rfl (by decide) kd_Mo_item_51 (qs_goto (tgt := 84) kd_Mo_item_52 (by decide) (ks_Mo_item_84 l D E B sc Po))))))))))) (ks_Mo_item_35 l D E B sc Po))))))))))))))))))))
def sp_Mo_item : qa_sp := fun args M Po => match args with
  | [.ref a0, .int a1, .int a2] => kc_Mo_item_0 Po (0, 0) [some (.ref a0), some (.int a1), some (.int a2)] [] M
  | _ => False
theorem ct_Mo_item (l : Launch) (sc : qa_Z) : qa_T l ym_Mo_item (Cond.code ym_Mo_item prog_8_method_33_code 3 (some .int) :: q_W0) rm_Mo_item sc (sp_Mo_item) := by
  intro D E B args M Po h
  unfold sp_Mo_item at h
  split at h
  · exact qa_ct (ini := false) (by decide) (by decide) (Nat.le_of_ble_eq_true rfl) (qa_lvok rfl) (ks_Mo_item_0 l D E B sc Po) h
  · exact h.elim
theorem kd_Mo_take_0 : decode prog_8_method_34_code 0 = .ok (.iload_n 1, 1) := by decide +kernel
theorem kd_Mo_take_1 : decode prog_8_method_34_code 1 = .ok (.invokestatic 83, 3) := by decide +kernel
theorem kd_Mo_take_4 : decode prog_8_method_34_code 4 = .ok (.ifCond .eq 12, 3) := by decide +kernel
theorem kd_Mo_take_7 : decode prog_8_method_34_code 7 = .ok (.aload_n 0, 1) := by decide +kernel
theorem kd_Mo_take_8 : decode prog_8_method_34_code 8 = .ok (.getfield 54, 3) := by decide +kernel
theorem kd_Mo_take_11 : decode prog_8_method_34_code 11 = .ok (.iload_n 1, 1) := by decide +kernel
theorem kd_Mo_take_12 : decode prog_8_method_34_code 12 = .ok (.iaload, 1) := by decide +kernel
theorem kd_Mo_take_13 : decode prog_8_method_34_code 13 = .ok (.ifCond .ne 5, 3) := by decide +kernel
theorem kd_Mo_take_16 : decode prog_8_method_34_code 16 = .ok (.iconst 0, 1) := by decide +kernel
theorem kd_Mo_take_17 : decode prog_8_method_34_code 17 = .ok (.ireturn, 1) := by decide +kernel
theorem kd_Mo_take_18 : decode prog_8_method_34_code 18 = .ok (.bipush 16, 2) := by decide +kernel
theorem kd_Mo_take_20 : decode prog_8_method_34_code 20 = .ok (.iload_n 1, 1) := by decide +kernel
theorem kd_Mo_take_21 : decode prog_8_method_34_code 21 = .ok (.imul, 1) := by decide +kernel
theorem kd_Mo_take_22 : decode prog_8_method_34_code 22 = .ok (.istore_n 2, 1) := by decide +kernel
theorem kd_Mo_take_23 : decode prog_8_method_34_code 23 = .ok (.iload_n 2, 1) := by decide +kernel
theorem kd_Mo_take_24 : decode prog_8_method_34_code 24 = .ok (.bipush 16, 2) := by decide +kernel
theorem kd_Mo_take_26 : decode prog_8_method_34_code 26 = .ok (.iload_n 1, 1) := by decide +kernel
theorem kd_Mo_take_27 : decode prog_8_method_34_code 27 = .ok (.imul, 1) := by decide +kernel
theorem kd_Mo_take_28 : decode prog_8_method_34_code 28 = .ok (.aload_n 0, 1) := by decide +kernel
theorem kd_Mo_take_29 : decode prog_8_method_34_code 29 = .ok (.getfield 54, 3) := by decide +kernel
theorem kd_Mo_take_32 : decode prog_8_method_34_code 32 = .ok (.iload_n 1, 1) := by decide +kernel
theorem kd_Mo_take_33 : decode prog_8_method_34_code 33 = .ok (.iaload, 1) := by decide +kernel
theorem kd_Mo_take_34 : decode prog_8_method_34_code 34 = .ok (.iadd, 1) := by decide +kernel
theorem kd_Mo_take_35 : decode prog_8_method_34_code 35 = .ok (.iconst 1, 1) := by decide +kernel
theorem kd_Mo_take_36 : decode prog_8_method_34_code 36 = .ok (.isub, 1) := by decide +kernel
theorem kd_Mo_take_37 : decode prog_8_method_34_code 37 = .ok (.if_icmp .ge 76, 3) := by decide +kernel
theorem kd_Mo_take_40 : decode prog_8_method_34_code 40 = .ok (.aload_n 0, 1) := by decide +kernel
theorem kd_Mo_take_41 : decode prog_8_method_34_code 41 = .ok (.getfield 57, 3) := by decide +kernel
theorem kd_Mo_take_44 : decode prog_8_method_34_code 44 = .ok (.iload_n 2, 1) := by decide +kernel
theorem kd_Mo_take_45 : decode prog_8_method_34_code 45 = .ok (.aload_n 0, 1) := by decide +kernel
theorem kd_Mo_take_46 : decode prog_8_method_34_code 46 = .ok (.getfield 57, 3) := by decide +kernel
theorem kd_Mo_take_49 : decode prog_8_method_34_code 49 = .ok (.iload_n 2, 1) := by decide +kernel
theorem kd_Mo_take_50 : decode prog_8_method_34_code 50 = .ok (.iconst 1, 1) := by decide +kernel
theorem kd_Mo_take_51 : decode prog_8_method_34_code 51 = .ok (.iadd, 1) := by decide +kernel
theorem kd_Mo_take_52 : decode prog_8_method_34_code 52 = .ok (.iaload, 1) := by decide +kernel
theorem kd_Mo_take_53 : decode prog_8_method_34_code 53 = .ok (.iastore, 1) := by decide +kernel
theorem kd_Mo_take_54 : decode prog_8_method_34_code 54 = .ok (.aload_n 0, 1) := by decide +kernel
theorem kd_Mo_take_55 : decode prog_8_method_34_code 55 = .ok (.getfield 60, 3) := by decide +kernel
theorem kd_Mo_take_58 : decode prog_8_method_34_code 58 = .ok (.iload_n 2, 1) := by decide +kernel
theorem kd_Mo_take_59 : decode prog_8_method_34_code 59 = .ok (.aload_n 0, 1) := by decide +kernel
theorem kd_Mo_take_60 : decode prog_8_method_34_code 60 = .ok (.getfield 60, 3) := by decide +kernel
theorem kd_Mo_take_63 : decode prog_8_method_34_code 63 = .ok (.iload_n 2, 1) := by decide +kernel
theorem kd_Mo_take_64 : decode prog_8_method_34_code 64 = .ok (.iconst 1, 1) := by decide +kernel
theorem kd_Mo_take_65 : decode prog_8_method_34_code 65 = .ok (.iadd, 1) := by decide +kernel
theorem kd_Mo_take_66 : decode prog_8_method_34_code 66 = .ok (.iaload, 1) := by decide +kernel
theorem kd_Mo_take_67 : decode prog_8_method_34_code 67 = .ok (.iastore, 1) := by decide +kernel
theorem kd_Mo_take_68 : decode prog_8_method_34_code 68 = .ok (.iconst 0, 1) := by decide +kernel
theorem kd_Mo_take_69 : decode prog_8_method_34_code 69 = .ok (.istore_n 3, 1) := by decide +kernel
theorem kd_Mo_take_70 : decode prog_8_method_34_code 70 = .ok (.iload_n 3, 1) := by decide +kernel
theorem kd_Mo_take_71 : decode prog_8_method_34_code 71 = .ok (.bipush 16, 2) := by decide +kernel
theorem kd_Mo_take_73 : decode prog_8_method_34_code 73 = .ok (.if_icmp .ge 34, 3) := by decide +kernel
theorem kd_Mo_take_76 : decode prog_8_method_34_code 76 = .ok (.aload_n 0, 1) := by decide +kernel
theorem kd_Mo_take_77 : decode prog_8_method_34_code 77 = .ok (.getfield 63, 3) := by decide +kernel
theorem kd_Mo_take_80 : decode prog_8_method_34_code 80 = .ok (.bipush 16, 2) := by decide +kernel
theorem kd_Mo_take_82 : decode prog_8_method_34_code 82 = .ok (.iload_n 2, 1) := by decide +kernel
theorem kd_Mo_take_83 : decode prog_8_method_34_code 83 = .ok (.imul, 1) := by decide +kernel
theorem kd_Mo_take_84 : decode prog_8_method_34_code 84 = .ok (.iload_n 3, 1) := by decide +kernel
theorem kd_Mo_take_85 : decode prog_8_method_34_code 85 = .ok (.iadd, 1) := by decide +kernel
theorem kd_Mo_take_86 : decode prog_8_method_34_code 86 = .ok (.aload_n 0, 1) := by decide +kernel
theorem kd_Mo_take_87 : decode prog_8_method_34_code 87 = .ok (.getfield 63, 3) := by decide +kernel
theorem kd_Mo_take_90 : decode prog_8_method_34_code 90 = .ok (.bipush 16, 2) := by decide +kernel
theorem kd_Mo_take_92 : decode prog_8_method_34_code 92 = .ok (.iload_n 2, 1) := by decide +kernel
theorem kd_Mo_take_93 : decode prog_8_method_34_code 93 = .ok (.imul, 1) := by decide +kernel
theorem kd_Mo_take_94 : decode prog_8_method_34_code 94 = .ok (.bipush 16, 2) := by decide +kernel
theorem kd_Mo_take_96 : decode prog_8_method_34_code 96 = .ok (.iadd, 1) := by decide +kernel
theorem kd_Mo_take_97 : decode prog_8_method_34_code 97 = .ok (.iload_n 3, 1) := by decide +kernel
theorem kd_Mo_take_98 : decode prog_8_method_34_code 98 = .ok (.iadd, 1) := by decide +kernel
theorem kd_Mo_take_99 : decode prog_8_method_34_code 99 = .ok (.iaload, 1) := by decide +kernel
theorem kd_Mo_take_100 : decode prog_8_method_34_code 100 = .ok (.iastore, 1) := by decide +kernel
theorem kd_Mo_take_101 : decode prog_8_method_34_code 101 = .ok (.iinc 3 1, 3) := by decide +kernel
theorem kd_Mo_take_104 : decode prog_8_method_34_code 104 = .ok (.goto (-34), 3) := by decide +kernel
theorem kd_Mo_take_107 : decode prog_8_method_34_code 107 = .ok (.iinc 2 1, 3) := by decide +kernel
theorem kd_Mo_take_110 : decode prog_8_method_34_code 110 = .ok (.goto (-87), 3) := by decide +kernel
theorem kd_Mo_take_113 : decode prog_8_method_34_code 113 = .ok (.aload_n 0, 1) := by decide +kernel
theorem kd_Mo_take_114 : decode prog_8_method_34_code 114 = .ok (.getfield 54, 3) := by decide +kernel
theorem kd_Mo_take_117 : decode prog_8_method_34_code 117 = .ok (.iload_n 1, 1) := by decide +kernel
theorem kd_Mo_take_118 : decode prog_8_method_34_code 118 = .ok (.dup2, 1) := by decide +kernel
theorem kd_Mo_take_119 : decode prog_8_method_34_code 119 = .ok (.iaload, 1) := by decide +kernel
theorem kd_Mo_take_120 : decode prog_8_method_34_code 120 = .ok (.iconst 1, 1) := by decide +kernel
theorem kd_Mo_take_121 : decode prog_8_method_34_code 121 = .ok (.isub, 1) := by decide +kernel
theorem kd_Mo_take_122 : decode prog_8_method_34_code 122 = .ok (.iastore, 1) := by decide +kernel
theorem kd_Mo_take_123 : decode prog_8_method_34_code 123 = .ok (.iconst 1, 1) := by decide +kernel
theorem kd_Mo_take_124 : decode prog_8_method_34_code 124 = .ok (.ireturn, 1) := by decide +kernel
def kb_Mo_take_70 (Po : Option Value → qa_M → Prop) (k23 : qa_K) (k70 : qa_K) : qa_K := (qi_iload 3 (qi_ic (nI 16) (qi_icge (qi_iinc 2 (nI 1) k23) (qi_aload 0 (qi_gp 7 210 (qi_ic (nI 16) (qi_iload 2 (qi_imul (qi_iload 3 (qi_iadd (qi_aload 0 (qi_gp 7 210 (qi_ic (nI 16) (qi_iload 2 (qi_imul (qi_ic (nI 16) (qi_iadd (qi_iload 3 (qi_iadd (qi_iald 1210 (qi_iast 1210 (qi_iinc 3 (nI 1) k70))))))))))))))))))))))
def kc_Mo_take_70 (Po : Option Value → qa_M → Prop) (k23 : qa_K) : qa_K := qi_loop (kb_Mo_take_70 Po k23)
def kb_Mo_take_23 (Po : Option Value → qa_M → Prop) (k23 : qa_K) : qa_K := (qi_iload 2 (qi_ic (nI 16) (qi_iload 1 (qi_imul (qi_aload 0 (qi_gp 7 207 (qi_iload 1 (qi_iald 1207 (qi_iadd (qi_ic (nI 1) (qi_isub (qi_icge (qi_aload 0 (qi_gp 7 207 (qi_iload 1 (qi_dup2 (qi_iald 1207 (qi_ic (nI 1) (qi_isub (qi_iast 1207 (qi_ic (nI 1) (qi_zret (0, 0) Po)))))))))) (qi_aload 0 (qi_gp 7 208 (qi_iload 2 (qi_aload 0 (qi_gp 7 208 (qi_iload 2 (qi_ic (nI 1) (qi_iadd (qi_iald 1208 (qi_iast 1208 (qi_aload 0 (qi_gp 7 209 (qi_iload 2 (qi_aload 0 (qi_gp 7 209 (qi_iload 2 (qi_ic (nI 1) (qi_iadd (qi_iald 1209 (qi_iast 1209 (qi_ic (nI 0) (qi_istore 3 (kc_Mo_take_70 Po k23)))))))))))))))))))))))))))))))))))
def kc_Mo_take_23 (Po : Option Value → qa_M → Prop) : qa_K := qi_loop (kb_Mo_take_23 Po)
def kc_Mo_take_16 (Po : Option Value → qa_M → Prop) : qa_K := (qi_ic (nI 0) (qi_zret (0, 0) Po))
def kc_Mo_take_0 (Po : Option Value → qa_M → Prop) : qa_K := (qi_iload 1 (qi_call 1 (0, 0) sp_Mo_isEnd (qi_ifeq (kc_Mo_take_16 Po) (qi_aload 0 (qi_gp 7 207 (qi_iload 1 (qi_iald 1207 (qi_ifne (qi_ic (nI 16) (qi_iload 1 (qi_imul (qi_istore 2 (kc_Mo_take_23 Po))))) (kc_Mo_take_16 Po)))))))))
abbrev kS_Mo_take (l : Launch) (D : va_G) (E : Nat → ClassId) (B : Nat) (sc : qa_Z) (Po : Option Value → qa_M → Prop) (pc : Nat) (k : qa_K) : Prop := qa_S l "SealedRecordsModel" prog_8_method_34_code 4 (some .boolean) false D E B rm_Mo_take sc (qa_Qf D E B rm_Mo_take Po) pc k
theorem kt_Mo_take_70 (l : Launch) (D : va_G) (E : Nat → ClassId) (B : Nat) (sc : qa_Z) (Po : Option Value → qa_M → Prop) {k23 : qa_K} (hk23 : kS_Mo_take l D E B sc Po 23 k23) {k70 : qa_K} (hk70 : kS_Mo_take l D E B sc Po 70 k70) : kS_Mo_take l D E B sc Po 70 (kb_Mo_take_70 Po k23 k70) := (qs_iload_n kd_Mo_take_70 rfl (qs_bipush kd_Mo_take_71 (by decide) (qs_icge (tgt := 107) kd_Mo_take_73 (by decide) (qs_iinc kd_Mo_take_107 (by decide) (by decide) (qs_goto (tgt := 23) kd_Mo_take_110 (by decide) hk23)) (qs_aload_n kd_Mo_take_76 rfl (fg_210 ww_295 kd_Mo_take_77 (qs_bipush kd_Mo_take_80 (by decide) (qs_iload_n kd_Mo_take_82 rfl (qs_imul kd_Mo_take_83 (qs_iload_n kd_Mo_take_84 rfl (qs_iadd kd_Mo_take_85 (qs_aload_n kd_Mo_take_86 rfl (fg_210 ww_295 kd_Mo_take_87 (qs_bipush kd_Mo_take_90 (by decide) (qs_iload_n kd_Mo_take_92 rfl (qs_imul kd_Mo_take_93 (qs_bipush kd_Mo_take_94 (by decide) (qs_iadd kd_Mo_take_96 (qs_iload_n kd_Mo_take_97 rfl (qs_iadd kd_Mo_take_98 (qs_iald (κ := 1210) rfl (by decide) kd_Mo_take_99 (qs_iast (κ := 1210) rfl (by decide) kd_Mo_take_100 (qs_iinc kd_Mo_take_101 (by decide) (by decide) (qs_goto (tgt := 70) kd_Mo_take_104 (by decide) hk70)))))))))))))))))))))))
theorem ks_Mo_take_70 (l : Launch) (D : va_G) (E : Nat → ClassId) (B : Nat) (sc : qa_Z) (Po : Option Value → qa_M → Prop) {k23 : qa_K} (hk23 : kS_Mo_take l D E B sc Po 23 k23) : kS_Mo_take l D E B sc Po 70 (kc_Mo_take_70 Po k23) := qs_loop fun k70 hk70 => kt_Mo_take_70 l D E B sc Po hk23 hk70
theorem kt_Mo_take_23 (l : Launch) (D : va_G) (E : Nat → ClassId) (B : Nat) (sc : qa_Z) (Po : Option Value → qa_M → Prop) {k23 : qa_K} (hk23 : kS_Mo_take l D E B sc Po 23 k23) : kS_Mo_take l D E B sc Po 23 (kb_Mo_take_23 Po k23) := (qs_iload_n kd_Mo_take_23 rfl (qs_bipush kd_Mo_take_24 (by decide) (qs_iload_n kd_Mo_take_26 rfl (qs_imul kd_Mo_take_27 (qs_aload_n kd_Mo_take_28 rfl (fg_207 ww_292 kd_Mo_take_29 (qs_iload_n kd_Mo_take_32 rfl (qs_iald (κ := 1207) rfl (by decide) kd_Mo_take_33 (qs_iadd kd_Mo_take_34 (qs_iconst kd_Mo_take_35 (by decide) (qs_isub kd_Mo_take_36 (qs_icge (tgt := 113) kd_Mo_take_37 (by decide) (qs_aload_n kd_Mo_take_113 rfl (fg_207 ww_292 kd_Mo_take_114 (qs_iload_n kd_Mo_take_117 rfl (qs_dup2 kd_Mo_take_118 (qs_iald (κ := 1207) rfl (by decide) kd_Mo_take_119 (qs_iconst kd_Mo_take_120 (by decide) (qs_isub kd_Mo_take_121 (qs_iast (κ := 1207) rfl (by decide) kd_Mo_take_122 (qs_iconst kd_Mo_take_123 (by decide) (qs_zret kd_Mo_take_124)))))))))) (qs_aload_n kd_Mo_take_40 rfl (fg_208 ww_293 kd_Mo_take_41 (qs_iload_n kd_Mo_take_44 rfl (qs_aload_n kd_Mo_take_45 rfl (fg_208 ww_293 kd_Mo_take_46 (qs_iload_n kd_Mo_take_49 rfl (qs_iconst kd_Mo_take_50 (by decide) (qs_iadd kd_Mo_take_51 (qs_iald (κ := 1208) rfl (by decide) kd_Mo_take_52 (qs_iast (κ := 1208) rfl (by decide) kd_Mo_take_53 (qs_aload_n kd_Mo_take_54 rfl (fg_209 ww_294 kd_Mo_take_55 (qs_iload_n kd_Mo_take_58 rfl (qs_aload_n kd_Mo_take_59 rfl (fg_209 ww_294 kd_Mo_take_60 (qs_iload_n kd_Mo_take_63 rfl (qs_iconst kd_Mo_take_64 (by decide) (qs_iadd kd_Mo_take_65 (qs_iald (κ := 1209) rfl (by decide) kd_Mo_take_66 (qs_iast (κ := 1209) rfl (by decide) kd_Mo_take_67 (qs_iconst kd_Mo_take_68 (by decide) (qs_istore_n kd_Mo_take_69 rfl (by decide) (ks_Mo_take_70 l D E B sc Po hk23)))))))))))))))))))))))))))))))))))
theorem ks_Mo_take_23 (l : Launch) (D : va_G) (E : Nat → ClassId) (B : Nat) (sc : qa_Z) (Po : Option Value → qa_M → Prop) : kS_Mo_take l D E B sc Po 23 (kc_Mo_take_23 Po) := qs_loop fun k23 hk23 => kt_Mo_take_23 l D E B sc Po hk23
theorem ks_Mo_take_16 (l : Launch) (D : va_G) (E : Nat → ClassId) (B : Nat) (sc : qa_Z) (Po : Option Value → qa_M → Prop) : kS_Mo_take l D E B sc Po 16 (kc_Mo_take_16 Po) := (qs_iconst kd_Mo_take_16 (by decide) (qs_zret kd_Mo_take_17))
theorem ks_Mo_take_0 (l : Launch) (D : va_G) (E : Nat → ClassId) (B : Nat) (sc : qa_Z) (Po : Option Value → qa_M → Prop) : kS_Mo_take l D E B sc Po 0 (kc_Mo_take_0 Po) := (qs_iload_n kd_Mo_take_0 rfl (qs_calls (ct_Mo_isEnd l sc) ww_301 (by decide) (by decide) ww_302 ww_303 ww_13 yd_Mo_isEnd kd_Mo_take_1 (qs_ifeq (tgt := 16) kd_Mo_take_4 (by decide) (ks_Mo_take_16 l D E B sc Po) (qs_aload_n kd_Mo_take_7 rfl (fg_207 ww_292 kd_Mo_take_8 (qs_iload_n kd_Mo_take_11 rfl (qs_iald (κ := 1207) rfl (by decide) kd_Mo_take_12 (qs_ifne (tgt := 18) kd_Mo_take_13 (by decide) (qs_bipush kd_Mo_take_18 (by decide) (qs_iload_n kd_Mo_take_20 rfl (qs_imul kd_Mo_take_21 (qs_istore_n kd_Mo_take_22 rfl (by decide) (ks_Mo_take_23 l D E B sc Po))))) (ks_Mo_take_16 l D E B sc Po)))))))))
def sp_Mo_take : qa_sp := fun args M Po => match args with
  | [.ref a0, .int a1] => kc_Mo_take_0 Po (0, 0) [some (.ref a0), some (.int a1), none, none] [] M
  | _ => False
theorem ct_Mo_take (l : Launch) (sc : qa_Z) : qa_T l ym_Mo_take (Cond.code ym_Mo_take prog_8_method_34_code 4 (some .boolean) :: q_W0) rm_Mo_take sc (sp_Mo_take) := by
  intro D E B args M Po h
  unfold sp_Mo_take at h
  split at h
  · exact qa_ct (ini := false) (by decide) (by decide) (Nat.le_of_ble_eq_true rfl) (qa_lvok rfl) (ks_Mo_take_0 l D E B sc Po) h
  · exact h.elim
theorem kd_Mo_look_0 : decode prog_8_method_35_code 0 = .ok (.iload_n 1, 1) := by decide +kernel
theorem kd_Mo_look_1 : decode prog_8_method_35_code 1 = .ok (.invokestatic 83, 3) := by decide +kernel
theorem kd_Mo_look_4 : decode prog_8_method_35_code 4 = .ok (.ifCond .ne 5, 3) := by decide +kernel
theorem kd_Mo_look_7 : decode prog_8_method_35_code 7 = .ok (.iconst (-1), 1) := by decide +kernel
theorem kd_Mo_look_8 : decode prog_8_method_35_code 8 = .ok (.ireturn, 1) := by decide +kernel
theorem kd_Mo_look_9 : decode prog_8_method_35_code 9 = .ok (.iload_n 2, 1) := by decide +kernel
theorem kd_Mo_look_10 : decode prog_8_method_35_code 10 = .ok (.tableswitch 167 0 9 #[54, 61, 68, 75, 90, 99, 108, 130, 145, 160], 54) := by decide +kernel
theorem kd_Mo_look_64 : decode prog_8_method_35_code 64 = .ok (.aload_n 0, 1) := by decide +kernel
theorem kd_Mo_look_65 : decode prog_8_method_35_code 65 = .ok (.getfield 13, 3) := by decide +kernel
theorem kd_Mo_look_68 : decode prog_8_method_35_code 68 = .ok (.iload_n 1, 1) := by decide +kernel
theorem kd_Mo_look_69 : decode prog_8_method_35_code 69 = .ok (.iaload, 1) := by decide +kernel
theorem kd_Mo_look_70 : decode prog_8_method_35_code 70 = .ok (.ireturn, 1) := by decide +kernel
theorem kd_Mo_look_71 : decode prog_8_method_35_code 71 = .ok (.aload_n 0, 1) := by decide +kernel
theorem kd_Mo_look_72 : decode prog_8_method_35_code 72 = .ok (.getfield 17, 3) := by decide +kernel
theorem kd_Mo_look_75 : decode prog_8_method_35_code 75 = .ok (.iload_n 1, 1) := by decide +kernel
theorem kd_Mo_look_76 : decode prog_8_method_35_code 76 = .ok (.iaload, 1) := by decide +kernel
theorem kd_Mo_look_77 : decode prog_8_method_35_code 77 = .ok (.ireturn, 1) := by decide +kernel
theorem kd_Mo_look_78 : decode prog_8_method_35_code 78 = .ok (.aload_n 0, 1) := by decide +kernel
theorem kd_Mo_look_79 : decode prog_8_method_35_code 79 = .ok (.getfield 23, 3) := by decide +kernel
theorem kd_Mo_look_82 : decode prog_8_method_35_code 82 = .ok (.iload_n 1, 1) := by decide +kernel
theorem kd_Mo_look_83 : decode prog_8_method_35_code 83 = .ok (.iaload, 1) := by decide +kernel
theorem kd_Mo_look_84 : decode prog_8_method_35_code 84 = .ok (.ireturn, 1) := by decide +kernel
theorem kd_Mo_look_85 : decode prog_8_method_35_code 85 = .ok (.aload_n 0, 1) := by decide +kernel
theorem kd_Mo_look_86 : decode prog_8_method_35_code 86 = .ok (.getfield 26, 3) := by decide +kernel
theorem kd_Mo_look_89 : decode prog_8_method_35_code 89 = .ok (.iload_n 1, 1) := by decide +kernel
theorem kd_Mo_look_90 : decode prog_8_method_35_code 90 = .ok (.baload, 1) := by decide +kernel
theorem kd_Mo_look_91 : decode prog_8_method_35_code 91 = .ok (.ifCond .eq 7, 3) := by decide +kernel
theorem kd_Mo_look_94 : decode prog_8_method_35_code 94 = .ok (.iconst 1, 1) := by decide +kernel
theorem kd_Mo_look_95 : decode prog_8_method_35_code 95 = .ok (.goto 4, 3) := by decide +kernel
theorem kd_Mo_look_98 : decode prog_8_method_35_code 98 = .ok (.iconst 0, 1) := by decide +kernel
theorem kd_Mo_look_99 : decode prog_8_method_35_code 99 = .ok (.ireturn, 1) := by decide +kernel
theorem kd_Mo_look_100 : decode prog_8_method_35_code 100 = .ok (.aload_n 0, 1) := by decide +kernel
theorem kd_Mo_look_101 : decode prog_8_method_35_code 101 = .ok (.getfield 17, 3) := by decide +kernel
theorem kd_Mo_look_104 : decode prog_8_method_35_code 104 = .ok (.iconst 2, 1) := by decide +kernel
theorem kd_Mo_look_105 : decode prog_8_method_35_code 105 = .ok (.iload_n 1, 1) := by decide +kernel
theorem kd_Mo_look_106 : decode prog_8_method_35_code 106 = .ok (.iadd, 1) := by decide +kernel
theorem kd_Mo_look_107 : decode prog_8_method_35_code 107 = .ok (.iaload, 1) := by decide +kernel
theorem kd_Mo_look_108 : decode prog_8_method_35_code 108 = .ok (.ireturn, 1) := by decide +kernel
theorem kd_Mo_look_109 : decode prog_8_method_35_code 109 = .ok (.aload_n 0, 1) := by decide +kernel
theorem kd_Mo_look_110 : decode prog_8_method_35_code 110 = .ok (.getfield 23, 3) := by decide +kernel
theorem kd_Mo_look_113 : decode prog_8_method_35_code 113 = .ok (.iconst 2, 1) := by decide +kernel
theorem kd_Mo_look_114 : decode prog_8_method_35_code 114 = .ok (.iload_n 1, 1) := by decide +kernel
theorem kd_Mo_look_115 : decode prog_8_method_35_code 115 = .ok (.iadd, 1) := by decide +kernel
theorem kd_Mo_look_116 : decode prog_8_method_35_code 116 = .ok (.iaload, 1) := by decide +kernel
theorem kd_Mo_look_117 : decode prog_8_method_35_code 117 = .ok (.ireturn, 1) := by decide +kernel
theorem kd_Mo_look_118 : decode prog_8_method_35_code 118 = .ok (.aload_n 0, 1) := by decide +kernel
theorem kd_Mo_look_119 : decode prog_8_method_35_code 119 = .ok (.getfield 26, 3) := by decide +kernel
theorem kd_Mo_look_122 : decode prog_8_method_35_code 122 = .ok (.iconst 2, 1) := by decide +kernel
theorem kd_Mo_look_123 : decode prog_8_method_35_code 123 = .ok (.iload_n 1, 1) := by decide +kernel
theorem kd_Mo_look_124 : decode prog_8_method_35_code 124 = .ok (.iadd, 1) := by decide +kernel
theorem kd_Mo_look_125 : decode prog_8_method_35_code 125 = .ok (.baload, 1) := by decide +kernel
theorem kd_Mo_look_126 : decode prog_8_method_35_code 126 = .ok (.ifCond .eq 12, 3) := by decide +kernel
theorem kd_Mo_look_129 : decode prog_8_method_35_code 129 = .ok (.aload_n 0, 1) := by decide +kernel
theorem kd_Mo_look_130 : decode prog_8_method_35_code 130 = .ok (.getfield 30, 3) := by decide +kernel
theorem kd_Mo_look_133 : decode prog_8_method_35_code 133 = .ok (.iload_n 1, 1) := by decide +kernel
theorem kd_Mo_look_134 : decode prog_8_method_35_code 134 = .ok (.iaload, 1) := by decide +kernel
theorem kd_Mo_look_135 : decode prog_8_method_35_code 135 = .ok (.goto 4, 3) := by decide +kernel
theorem kd_Mo_look_138 : decode prog_8_method_35_code 138 = .ok (.iconst (-1), 1) := by decide +kernel
theorem kd_Mo_look_139 : decode prog_8_method_35_code 139 = .ok (.ireturn, 1) := by decide +kernel
theorem kd_Mo_look_140 : decode prog_8_method_35_code 140 = .ok (.aload_n 0, 1) := by decide +kernel
theorem kd_Mo_look_141 : decode prog_8_method_35_code 141 = .ok (.getfield 66, 3) := by decide +kernel
theorem kd_Mo_look_144 : decode prog_8_method_35_code 144 = .ok (.iload_n 1, 1) := by decide +kernel
theorem kd_Mo_look_145 : decode prog_8_method_35_code 145 = .ok (.iaload, 1) := by decide +kernel
theorem kd_Mo_look_146 : decode prog_8_method_35_code 146 = .ok (.ifCond .le 7, 3) := by decide +kernel
theorem kd_Mo_look_149 : decode prog_8_method_35_code 149 = .ok (.iconst 1, 1) := by decide +kernel
theorem kd_Mo_look_150 : decode prog_8_method_35_code 150 = .ok (.goto 4, 3) := by decide +kernel
theorem kd_Mo_look_153 : decode prog_8_method_35_code 153 = .ok (.iconst 0, 1) := by decide +kernel
theorem kd_Mo_look_154 : decode prog_8_method_35_code 154 = .ok (.ireturn, 1) := by decide +kernel
theorem kd_Mo_look_155 : decode prog_8_method_35_code 155 = .ok (.aload_n 0, 1) := by decide +kernel
theorem kd_Mo_look_156 : decode prog_8_method_35_code 156 = .ok (.getfield 33, 3) := by decide +kernel
theorem kd_Mo_look_159 : decode prog_8_method_35_code 159 = .ok (.iload_n 1, 1) := by decide +kernel
theorem kd_Mo_look_160 : decode prog_8_method_35_code 160 = .ok (.baload, 1) := by decide +kernel
theorem kd_Mo_look_161 : decode prog_8_method_35_code 161 = .ok (.ifCond .eq 7, 3) := by decide +kernel
theorem kd_Mo_look_164 : decode prog_8_method_35_code 164 = .ok (.iconst 1, 1) := by decide +kernel
theorem kd_Mo_look_165 : decode prog_8_method_35_code 165 = .ok (.goto 4, 3) := by decide +kernel
theorem kd_Mo_look_168 : decode prog_8_method_35_code 168 = .ok (.iconst 0, 1) := by decide +kernel
theorem kd_Mo_look_169 : decode prog_8_method_35_code 169 = .ok (.ireturn, 1) := by decide +kernel
theorem kd_Mo_look_170 : decode prog_8_method_35_code 170 = .ok (.aload_n 0, 1) := by decide +kernel
theorem kd_Mo_look_171 : decode prog_8_method_35_code 171 = .ok (.getfield 39, 3) := by decide +kernel
theorem kd_Mo_look_174 : decode prog_8_method_35_code 174 = .ok (.iload_n 1, 1) := by decide +kernel
theorem kd_Mo_look_175 : decode prog_8_method_35_code 175 = .ok (.iaload, 1) := by decide +kernel
theorem kd_Mo_look_176 : decode prog_8_method_35_code 176 = .ok (.ireturn, 1) := by decide +kernel
theorem kd_Mo_look_177 : decode prog_8_method_35_code 177 = .ok (.iconst (-1), 1) := by decide +kernel
theorem kd_Mo_look_178 : decode prog_8_method_35_code 178 = .ok (.ireturn, 1) := by decide +kernel
def kc_Mo_look_169 (Po : Option Value → qa_M → Prop) : qa_K := (qi_iret (0, 0) Po)
def kc_Mo_look_154 (Po : Option Value → qa_M → Prop) : qa_K := (qi_iret (0, 0) Po)
def kc_Mo_look_139 (Po : Option Value → qa_M → Prop) : qa_K := (qi_iret (0, 0) Po)
def kc_Mo_look_99 (Po : Option Value → qa_M → Prop) : qa_K := (qi_iret (0, 0) Po)
def kc_Mo_look_0 (Po : Option Value → qa_M → Prop) : qa_K := (qi_iload 1 (qi_call 1 (0, 0) sp_Mo_isEnd (qi_ifne (qi_iload 2 (qi_tsw 0 [(qi_aload 0 (qi_gp 7 194 (qi_iload 1 (qi_iald 1194 (qi_iret (0, 0) Po))))), (qi_aload 0 (qi_gp 7 195 (qi_iload 1 (qi_iald 1195 (qi_iret (0, 0) Po))))), (qi_aload 0 (qi_gp 7 197 (qi_iload 1 (qi_iald 1197 (qi_iret (0, 0) Po))))), (qi_aload 0 (qi_gp 7 198 (qi_iload 1 (qi_iald 1198 (qi_ifeq (qi_ic (nI 0) (kc_Mo_look_99 Po)) (qi_ic (nI 1) (kc_Mo_look_99 Po))))))), (qi_aload 0 (qi_gp 7 195 (qi_ic (nI 2) (qi_iload 1 (qi_iadd (qi_iald 1195 (qi_iret (0, 0) Po))))))), (qi_aload 0 (qi_gp 7 197 (qi_ic (nI 2) (qi_iload 1 (qi_iadd (qi_iald 1197 (qi_iret (0, 0) Po))))))), (qi_aload 0 (qi_gp 7 198 (qi_ic (nI 2) (qi_iload 1 (qi_iadd (qi_iald 1198 (qi_ifeq (qi_ic (-1) (kc_Mo_look_139 Po)) (qi_aload 0 (qi_gp 7 199 (qi_iload 1 (qi_iald 1199 (kc_Mo_look_139 Po)))))))))))), (qi_aload 0 (qi_gp 7 211 (qi_iload 1 (qi_iald 1211 (qi_ifle (qi_ic (nI 0) (kc_Mo_look_154 Po)) (qi_ic (nI 1) (kc_Mo_look_154 Po))))))), (qi_aload 0 (qi_gp 7 200 (qi_iload 1 (qi_iald 1200 (qi_ifeq (qi_ic (nI 0) (kc_Mo_look_169 Po)) (qi_ic (nI 1) (kc_Mo_look_169 Po))))))), (qi_aload 0 (qi_gp 7 202 (qi_iload 1 (qi_iald 1202 (qi_iret (0, 0) Po)))))] (qi_ic (-1) (qi_iret (0, 0) Po)))) (qi_ic (-1) (qi_iret (0, 0) Po)))))
abbrev kS_Mo_look (l : Launch) (D : va_G) (E : Nat → ClassId) (B : Nat) (sc : qa_Z) (Po : Option Value → qa_M → Prop) (pc : Nat) (k : qa_K) : Prop := qa_S l "SealedRecordsModel" prog_8_method_35_code 3 (some .int) false D E B rm_Mo_look sc (qa_Qf D E B rm_Mo_look Po) pc k
theorem ks_Mo_look_169 (l : Launch) (D : va_G) (E : Nat → ClassId) (B : Nat) (sc : qa_Z) (Po : Option Value → qa_M → Prop) : kS_Mo_look l D E B sc Po 169 (kc_Mo_look_169 Po) := (qs_iret kd_Mo_look_169)
theorem ks_Mo_look_154 (l : Launch) (D : va_G) (E : Nat → ClassId) (B : Nat) (sc : qa_Z) (Po : Option Value → qa_M → Prop) : kS_Mo_look l D E B sc Po 154 (kc_Mo_look_154 Po) := (qs_iret kd_Mo_look_154)
theorem ks_Mo_look_139 (l : Launch) (D : va_G) (E : Nat → ClassId) (B : Nat) (sc : qa_Z) (Po : Option Value → qa_M → Prop) : kS_Mo_look l D E B sc Po 139 (kc_Mo_look_139 Po) := (qs_iret kd_Mo_look_139)
theorem ks_Mo_look_99 (l : Launch) (D : va_G) (E : Nat → ClassId) (B : Nat) (sc : qa_Z) (Po : Option Value → qa_M → Prop) : kS_Mo_look l D E B sc Po 99 (kc_Mo_look_99 Po) := (qs_iret kd_Mo_look_99)
theorem ks_Mo_look_0 (l : Launch) (D : va_G) (E : Nat → ClassId) (B : Nat) (sc : qa_Z) (Po : Option Value → qa_M → Prop) : kS_Mo_look l D E B sc Po 0 (kc_Mo_look_0 Po) := (qs_iload_n kd_Mo_look_0 rfl (qs_calls (ct_Mo_isEnd l sc) ww_301 (by decide) (by decide) ww_302 ww_303 ww_13 yd_Mo_isEnd kd_Mo_look_1 (qs_ifne (tgt := 9) kd_Mo_look_4 (by decide) (qs_iload_n kd_Mo_look_9 rfl (qs_tsw (tgd := 177) kd_Mo_look_10 rfl (by decide) (qs_iconst kd_Mo_look_177 (by decide) (qs_iret kd_Mo_look_178)) (qa_t10 ⟨_, 64, rfl, by decide, (qs_aload_n kd_Mo_look_64 rfl (fg_194 ww_278 kd_Mo_look_65 (qs_iload_n kd_Mo_look_68 rfl (qs_iald (κ := 1194) rfl (by decide) kd_Mo_look_69 (qs_iret kd_Mo_look_70)))))⟩ ⟨_, 71, rfl, by decide, (qs_aload_n kd_Mo_look_71 rfl (fg_195 ww_279 kd_Mo_look_72 (qs_iload_n kd_Mo_look_75 rfl (qs_iald (κ := 1195) rfl (by decide) kd_Mo_look_76 (qs_iret kd_Mo_look_77)))))⟩ ⟨_, 78, rfl, by decide, (qs_aload_n kd_Mo_look_78 rfl (fg_197 ww_281 kd_Mo_look_79 (qs_iload_n kd_Mo_look_82 rfl (qs_iald (κ := 1197) rfl (by decide) kd_Mo_look_83 (qs_iret kd_Mo_look_84)))))⟩ ⟨_, 85, rfl, by decide, (qs_aload_n kd_Mo_look_85 rfl (fg_198 ww_283 kd_Mo_look_86 (qs_iload_n kd_Mo_look_89 rfl (qs_zald (κ := 1198) rfl (by decide) kd_Mo_look_90 (qs_ifeq (tgt := 98) kd_Mo_look_91 (by decide) (qs_iconst kd_Mo_look_98 (by decide) (ks_Mo_look_99 l D E B sc Po)) (qs_iconst kd_Mo_look_94 (by decide) (qs_goto (tgt := 99) kd_Mo_look_95 (by decide) (ks_Mo_look_99 l D E B sc Po))))))))⟩ ⟨_, 100, rfl, by decide, (qs_aload_n kd_Mo_look_100 rfl (fg_195 ww_279 kd_Mo_look_101 (qs_iconst kd_Mo_look_104 (by decide) (qs_iload_n kd_Mo_look_105 rfl (qs_iadd kd_Mo_look_106 (qs_iald (κ := 1195) rfl (by decide) kd_Mo_look_107 (qs_iret kd_Mo_look_108)))))))⟩ ⟨_, 109, rfl, by decide, (qs_aload_n kd_Mo_look_109 rfl (fg_197 ww_281 kd_Mo_look_110 (qs_iconst kd_Mo_look_113 (by decide) (qs_iload_n kd_Mo_look_114 rfl (qs_iadd kd_Mo_look_115 (qs_iald (κ := 1197) rfl (by decide) kd_Mo_look_116 (qs_iret kd_Mo_look_117)))))))⟩ ⟨_, 118, rfl, by decide, (qs_aload_n kd_Mo_look_118 rfl (fg_198 ww_283 kd_Mo_look_119 (qs_iconst kd_Mo_look_122 (by decide) (qs_iload_n kd_Mo_look_123 rfl (qs_iadd kd_Mo_look_124 (qs_zald (κ := 1198) rfl (by decide) kd_Mo_look_125 (qs_ifeq (tgt := 138) kd_Mo_look_126 (by decide) (qs_iconst kd_Mo_look_138 (by decide) (ks_Mo_look_139 l D E B sc Po)) (qs_aload_n kd_Mo_look_129 rfl (fg_199 ww_284 kd_Mo_look_130 (qs_iload_n kd_Mo_look_133 rfl (qs_iald (κ := 1199) rfl (by decide) kd_Mo_look_134 (qs_goto (tgt := 139) kd_Mo_look_135 (by decide) (ks_Mo_look_139 l D E B sc Po)))))))))))))⟩ ⟨_, 140, rfl, by decide, (qs_aload_n kd_Mo_look_140 rfl (fg_211 ww_296 kd_Mo_look_141 (qs_iload_n kd_Mo_look_144 rfl (qs_iald (κ := 1211) rfl (by decide) kd_Mo_look_145 (qs_ifle (tgt := 153) kd_Mo_look_146 (by decide) (qs_iconst kd_Mo_look_153 (by decide) (ks_Mo_look_154 l D E B sc Po)) (qs_iconst kd_Mo_look_149 (by decide) (qs_goto (tgt := 154) kd_Mo_look_150 (by decide) (ks_Mo_look_154 l D E B sc Po))))))))⟩ ⟨_, 155, rfl, by decide, (qs_aload_n kd_Mo_look_155 rfl (fg_200 ww_285 kd_Mo_look_156 (qs_iload_n kd_Mo_look_159 rfl (qs_zald (κ := 1200) rfl (by decide) kd_Mo_look_160 (qs_ifeq (tgt := 168) kd_Mo_look_161 (by decide) (qs_iconst kd_Mo_look_168 (by decide) (ks_Mo_look_169 l D E B sc Po)) (qs_iconst kd_Mo_look_164 (by decide) (qs_goto (tgt := 169) kd_Mo_look_165 (by decide) (ks_Mo_look_169 l D E B sc Po))))))))⟩ ⟨_, 170, rfl, by decide, (qs_aload_n kd_Mo_look_170 rfl (fg_202 ww_287 kd_Mo_look_171 (qs_iload_n kd_Mo_look_174 rfl (qs_iald (κ := 1202) rfl (by decide) kd_Mo_look_175 (qs_iret kd_Mo_look_176)))))⟩))) (qs_iconst kd_Mo_look_7 (by decide) (qs_iret kd_Mo_look_8)))))
def sp_Mo_look : qa_sp := fun args M Po => match args with
  | [.ref a0, .int a1, .int a2] => kc_Mo_look_0 Po (0, 0) [some (.ref a0), some (.int a1), some (.int a2)] [] M
  | _ => False
theorem ct_Mo_look (l : Launch) (sc : qa_Z) : qa_T l ym_Mo_look (Cond.code ym_Mo_look prog_8_method_35_code 3 (some .int) :: q_W0) rm_Mo_look sc (sp_Mo_look) := by
  intro D E B args M Po h
  unfold sp_Mo_look at h
  split at h
  · exact qa_ct (ini := false) (by decide) (by decide) (Nat.le_of_ble_eq_true rfl) (qa_lvok rfl) (ks_Mo_look_0 l D E B sc Po) h
  · exact h.elim
theorem kd_Lw_cell_0 : decode method_2_code 0 = .ok (.iload_n 1, 1) := by decide +kernel
theorem kd_Lw_cell_1 : decode method_2_code 1 = .ok (.aload_n 0, 1) := by decide +kernel
theorem kd_Lw_cell_2 : decode method_2_code 2 = .ok (.arraylength, 1) := by decide +kernel
theorem kd_Lw_cell_3 : decode method_2_code 3 = .ok (.if_icmp .ge 9, 3) := by decide +kernel
theorem kd_Lw_cell_6 : decode method_2_code 6 = .ok (.aload_n 0, 1) := by decide +kernel
theorem kd_Lw_cell_7 : decode method_2_code 7 = .ok (.iload_n 1, 1) := by decide +kernel
theorem kd_Lw_cell_8 : decode method_2_code 8 = .ok (.iaload, 1) := by decide +kernel
theorem kd_Lw_cell_9 : decode method_2_code 9 = .ok (.goto 4, 3) := by decide +kernel
theorem kd_Lw_cell_12 : decode method_2_code 12 = .ok (.iconst 0, 1) := by decide +kernel
theorem kd_Lw_cell_13 : decode method_2_code 13 = .ok (.ireturn, 1) := by decide +kernel
def kc_Lw_cell_13 (zz : Nat × Nat × (Nat → Int32)) (Po : Option Value → qa_M → Prop) : qa_K := (qi_iret (0, 0) Po)
def kc_Lw_cell_0 (zz : Nat × Nat × (Nat → Int32)) (Po : Option Value → qa_M → Prop) : qa_K := (qi_iload 1 (qi_aload 0 (qi_sln zz (qi_icge (qi_ic (nI 0) (kc_Lw_cell_13 zz Po)) (qi_aload 0 (qi_iload 1 (qi_sld zz (kc_Lw_cell_13 zz Po))))))))
abbrev kS_Lw_cell (l : Launch) (D : va_G) (E : Nat → ClassId) (B : Nat) (zz : Nat × Nat × (Nat → Int32)) (Po : Option Value → qa_M → Prop) (pc : Nat) (k : qa_K) : Prop := qa_S l "SealedRecordsLaw" method_2_code 2 (some .int) false D E B rm_Lw_cell (some zz) (qa_Qf D E B rm_Lw_cell Po) pc k
theorem ks_Lw_cell_13 (l : Launch) (D : va_G) (E : Nat → ClassId) (B : Nat) (zz : Nat × Nat × (Nat → Int32)) (Po : Option Value → qa_M → Prop) : kS_Lw_cell l D E B zz Po 13 (kc_Lw_cell_13 zz Po) := (qs_iret kd_Lw_cell_13)
theorem ks_Lw_cell_0 (l : Launch) (D : va_G) (E : Nat → ClassId) (B : Nat) (zz : Nat × Nat × (Nat → Int32)) (Po : Option Value → qa_M → Prop) : kS_Lw_cell l D E B zz Po 0 (kc_Lw_cell_0 zz Po) := (qs_iload_n kd_Lw_cell_0 rfl (qs_aload_n kd_Lw_cell_1 rfl (qs_sln rfl kd_Lw_cell_2 (qs_icge (tgt := 12) kd_Lw_cell_3 (by decide) (qs_iconst kd_Lw_cell_12 (by decide) (ks_Lw_cell_13 l D E B zz Po)) (qs_aload_n kd_Lw_cell_6 rfl (qs_iload_n kd_Lw_cell_7 rfl (qs_sld rfl kd_Lw_cell_8 (qs_goto (tgt := 13) kd_Lw_cell_9 (by decide) (ks_Lw_cell_13 l D E B zz Po)))))))))
def sp_Lw_cell (zz : Nat × Nat × (Nat → Int32)) : qa_sp := fun args M Po => match args with
  | [.ref a1, .int a2] => kc_Lw_cell_0 zz Po (0, 0) [some (.ref a1), some (.int a2)] [] M
  | _ => False
theorem ct_Lw_cell (l : Launch) (zz : Nat × Nat × (Nat → Int32)) : qa_T l ym_Lw_cell (Cond.code ym_Lw_cell method_2_code 2 (some .int) :: q_W0) rm_Lw_cell (some zz) (sp_Lw_cell zz) := by
  intro D E B args M Po h
  unfold sp_Lw_cell at h
  split at h
  · exact qa_ct (ini := false) (by decide) (by decide) (Nat.le_of_ble_eq_true rfl) (qa_lvok rfl) (ks_Lw_cell_0 l D E B zz Po) h
  · exact h.elim
