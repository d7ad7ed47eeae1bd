theorem kd_Mo_mix_0 : decode prog_8_method_2_code 0 = .ok (.lload_n 0, 1) := by decide +kernel
theorem kd_Mo_mix_1 : decode prog_8_method_2_code 1 = .ok (.lload_n 2, 1) := by decide +kernel
theorem kd_Mo_mix_2 : decode prog_8_method_2_code 2 = .ok (.lxor, 1) := by decide +kernel
theorem kd_Mo_mix_3 : decode prog_8_method_2_code 3 = .ok (.ldc2_w 79, 3) := by decide +kernel
theorem kd_Mo_mix_6 : decode prog_8_method_2_code 6 = .ok (.lmul, 1) := by decide +kernel
theorem kd_Mo_mix_7 : decode prog_8_method_2_code 7 = .ok (.ldc2_w 81, 3) := by decide +kernel
theorem kd_Mo_mix_10 : decode prog_8_method_2_code 10 = .ok (.ladd, 1) := by decide +kernel
theorem kd_Mo_mix_11 : decode prog_8_method_2_code 11 = .ok (.lstore 4, 2) := by decide +kernel
theorem kd_Mo_mix_13 : decode prog_8_method_2_code 13 = .ok (.lload 4, 2) := by decide +kernel
theorem kd_Mo_mix_15 : decode prog_8_method_2_code 15 = .ok (.lload 4, 2) := by decide +kernel
theorem kd_Mo_mix_17 : decode prog_8_method_2_code 17 = .ok (.bipush 29, 2) := by decide +kernel
theorem kd_Mo_mix_19 : decode prog_8_method_2_code 19 = .ok (.lushr, 1) := by decide +kernel
theorem kd_Mo_mix_20 : decode prog_8_method_2_code 20 = .ok (.lxor, 1) := by decide +kernel
theorem kd_Mo_mix_21 : decode prog_8_method_2_code 21 = .ok (.lreturn, 1) := by decide +kernel
def kc_Mo_mix_0 (Po : Option Value → qa_M → Prop) : qa_K := (qi_lload 0 (qi_lload 2 (qi_lxor (qi_lc 6364136223846793005 (qi_lmul (qi_lc 1442695040888963407 (qi_ladd (qi_lstore 4 (qi_lload 4 (qi_lload 4 (qi_ic (nI 29) (qi_lushr (qi_lxor (qi_lret (0, 0) Po))))))))))))))
abbrev kS_Mo_mix (l : Launch) (D : va_G) (E : Nat → ClassId) (B : Nat) (sc : qa_Z) (Po : Option Value → qa_M → Prop) (pc : Nat) (k : qa_K) : Prop := qa_S l "SealedRecordsModel" prog_8_method_2_code 6 (some .long) false D E B rm_Mo_mix sc (qa_Qf D E B rm_Mo_mix Po) pc k
theorem ks_Mo_mix_0 (l : Launch) (D : va_G) (E : Nat → ClassId) (B : Nat) (sc : qa_Z) (Po : Option Value → qa_M → Prop) : kS_Mo_mix l D E B sc Po 0 (kc_Mo_mix_0 Po) := (qs_lload_n kd_Mo_mix_0 rfl (qs_lload_n kd_Mo_mix_1 rfl (qs_lxor kd_Mo_mix_2 (qs_ldc2 ww_299 kd_Mo_mix_3 (qs_lmul kd_Mo_mix_6 (qs_ldc2 ww_300 kd_Mo_mix_7 (qs_ladd kd_Mo_mix_10 (qs_lstore kd_Mo_mix_11 (by decide) (qs_lload kd_Mo_mix_13 (qs_lload kd_Mo_mix_15 (qs_bipush kd_Mo_mix_17 (by decide) (qs_lushr kd_Mo_mix_19 (qs_lxor kd_Mo_mix_20 (qs_lret kd_Mo_mix_21))))))))))))))
def sp_Mo_mix : qa_sp := fun args M Po => match args with
  | [.long a1, .long a2] => kc_Mo_mix_0 Po (0, 0) [some (.long a1), none, some (.long a2), none, none, none] [] M
  | _ => False
theorem ct_Mo_mix (l : Launch) (sc : qa_Z) : qa_T l ym_Mo_mix (Cond.code ym_Mo_mix prog_8_method_2_code 6 (some .long) :: q_W0) rm_Mo_mix sc (sp_Mo_mix) := by
  intro D E B args M Po h
  unfold sp_Mo_mix at h
  split at h
  · exact qa_ct (ini := false) (by decide) (by decide) (Nat.le_of_ble_eq_true rfl) (qa_lvok rfl) (ks_Mo_mix_0 l D E B sc Po) h
  · exact h.elim
theorem kd_Mo_isEnd_0 : decode prog_8_method_3_code 0 = .ok (.iload_n 0, 1) := by decide +kernel
theorem kd_Mo_isEnd_1 : decode prog_8_method_3_code 1 = .ok (.ifCond .eq 8, 3) := by decide +kernel
theorem kd_Mo_isEnd_4 : decode prog_8_method_3_code 4 = .ok (.iload_n 0, 1) := by decide +kernel
theorem kd_Mo_isEnd_5 : decode prog_8_method_3_code 5 = .ok (.iconst 1, 1) := by decide +kernel
theorem kd_Mo_isEnd_6 : decode prog_8_method_3_code 6 = .ok (.if_icmp .ne 7, 3) := by decide +kernel
theorem kd_Mo_isEnd_9 : decode prog_8_method_3_code 9 = .ok (.iconst 1, 1) := by decide +kernel
theorem kd_Mo_isEnd_10 : decode prog_8_method_3_code 10 = .ok (.goto 4, 3) := by decide +kernel
theorem kd_Mo_isEnd_13 : decode prog_8_method_3_code 13 = .ok (.iconst 0, 1) := by decide +kernel
theorem kd_Mo_isEnd_14 : decode prog_8_method_3_code 14 = .ok (.ireturn, 1) := by decide +kernel
def kc_Mo_isEnd_14 (Po : Option Value → qa_M → Prop) : qa_K := (qi_zret (0, 0) Po)
def kc_Mo_isEnd_9 (Po : Option Value → qa_M → Prop) : qa_K := (qi_ic (nI 1) (kc_Mo_isEnd_14 Po))
def kc_Mo_isEnd_0 (Po : Option Value → qa_M → Prop) : qa_K := (qi_iload 0 (qi_ifeq (kc_Mo_isEnd_9 Po) (qi_iload 0 (qi_ic (nI 1) (qi_icne (qi_ic (nI 0) (kc_Mo_isEnd_14 Po)) (kc_Mo_isEnd_9 Po))))))
abbrev kS_Mo_isEnd (l : Launch) (D : va_G) (E : Nat → ClassId) (B : Nat) (sc : qa_Z) (Po : Option Value → qa_M → Prop) (pc : Nat) (k : qa_K) : Prop := qa_S l "SealedRecordsModel" prog_8_method_3_code 1 (some .boolean) false D E B rm_Mo_isEnd sc (qa_Qf D E B rm_Mo_isEnd Po) pc k
theorem ks_Mo_isEnd_14 (l : Launch) (D : va_G) (E : Nat → ClassId) (B : Nat) (sc : qa_Z) (Po : Option Value → qa_M → Prop) : kS_Mo_isEnd l D E B sc Po 14 (kc_Mo_isEnd_14 Po) := (qs_zret kd_Mo_isEnd_14)
theorem ks_Mo_isEnd_9 (l : Launch) (D : va_G) (E : Nat → ClassId) (B : Nat) (sc : qa_Z) (Po : Option Value → qa_M → Prop) : kS_Mo_isEnd l D E B sc Po 9 (kc_Mo_isEnd_9 Po) := (qs_iconst kd_Mo_isEnd_9 (by decide) (qs_goto (tgt := 14) kd_Mo_isEnd_10 (by decide) (ks_Mo_isEnd_14 l D E B sc Po)))
theorem ks_Mo_isEnd_0 (l : Launch) (D : va_G) (E : Nat → ClassId) (B : Nat) (sc : qa_Z) (Po : Option Value → qa_M → Prop) : kS_Mo_isEnd l D E B sc Po 0 (kc_Mo_isEnd_0 Po) := (qs_iload_n kd_Mo_isEnd_0 rfl (qs_ifeq (tgt := 9) kd_Mo_isEnd_1 (by decide) (ks_Mo_isEnd_9 l D E B sc Po) (qs_iload_n kd_Mo_isEnd_4 rfl (qs_iconst kd_Mo_isEnd_5 (by decide) (qs_icne (tgt := 13) kd_Mo_isEnd_6 (by decide) (qs_iconst kd_Mo_isEnd_13 (by decide) (ks_Mo_isEnd_14 l D E B sc Po)) (ks_Mo_isEnd_9 l D E B sc Po))))))
def sp_Mo_isEnd : qa_sp := fun args M Po => match args with
  | [.int a1] => kc_Mo_isEnd_0 Po (0, 0) [some (.int a1)] [] M
  | _ => False
theorem ct_Mo_isEnd (l : Launch) (sc : qa_Z) : qa_T l ym_Mo_isEnd (Cond.code ym_Mo_isEnd prog_8_method_3_code 1 (some .boolean) :: q_W0) rm_Mo_isEnd sc (sp_Mo_isEnd) := by
  intro D E B args M Po h
  unfold sp_Mo_isEnd at h
  split at h
  · exact qa_ct (ini := false) (by decide) (by decide) (Nat.le_of_ble_eq_true rfl) (qa_lvok rfl) (ks_Mo_isEnd_0 l D E B sc Po) h
  · exact h.elim
theorem kd_Mo_isByte_0 : decode prog_8_method_4_code 0 = .ok (.iload_n 0, 1) := by decide +kernel
theorem kd_Mo_isByte_1 : decode prog_8_method_4_code 1 = .ok (.ifCond .lt 14, 3) := by decide +kernel
theorem kd_Mo_isByte_4 : decode prog_8_method_4_code 4 = .ok (.iload_n 0, 1) := by decide +kernel
theorem kd_Mo_isByte_5 : decode prog_8_method_4_code 5 = .ok (.sipush 255, 3) := by decide +kernel
theorem kd_Mo_isByte_8 : decode prog_8_method_4_code 8 = .ok (.if_icmp .gt 7, 3) := by decide +kernel
theorem kd_Mo_isByte_11 : decode prog_8_method_4_code 11 = .ok (.iconst 1, 1) := by decide +kernel
theorem kd_Mo_isByte_12 : decode prog_8_method_4_code 12 = .ok (.goto 4, 3) := by decide +kernel
theorem kd_Mo_isByte_15 : decode prog_8_method_4_code 15 = .ok (.iconst 0, 1) := by decide +kernel
theorem kd_Mo_isByte_16 : decode prog_8_method_4_code 16 = .ok (.ireturn, 1) := by decide +kernel
def kc_Mo_isByte_16 (Po : Option Value → qa_M → Prop) : qa_K := (qi_zret (0, 0) Po)
def kc_Mo_isByte_15 (Po : Option Value → qa_M → Prop) : qa_K := (qi_ic (nI 0) (kc_Mo_isByte_16 Po))
def kc_Mo_isByte_0 (Po : Option Value → qa_M → Prop) : qa_K := (qi_iload 0 (qi_iflt (kc_Mo_isByte_15 Po) (qi_iload 0 (qi_ic (nI 255) (qi_icgt (kc_Mo_isByte_15 Po) (qi_ic (nI 1) (kc_Mo_isByte_16 Po)))))))
abbrev kS_Mo_isByte (l : Launch) (D : va_G) (E : Nat → ClassId) (B : Nat) (sc : qa_Z) (Po : Option Value → qa_M → Prop) (pc : Nat) (k : qa_K) : Prop := qa_S l "SealedRecordsModel" prog_8_method_4_code 1 (some .boolean) false D E B rm_Mo_isByte sc (qa_Qf D E B rm_Mo_isByte Po) pc k
theorem ks_Mo_isByte_16 (l : Launch) (D : va_G) (E : Nat → ClassId) (B : Nat) (sc : qa_Z) (Po : Option Value → qa_M → Prop) : kS_Mo_isByte l D E B sc Po 16 (kc_Mo_isByte_16 Po) := (qs_zret kd_Mo_isByte_16)
theorem ks_Mo_isByte_15 (l : Launch) (D : va_G) (E : Nat → ClassId) (B : Nat) (sc : qa_Z) (Po : Option Value → qa_M → Prop) : kS_Mo_isByte l D E B sc Po 15 (kc_Mo_isByte_15 Po) := (qs_iconst kd_Mo_isByte_15 (by decide) (ks_Mo_isByte_16 l D E B sc Po))
theorem ks_Mo_isByte_0 (l : Launch) (D : va_G) (E : Nat → ClassId) (B : Nat) (sc : qa_Z) (Po : Option Value → qa_M → Prop) : kS_Mo_isByte l D E B sc Po 0 (kc_Mo_isByte_0 Po) := (qs_iload_n kd_Mo_isByte_0 rfl (qs_iflt (tgt := 15) kd_Mo_isByte_1 (by decide) (ks_Mo_isByte_15 l D E B sc Po) (qs_iload_n kd_Mo_isByte_4 rfl (qs_sipush kd_Mo_isByte_5 (by decide) (qs_icgt (tgt := 15) kd_Mo_isByte_8 (by decide) (ks_Mo_isByte_15 l D E B sc Po) (qs_iconst kd_Mo_isByte_11 (by decide) (qs_goto (tgt := 16) kd_Mo_isByte_12 (by decide) (ks_Mo_isByte_16 l D E B sc Po))))))))
def sp_Mo_isByte : qa_sp := fun args M Po => match args with
  | [.int a1] => kc_Mo_isByte_0 Po (0, 0) [some (.int a1)] [] M
  | _ => False
theorem ct_Mo_isByte (l : Launch) (sc : qa_Z) : qa_T l ym_Mo_isByte (Cond.code ym_Mo_isByte prog_8_method_4_code 1 (some .boolean) :: q_W0) rm_Mo_isByte sc (sp_Mo_isByte) := by
  intro D E B args M Po h
  unfold sp_Mo_isByte at h
  split at h
  · exact qa_ct (ini := false) (by decide) (by decide) (Nat.le_of_ble_eq_true rfl) (qa_lvok rfl) (ks_Mo_isByte_0 l D E B sc Po) h
  · exact h.elim
theorem kd_Mo_secret_0 : decode prog_8_method_5_code 0 = .ok (.iload_n 1, 1) := by decide +kernel
theorem kd_Mo_secret_1 : decode prog_8_method_5_code 1 = .ok (.invokestatic 83, 3) := by decide +kernel
theorem kd_Mo_secret_4 : decode prog_8_method_5_code 4 = .ok (.ifCond .eq 13, 3) := by decide +kernel
theorem kd_Mo_secret_7 : decode prog_8_method_5_code 7 = .ok (.aload_n 0, 1) := by decide +kernel
theorem kd_Mo_secret_8 : decode prog_8_method_5_code 8 = .ok (.getfield 13, 3) := by decide +kernel
theorem kd_Mo_secret_11 : decode prog_8_method_5_code 11 = .ok (.iload_n 1, 1) := by decide +kernel
theorem kd_Mo_secret_12 : decode prog_8_method_5_code 12 = .ok (.iaload, 1) := by decide +kernel
theorem kd_Mo_secret_13 : decode prog_8_method_5_code 13 = .ok (.iconst 2, 1) := by decide +kernel
theorem kd_Mo_secret_14 : decode prog_8_method_5_code 14 = .ok (.if_icmp .ne 5, 3) := by decide +kernel
theorem kd_Mo_secret_17 : decode prog_8_method_5_code 17 = .ok (.iconst 0, 1) := by decide +kernel
theorem kd_Mo_secret_18 : decode prog_8_method_5_code 18 = .ok (.ireturn, 1) := by decide +kernel
theorem kd_Mo_secret_19 : decode prog_8_method_5_code 19 = .ok (.aload_n 0, 1) := by decide +kernel
theorem kd_Mo_secret_20 : decode prog_8_method_5_code 20 = .ok (.getfield 7, 3) := by decide +kernel
theorem kd_Mo_secret_23 : decode prog_8_method_5_code 23 = .ok (.iload_n 1, 1) := by decide +kernel
theorem kd_Mo_secret_24 : decode prog_8_method_5_code 24 = .ok (.laload, 1) := by decide +kernel
theorem kd_Mo_secret_25 : decode prog_8_method_5_code 25 = .ok (.ldc2_w 87, 3) := by decide +kernel
theorem kd_Mo_secret_28 : decode prog_8_method_5_code 28 = .ok (.invokestatic 89, 3) := by decide +kernel
theorem kd_Mo_secret_31 : decode prog_8_method_5_code 31 = .ok (.lstore 4, 2) := by decide +kernel
theorem kd_Mo_secret_33 : decode prog_8_method_5_code 33 = .ok (.aload_n 0, 1) := by decide +kernel
theorem kd_Mo_secret_34 : decode prog_8_method_5_code 34 = .ok (.getfield 7, 3) := by decide +kernel
theorem kd_Mo_secret_37 : decode prog_8_method_5_code 37 = .ok (.iload_n 1, 1) := by decide +kernel
theorem kd_Mo_secret_38 : decode prog_8_method_5_code 38 = .ok (.lload 4, 2) := by decide +kernel
theorem kd_Mo_secret_40 : decode prog_8_method_5_code 40 = .ok (.lload_n 2, 1) := by decide +kernel
theorem kd_Mo_secret_41 : decode prog_8_method_5_code 41 = .ok (.invokestatic 89, 3) := by decide +kernel
theorem kd_Mo_secret_44 : decode prog_8_method_5_code 44 = .ok (.lastore, 1) := by decide +kernel
theorem kd_Mo_secret_45 : decode prog_8_method_5_code 45 = .ok (.aload_n 0, 1) := by decide +kernel
theorem kd_Mo_secret_46 : decode prog_8_method_5_code 46 = .ok (.getfield 13, 3) := by decide +kernel
theorem kd_Mo_secret_49 : decode prog_8_method_5_code 49 = .ok (.iload_n 1, 1) := by decide +kernel
theorem kd_Mo_secret_50 : decode prog_8_method_5_code 50 = .ok (.dup2, 1) := by decide +kernel
theorem kd_Mo_secret_51 : decode prog_8_method_5_code 51 = .ok (.iaload, 1) := by decide +kernel
theorem kd_Mo_secret_52 : decode prog_8_method_5_code 52 = .ok (.iconst 1, 1) := by decide +kernel
theorem kd_Mo_secret_53 : decode prog_8_method_5_code 53 = .ok (.iadd, 1) := by decide +kernel
theorem kd_Mo_secret_54 : decode prog_8_method_5_code 54 = .ok (.iastore, 1) := by decide +kernel
theorem kd_Mo_secret_55 : decode prog_8_method_5_code 55 = .ok (.iconst 1, 1) := by decide +kernel
theorem kd_Mo_secret_56 : decode prog_8_method_5_code 56 = .ok (.ireturn, 1) := by decide +kernel
def kc_Mo_secret_17 (Po : Option Value → qa_M → Prop) : qa_K := (qi_ic (nI 0) (qi_zret (0, 0) Po))
def kc_Mo_secret_0 (Po : Option Value → qa_M → Prop) : qa_K := (qi_iload 1 (qi_call 1 (0, 0) sp_Mo_isEnd (qi_ifeq (kc_Mo_secret_17 Po) (qi_aload 0 (qi_gp 7 194 (qi_iload 1 (qi_iald 1194 (qi_ic (nI 2) (qi_icne (qi_aload 0 (qi_gp 7 193 (qi_iload 1 (qi_lald 1193 (qi_lc 3 (qi_call 2 (0, 0) sp_Mo_mix (qi_lstore 4 (qi_aload 0 (qi_gp 7 193 (qi_iload 1 (qi_lload 4 (qi_lload 2 (qi_call 2 (0, 0) sp_Mo_mix (qi_last 1193 (qi_aload 0 (qi_gp 7 194 (qi_iload 1 (qi_dup2 (qi_iald 1194 (qi_ic (nI 1) (qi_iadd (qi_iast 1194 (qi_ic (nI 1) (qi_zret (0, 0) Po)))))))))))))))))))))))) (kc_Mo_secret_17 Po))))))))))
abbrev kS_Mo_secret (l : Launch) (D : va_G) (E : Nat → ClassId) (B : Nat) (sc : qa_Z) (Po : Option Value → qa_M → Prop) (pc : Nat) (k : qa_K) : Prop := qa_S l "SealedRecordsModel" prog_8_method_5_code 6 (some .boolean) false D E B rm_Mo_secret sc (qa_Qf D E B rm_Mo_secret Po) pc k
theorem ks_Mo_secret_17 (l : Launch) (D : va_G) (E : Nat → ClassId) (B : Nat) (sc : qa_Z) (Po : Option Value → qa_M → Prop) : kS_Mo_secret l D E B sc Po 17 (kc_Mo_secret_17 Po) := (qs_iconst kd_Mo_secret_17 (by decide) (qs_zret kd_Mo_secret_18))
theorem ks_Mo_secret_0 (l : Launch) (D : va_G) (E : Nat → ClassId) (B : Nat) (sc : qa_Z) (Po : Option Value → qa_M → Prop) : kS_Mo_secret l D E B sc Po 0 (kc_Mo_secret_0 Po) := (qs_iload_n kd_Mo_secret_0 rfl (qs_calls (ct_Mo_isEnd l sc) ww_301 (by decide) (by decide) ww_302 ww_303 ww_13 yd_Mo_isEnd kd_Mo_secret_1 (qs_ifeq (tgt := 17) kd_Mo_secret_4 (by decide) (ks_Mo_secret_17 l D E B sc Po) (qs_aload_n kd_Mo_secret_7 rfl (fg_194 ww_278 kd_Mo_secret_8 (qs_iload_n kd_Mo_secret_11 rfl (qs_iald (κ := 1194) rfl (by decide) kd_Mo_secret_12 (qs_iconst kd_Mo_secret_13 (by decide) (qs_icne (tgt := 19) kd_Mo_secret_14 (by decide) (qs_aload_n kd_Mo_secret_19 rfl (fg_193 ww_277 kd_Mo_secret_20 (qs_iload_n kd_Mo_secret_23 rfl (qs_lald (κ := 1193) rfl (by decide) kd_Mo_secret_24 (qs_ldc2 ww_304 kd_Mo_secret_25 (qs_calls (ct_Mo_mix l sc) ww_305 (by decide) (by decide) ww_306 ww_307 ww_13 yd_Mo_mix kd_Mo_secret_28 (qs_lstore kd_Mo_secret_31 (by decide) (qs_aload_n kd_Mo_secret_33 rfl (fg_193 ww_277 kd_Mo_secret_34 (qs_iload_n kd_Mo_secret_37 rfl (qs_lload kd_Mo_secret_38 (qs_lload_n kd_Mo_secret_40 rfl (qs_calls (ct_Mo_mix l sc) ww_305 (by decide) (by decide) ww_306 ww_307 ww_13 yd_Mo_mix kd_Mo_secret_41 (qs_last (κ := 1193) rfl (by decide) kd_Mo_secret_44 (qs_aload_n kd_Mo_secret_45 rfl (fg_194 ww_278 kd_Mo_secret_46 (qs_iload_n kd_Mo_secret_49 rfl (qs_dup2 kd_Mo_secret_50 (qs_iald (κ := 1194) rfl (by decide) kd_Mo_secret_51 (qs_iconst kd_Mo_secret_52 (by decide) (qs_iadd kd_Mo_secret_53 (qs_iast (κ := 1194) rfl (by decide) kd_Mo_secret_54 (qs_iconst kd_Mo_secret_55 (by decide) (qs_zret kd_Mo_secret_56)))))))))))))))))))))))) (ks_Mo_secret_17 l D E B sc Po))))))))))
def sp_Mo_secret : qa_sp := fun args M Po => match args with
  | [.ref a0, .int a1, .long a2] => kc_Mo_secret_0 Po (0, 0) [some (.ref a0), some (.int a1), some (.long a2), none, none, none] [] M
  | _ => False
theorem ct_Mo_secret (l : Launch) (sc : qa_Z) : qa_T l ym_Mo_secret (Cond.code ym_Mo_secret prog_8_method_5_code 6 (some .boolean) :: q_W0) rm_Mo_secret sc (sp_Mo_secret) := by
  intro D E B args M Po h
  unfold sp_Mo_secret at h
  split at h
  · exact qa_ct (ini := false) (by decide) (by decide) (Nat.le_of_ble_eq_true rfl) (qa_lvok rfl) (ks_Mo_secret_0 l D E B sc Po) h
  · exact h.elim
theorem kd_Mo_alert_0 : decode prog_8_method_7_code 0 = .ok (.aload_n 0, 1) := by decide +kernel
theorem kd_Mo_alert_1 : decode prog_8_method_7_code 1 = .ok (.getfield 26, 3) := by decide +kernel
theorem kd_Mo_alert_4 : decode prog_8_method_7_code 4 = .ok (.iconst 2, 1) := by decide +kernel
theorem kd_Mo_alert_5 : decode prog_8_method_7_code 5 = .ok (.iload_n 1, 1) := by decide +kernel
theorem kd_Mo_alert_6 : decode prog_8_method_7_code 6 = .ok (.iadd, 1) := by decide +kernel
theorem kd_Mo_alert_7 : decode prog_8_method_7_code 7 = .ok (.iconst 1, 1) := by decide +kernel
theorem kd_Mo_alert_8 : decode prog_8_method_7_code 8 = .ok (.bastore, 1) := by decide +kernel
theorem kd_Mo_alert_9 : decode prog_8_method_7_code 9 = .ok (.aload_n 0, 1) := by decide +kernel
theorem kd_Mo_alert_10 : decode prog_8_method_7_code 10 = .ok (.getfield 30, 3) := by decide +kernel
theorem kd_Mo_alert_13 : decode prog_8_method_7_code 13 = .ok (.iload_n 1, 1) := by decide +kernel
theorem kd_Mo_alert_14 : decode prog_8_method_7_code 14 = .ok (.sipush 256, 3) := by decide +kernel
theorem kd_Mo_alert_17 : decode prog_8_method_7_code 17 = .ok (.iload_n 2, 1) := by decide +kernel
theorem kd_Mo_alert_18 : decode prog_8_method_7_code 18 = .ok (.iadd, 1) := by decide +kernel
theorem kd_Mo_alert_19 : decode prog_8_method_7_code 19 = .ok (.iastore, 1) := by decide +kernel
theorem kd_Mo_alert_20 : decode prog_8_method_7_code 20 = .ok (.return_, 1) := by decide +kernel
def kc_Mo_alert_0 (Po : Option Value → qa_M → Prop) : qa_K := (qi_aload 0 (qi_gp 7 198 (qi_ic (nI 2) (qi_iload 1 (qi_iadd (qi_ic (nI 1) (qi_zast 1198 (qi_aload 0 (qi_gp 7 199 (qi_iload 1 (qi_ic (nI 256) (qi_iload 2 (qi_iadd (qi_iast 1199 (qi_vret (0, 0) Po)))))))))))))))
abbrev kS_Mo_alert (l : Launch) (D : va_G) (E : Nat → ClassId) (B : Nat) (sc : qa_Z) (Po : Option Value → qa_M → Prop) (pc : Nat) (k : qa_K) : Prop := qa_S l "SealedRecordsModel" prog_8_method_7_code 3 none false D E B rm_Mo_alert sc (qa_Qf D E B rm_Mo_alert Po) pc k
theorem ks_Mo_alert_0 (l : Launch) (D : va_G) (E : Nat → ClassId) (B : Nat) (sc : qa_Z) (Po : Option Value → qa_M → Prop) : kS_Mo_alert l D E B sc Po 0 (kc_Mo_alert_0 Po) := (qs_aload_n kd_Mo_alert_0 rfl (fg_198 ww_283 kd_Mo_alert_1 (qs_iconst kd_Mo_alert_4 (by decide) (qs_iload_n kd_Mo_alert_5 rfl (qs_iadd kd_Mo_alert_6 (qs_iconst kd_Mo_alert_7 (by decide) (qs_zast (κ := 1198) rfl (by decide) kd_Mo_alert_8 (qs_aload_n kd_Mo_alert_9 rfl (fg_199 ww_284 kd_Mo_alert_10 (qs_iload_n kd_Mo_alert_13 rfl (qs_sipush kd_Mo_alert_14 (by decide) (qs_iload_n kd_Mo_alert_17 rfl (qs_iadd kd_Mo_alert_18 (qs_iast (κ := 1199) rfl (by decide) kd_Mo_alert_19 (qs_vret kd_Mo_alert_20)))))))))))))))
def sp_Mo_alert : qa_sp := fun args M Po => match args with
  | [.ref a0, .int a1, .int a2] => kc_Mo_alert_0 Po (0, 0) [some (.ref a0), some (.int a1), some (.int a2)] [] M
  | _ => False
theorem ct_Mo_alert (l : Launch) (sc : qa_Z) : qa_T l ym_Mo_alert (Cond.code ym_Mo_alert prog_8_method_7_code 3 none :: q_W0) rm_Mo_alert sc (sp_Mo_alert) := by
  intro D E B args M Po h
  unfold sp_Mo_alert at h
  split at h
  · exact qa_ct (ini := false) (by decide) (by decide) (Nat.le_of_ble_eq_true rfl) (qa_lvok rfl) (ks_Mo_alert_0 l D E B sc Po) h
  · exact h.elim
theorem kd_Mo_key_0 : decode prog_8_method_6_code 0 = .ok (.iload_n 1, 1) := by decide +kernel
theorem kd_Mo_key_1 : decode prog_8_method_6_code 1 = .ok (.invokestatic 83, 3) := by decide +kernel
theorem kd_Mo_key_4 : decode prog_8_method_6_code 4 = .ok (.ifCond .ne 5, 3) := by decide +kernel
theorem kd_Mo_key_7 : decode prog_8_method_6_code 7 = .ok (.iconst (-1), 1) := by decide +kernel
theorem kd_Mo_key_8 : decode prog_8_method_6_code 8 = .ok (.ireturn, 1) := by decide +kernel
theorem kd_Mo_key_9 : decode prog_8_method_6_code 9 = .ok (.iload_n 2, 1) := by decide +kernel
theorem kd_Mo_key_10 : decode prog_8_method_6_code 10 = .ok (.ifCond .eq 7, 3) := by decide +kernel
theorem kd_Mo_key_13 : decode prog_8_method_6_code 13 = .ok (.iload_n 1, 1) := by decide +kernel
theorem kd_Mo_key_14 : decode prog_8_method_6_code 14 = .ok (.goto 6, 3) := by decide +kernel
theorem kd_Mo_key_17 : decode prog_8_method_6_code 17 = .ok (.iconst 2, 1) := by decide +kernel
theorem kd_Mo_key_18 : decode prog_8_method_6_code 18 = .ok (.iload_n 1, 1) := by decide +kernel
theorem kd_Mo_key_19 : decode prog_8_method_6_code 19 = .ok (.iadd, 1) := by decide +kernel
theorem kd_Mo_key_20 : decode prog_8_method_6_code 20 = .ok (.istore_n 3, 1) := by decide +kernel
theorem kd_Mo_key_21 : decode prog_8_method_6_code 21 = .ok (.aload_n 0, 1) := by decide +kernel
theorem kd_Mo_key_22 : decode prog_8_method_6_code 22 = .ok (.getfield 26, 3) := by decide +kernel
theorem kd_Mo_key_25 : decode prog_8_method_6_code 25 = .ok (.iload_n 3, 1) := by decide +kernel
theorem kd_Mo_key_26 : decode prog_8_method_6_code 26 = .ok (.baload, 1) := by decide +kernel
theorem kd_Mo_key_27 : decode prog_8_method_6_code 27 = .ok (.ifCond .eq 6, 3) := by decide +kernel
theorem kd_Mo_key_30 : decode prog_8_method_6_code 30 = .ok (.bipush (-2), 2) := by decide +kernel
theorem kd_Mo_key_32 : decode prog_8_method_6_code 32 = .ok (.ireturn, 1) := by decide +kernel
theorem kd_Mo_key_33 : decode prog_8_method_6_code 33 = .ok (.aload_n 0, 1) := by decide +kernel
theorem kd_Mo_key_34 : decode prog_8_method_6_code 34 = .ok (.getfield 17, 3) := by decide +kernel
theorem kd_Mo_key_37 : decode prog_8_method_6_code 37 = .ok (.iload_n 3, 1) := by decide +kernel
theorem kd_Mo_key_38 : decode prog_8_method_6_code 38 = .ok (.iaload, 1) := by decide +kernel
theorem kd_Mo_key_39 : decode prog_8_method_6_code 39 = .ok (.aload_n 0, 1) := by decide +kernel
theorem kd_Mo_key_40 : decode prog_8_method_6_code 40 = .ok (.getfield 13, 3) := by decide +kernel
theorem kd_Mo_key_43 : decode prog_8_method_6_code 43 = .ok (.iload_n 1, 1) := by decide +kernel
theorem kd_Mo_key_44 : decode prog_8_method_6_code 44 = .ok (.iaload, 1) := by decide +kernel
theorem kd_Mo_key_45 : decode prog_8_method_6_code 45 = .ok (.if_icmp .ne 6, 3) := by decide +kernel
theorem kd_Mo_key_48 : decode prog_8_method_6_code 48 = .ok (.bipush (-4), 2) := by decide +kernel
theorem kd_Mo_key_50 : decode prog_8_method_6_code 50 = .ok (.ireturn, 1) := by decide +kernel
theorem kd_Mo_key_51 : decode prog_8_method_6_code 51 = .ok (.iload_n 2, 1) := by decide +kernel
theorem kd_Mo_key_52 : decode prog_8_method_6_code 52 = .ok (.ifCond .ne 23, 3) := by decide +kernel
theorem kd_Mo_key_55 : decode prog_8_method_6_code 55 = .ok (.aload_n 0, 1) := by decide +kernel
theorem kd_Mo_key_56 : decode prog_8_method_6_code 56 = .ok (.getfield 66, 3) := by decide +kernel
theorem kd_Mo_key_59 : decode prog_8_method_6_code 59 = .ok (.iload_n 1, 1) := by decide +kernel
theorem kd_Mo_key_60 : decode prog_8_method_6_code 60 = .ok (.iaload, 1) := by decide +kernel
theorem kd_Mo_key_61 : decode prog_8_method_6_code 61 = .ok (.ifCond .le 14, 3) := by decide +kernel
theorem kd_Mo_key_64 : decode prog_8_method_6_code 64 = .ok (.aload_n 0, 1) := by decide +kernel
theorem kd_Mo_key_65 : decode prog_8_method_6_code 65 = .ok (.iload_n 1, 1) := by decide +kernel
theorem kd_Mo_key_66 : decode prog_8_method_6_code 66 = .ok (.bipush 10, 2) := by decide +kernel
theorem kd_Mo_key_68 : decode prog_8_method_6_code 68 = .ok (.invokevirtual 93, 3) := by decide +kernel
theorem kd_Mo_key_71 : decode prog_8_method_6_code 71 = .ok (.sipush 266, 3) := by decide +kernel
theorem kd_Mo_key_74 : decode prog_8_method_6_code 74 = .ok (.ireturn, 1) := by decide +kernel
theorem kd_Mo_key_75 : decode prog_8_method_6_code 75 = .ok (.aload_n 0, 1) := by decide +kernel
theorem kd_Mo_key_76 : decode prog_8_method_6_code 76 = .ok (.getfield 17, 3) := by decide +kernel
theorem kd_Mo_key_79 : decode prog_8_method_6_code 79 = .ok (.iload_n 3, 1) := by decide +kernel
theorem kd_Mo_key_80 : decode prog_8_method_6_code 80 = .ok (.aload_n 0, 1) := by decide +kernel
theorem kd_Mo_key_81 : decode prog_8_method_6_code 81 = .ok (.getfield 13, 3) := by decide +kernel
theorem kd_Mo_key_84 : decode prog_8_method_6_code 84 = .ok (.iload_n 1, 1) := by decide +kernel
theorem kd_Mo_key_85 : decode prog_8_method_6_code 85 = .ok (.iaload, 1) := by decide +kernel
theorem kd_Mo_key_86 : decode prog_8_method_6_code 86 = .ok (.iastore, 1) := by decide +kernel
theorem kd_Mo_key_87 : decode prog_8_method_6_code 87 = .ok (.aload_n 0, 1) := by decide +kernel
theorem kd_Mo_key_88 : decode prog_8_method_6_code 88 = .ok (.getfield 20, 3) := by decide +kernel
theorem kd_Mo_key_91 : decode prog_8_method_6_code 91 = .ok (.iload_n 3, 1) := by decide +kernel
theorem kd_Mo_key_92 : decode prog_8_method_6_code 92 = .ok (.aload_n 0, 1) := by decide +kernel
theorem kd_Mo_key_93 : decode prog_8_method_6_code 93 = .ok (.getfield 7, 3) := by decide +kernel
theorem kd_Mo_key_96 : decode prog_8_method_6_code 96 = .ok (.iload_n 1, 1) := by decide +kernel
theorem kd_Mo_key_97 : decode prog_8_method_6_code 97 = .ok (.laload, 1) := by decide +kernel
theorem kd_Mo_key_98 : decode prog_8_method_6_code 98 = .ok (.iload_n 2, 1) := by decide +kernel
theorem kd_Mo_key_99 : decode prog_8_method_6_code 99 = .ok (.ifCond .eq 12, 3) := by decide +kernel
theorem kd_Mo_key_102 : decode prog_8_method_6_code 102 = .ok (.ldc2_w 97, 3) := by decide +kernel
theorem kd_Mo_key_105 : decode prog_8_method_6_code 105 = .ok (.iload_n 1, 1) := by decide +kernel
theorem kd_Mo_key_106 : decode prog_8_method_6_code 106 = .ok (.i2l, 1) := by decide +kernel
theorem kd_Mo_key_107 : decode prog_8_method_6_code 107 = .ok (.ladd, 1) := by decide +kernel
theorem kd_Mo_key_108 : decode prog_8_method_6_code 108 = .ok (.goto 9, 3) := by decide +kernel
theorem kd_Mo_key_111 : decode prog_8_method_6_code 111 = .ok (.ldc2_w 99, 3) := by decide +kernel
theorem kd_Mo_key_114 : decode prog_8_method_6_code 114 = .ok (.iload_n 1, 1) := by decide +kernel
theorem kd_Mo_key_115 : decode prog_8_method_6_code 115 = .ok (.i2l, 1) := by decide +kernel
theorem kd_Mo_key_116 : decode prog_8_method_6_code 116 = .ok (.lsub, 1) := by decide +kernel
theorem kd_Mo_key_117 : decode prog_8_method_6_code 117 = .ok (.invokestatic 89, 3) := by decide +kernel
theorem kd_Mo_key_120 : decode prog_8_method_6_code 120 = .ok (.lastore, 1) := by decide +kernel
theorem kd_Mo_key_121 : decode prog_8_method_6_code 121 = .ok (.aload_n 0, 1) := by decide +kernel
theorem kd_Mo_key_122 : decode prog_8_method_6_code 122 = .ok (.getfield 23, 3) := by decide +kernel
theorem kd_Mo_key_125 : decode prog_8_method_6_code 125 = .ok (.iload_n 3, 1) := by decide +kernel
theorem kd_Mo_key_126 : decode prog_8_method_6_code 126 = .ok (.iconst 0, 1) := by decide +kernel
theorem kd_Mo_key_127 : decode prog_8_method_6_code 127 = .ok (.iastore, 1) := by decide +kernel
theorem kd_Mo_key_128 : decode prog_8_method_6_code 128 = .ok (.aload_n 0, 1) := by decide +kernel
theorem kd_Mo_key_129 : decode prog_8_method_6_code 129 = .ok (.getfield 17, 3) := by decide +kernel
theorem kd_Mo_key_132 : decode prog_8_method_6_code 132 = .ok (.iload_n 3, 1) := by decide +kernel
theorem kd_Mo_key_133 : decode prog_8_method_6_code 133 = .ok (.iaload, 1) := by decide +kernel
theorem kd_Mo_key_134 : decode prog_8_method_6_code 134 = .ok (.ireturn, 1) := by decide +kernel
def kc_Mo_key_117 (Po : Option Value → qa_M → Prop) : qa_K := (qi_call 2 (0, 0) sp_Mo_mix (qi_last 1196 (qi_aload 0 (qi_gp 7 197 (qi_iload 3 (qi_ic (nI 0) (qi_iast 1197 (qi_aload 0 (qi_gp 7 195 (qi_iload 3 (qi_iald 1195 (qi_iret (0, 0) Po))))))))))))
def kc_Mo_key_75 (Po : Option Value → qa_M → Prop) : qa_K := (qi_aload 0 (qi_gp 7 195 (qi_iload 3 (qi_aload 0 (qi_gp 7 194 (qi_iload 1 (qi_iald 1194 (qi_iast 1195 (qi_aload 0 (qi_gp 7 196 (qi_iload 3 (qi_aload 0 (qi_gp 7 193 (qi_iload 1 (qi_lald 1193 (qi_iload 2 (qi_ifeq (qi_lc 5 (qi_iload 1 (qi_i2l (qi_lsub (kc_Mo_key_117 Po))))) (qi_lc 4 (qi_iload 1 (qi_i2l (qi_ladd (kc_Mo_key_117 Po))))))))))))))))))))))
def kc_Mo_key_20 (Po : Option Value → qa_M → Prop) : qa_K := (qi_istore 3 (qi_aload 0 (qi_gp 7 198 (qi_iload 3 (qi_iald 1198 (qi_ifeq (qi_aload 0 (qi_gp 7 195 (qi_iload 3 (qi_iald 1195 (qi_aload 0 (qi_gp 7 194 (qi_iload 1 (qi_iald 1194 (qi_icne (qi_iload 2 (qi_ifne (kc_Mo_key_75 Po) (qi_aload 0 (qi_gp 7 211 (qi_iload 1 (qi_iald 1211 (qi_ifle (kc_Mo_key_75 Po) (qi_aload 0 (qi_iload 1 (qi_ic (nI 10) (qi_callv 3 7 (0, 0) sp_Mo_alert (qi_ic (nI 266) (qi_iret (0, 0) Po))))))))))))) (qi_ic (-4) (qi_iret (0, 0) Po))))))))))) (qi_ic (-2) (qi_iret (0, 0) Po))))))))
def kc_Mo_key_0 (Po : Option Value → qa_M → Prop) : qa_K := (qi_iload 1 (qi_call 1 (0, 0) sp_Mo_isEnd (qi_ifne (qi_iload 2 (qi_ifeq (qi_ic (nI 2) (qi_iload 1 (qi_iadd (kc_Mo_key_20 Po)))) (qi_iload 1 (kc_Mo_key_20 Po)))) (qi_ic (-1) (qi_iret (0, 0) Po)))))
abbrev kS_Mo_key (l : Launch) (D : va_G) (E : Nat → ClassId) (B : Nat) (sc : qa_Z) (Po : Option Value → qa_M → Prop) (pc : Nat) (k : qa_K) : Prop := qa_S l "SealedRecordsModel" prog_8_method_6_code 4 (some .int) false D E B rm_Mo_key sc (qa_Qf D E B rm_Mo_key Po) pc k
theorem ks_Mo_key_117 (l : Launch) (D : va_G) (E : Nat → ClassId) (B : Nat) (sc : qa_Z) (Po : Option Value → qa_M → Prop) : kS_Mo_key l D E B sc Po 117 (kc_Mo_key_117 Po) := (qs_calls (ct_Mo_mix l sc) ww_305 (by decide) (by decide) ww_306 ww_307 ww_13 yd_Mo_mix kd_Mo_key_117 (qs_last (κ := 1196) rfl (by decide) kd_Mo_key_120 (qs_aload_n kd_Mo_key_121 rfl (fg_197 ww_281 kd_Mo_key_122 (qs_iload_n kd_Mo_key_125 rfl (qs_iconst kd_Mo_key_126 (by decide) (qs_iast (κ := 1197) rfl (by decide) kd_Mo_key_127 (qs_aload_n kd_Mo_key_128 rfl (fg_195 ww_279 kd_Mo_key_129 (qs_iload_n kd_Mo_key_132 rfl (qs_iald (κ := 1195) rfl (by decide) kd_Mo_key_133 (qs_iret kd_Mo_key_134))))))))))))
theorem ks_Mo_key_75 (l : Launch) (D : va_G) (E : Nat → ClassId) (B : Nat) (sc : qa_Z) (Po : Option Value → qa_M → Prop) : kS_Mo_key l D E B sc Po 75 (kc_Mo_key_75 Po) := (qs_aload_n kd_Mo_key_75 rfl (fg_195 ww_279 kd_Mo_key_76 (qs_iload_n kd_Mo_key_79 rfl (qs_aload_n kd_Mo_key_80 rfl (fg_194 ww_278 kd_Mo_key_81 (qs_iload_n kd_Mo_key_84 rfl (qs_iald (κ := 1194) rfl (by decide) kd_Mo_key_85 (qs_iast (κ := 1195) rfl (by decide) kd_Mo_key_86 (qs_aload_n kd_Mo_key_87 rfl (fg_196 ww_280 kd_Mo_key_88 (qs_iload_n kd_Mo_key_91 rfl (qs_aload_n kd_Mo_key_92 rfl (fg_193 ww_277 kd_Mo_key_93 (qs_iload_n kd_Mo_key_96 rfl (qs_lald (κ := 1193) rfl (by decide) kd_Mo_key_97 (qs_iload_n kd_Mo_key_98 rfl (qs_ifeq (tgt := 111) kd_Mo_key_99 (by decide) (qs_ldc2 ww_308 kd_Mo_key_111 (qs_iload_n kd_Mo_key_114 rfl (qs_i2l kd_Mo_key_115 (qs_lsub kd_Mo_key_116 (ks_Mo_key_117 l D E B sc Po))))) (qs_ldc2 ww_309 kd_Mo_key_102 (qs_iload_n kd_Mo_key_105 rfl (qs_i2l kd_Mo_key_106 (qs_ladd kd_Mo_key_107 (qs_goto (tgt := 117) kd_Mo_key_108 (by decide) (ks_Mo_key_117 l D E B sc Po)))))))))))))))))))))))
theorem ks_Mo_key_20 (l : Launch) (D : va_G) (E : Nat → ClassId) (B : Nat) (sc : qa_Z) (Po : Option Value → qa_M → Prop) : kS_Mo_key l D E B sc Po 20 (kc_Mo_key_20 Po) := (qs_istore_n kd_Mo_key_20 rfl (by decide) (qs_aload_n kd_Mo_key_21 rfl (fg_198 ww_283 kd_Mo_key_22 (qs_iload_n kd_Mo_key_25 rfl (qs_zald (κ := 1198) rfl (by decide) kd_Mo_key_26 (qs_ifeq (tgt := 33) kd_Mo_key_27 (by decide) (qs_aload_n kd_Mo_key_33 rfl (fg_195 ww_279 kd_Mo_key_34 (qs_iload_n kd_Mo_key_37 rfl (qs_iald (κ := 1195) rfl (by decide) kd_Mo_key_38 (qs_aload_n kd_Mo_key_39 rfl (fg_194 ww_278 kd_Mo_key_40 (qs_iload_n kd_Mo_key_43 rfl (qs_iald (κ := 1194) rfl (by decide) kd_Mo_key_44 (qs_icne (tgt := 51) kd_Mo_key_45 (by decide) (qs_iload_n kd_Mo_key_51 rfl (qs_ifne (tgt := 75) kd_Mo_key_52 (by decide) (ks_Mo_key_75 l D E B sc Po) (qs_aload_n kd_Mo_key_55 rfl (fg_211 ww_296 kd_Mo_key_56 (qs_iload_n kd_Mo_key_59 rfl (qs_iald (κ := 1211) rfl (by decide) kd_Mo_key_60 (qs_ifle (tgt := 75) kd_Mo_key_61 (by decide) (ks_Mo_key_75 l D E B sc Po) (qs_aload_n kd_Mo_key_64 rfl (qs_iload_n kd_Mo_key_65 rfl (qs_bipush kd_Mo_key_66 (by decide) (qs_callv (ci := 6) (ct_Mo_alert l sc) ww_310 (by decide) rfl (by decide) ww_311 ww_312 ww_313 ww_13 yd_Mo_alert kd_Mo_key_68 (qs_sipush kd_Mo_key_71 (by decide) (qs_iret kd_Mo_key_74))))))))))))) (qs_bipush kd_Mo_key_48 (by decide) (qs_iret kd_Mo_key_50))))))))))) (qs_bipush kd_Mo_key_30 (by decide) (qs_iret kd_Mo_key_32))))))))
theorem ks_Mo_key_0 (l : Launch) (D : va_G) (E : Nat → ClassId) (B : Nat) (sc : qa_Z) (Po : Option Value → qa_M → Prop) : kS_Mo_key l D E B sc Po 0 (kc_Mo_key_0 Po) := (qs_iload_n kd_Mo_key_0 rfl (qs_calls (ct_Mo_isEnd l sc) ww_301 (by decide) (by decide) ww_302 ww_303 ww_13 yd_Mo_isEnd kd_Mo_key_1 (qs_ifne (tgt := 9) kd_Mo_key_4 (by decide) (qs_iload_n kd_Mo_key_9 rfl (qs_ifeq (tgt := 17) kd_Mo_key_10 (by decide) (qs_iconst kd_Mo_key_17 (by decide) (qs_iload_n kd_Mo_key_18 rfl (qs_iadd kd_Mo_key_19 (ks_Mo_key_20 l D E B sc Po)))) (qs_iload_n kd_Mo_key_13 rfl (qs_goto (tgt := 20) kd_Mo_key_14 (by decide) (ks_Mo_key_20 l D E B sc Po))))) (qs_iconst kd_Mo_key_7 (by decide) (qs_iret kd_Mo_key_8)))))
def sp_Mo_key : qa_sp := fun args M Po => match args with
  | [.ref a0, .int a1, .int a2] => kc_Mo_key_0 Po (0, 0) [some (.ref a0), some (.int a1), some (.int a2), none] [] M
  | _ => False
theorem ct_Mo_key (l : Launch) (sc : qa_Z) : qa_T l ym_Mo_key (Cond.code ym_Mo_key prog_8_method_6_code 4 (some .int) :: q_W0) rm_Mo_key sc (sp_Mo_key) := by
  intro D E B args M Po h
  unfold sp_Mo_key at h
  split at h
  · exact qa_ct (ini := false) (by decide) (by decide) (Nat.le_of_ble_eq_true rfl) (qa_lvok rfl) (ks_Mo_key_0 l D E B sc Po) h
  · exact h.elim
theorem kd_Mo_change_0 : decode prog_8_method_8_code 0 = .ok (.aload_n 0, 1) := by decide +kernel
theorem kd_Mo_change_1 : decode prog_8_method_8_code 1 = .ok (.getfield 20, 3) := by decide +kernel
theorem kd_Mo_change_4 : decode prog_8_method_8_code 4 = .ok (.iload_n 1, 1) := by decide +kernel
theorem kd_Mo_change_5 : decode prog_8_method_8_code 5 = .ok (.aload_n 0, 1) := by decide +kernel
theorem kd_Mo_change_6 : decode prog_8_method_8_code 6 = .ok (.getfield 20, 3) := by decide +kernel
theorem kd_Mo_change_9 : decode prog_8_method_8_code 9 = .ok (.iload_n 1, 1) := by decide +kernel
theorem kd_Mo_change_10 : decode prog_8_method_8_code 10 = .ok (.laload, 1) := by decide +kernel
theorem kd_Mo_change_11 : decode prog_8_method_8_code 11 = .ok (.ldc2_w 101, 3) := by decide +kernel
theorem kd_Mo_change_14 : decode prog_8_method_8_code 14 = .ok (.invokestatic 89, 3) := by decide +kernel
theorem kd_Mo_change_17 : decode prog_8_method_8_code 17 = .ok (.lastore, 1) := by decide +kernel
theorem kd_Mo_change_18 : decode prog_8_method_8_code 18 = .ok (.aload_n 0, 1) := by decide +kernel
theorem kd_Mo_change_19 : decode prog_8_method_8_code 19 = .ok (.getfield 23, 3) := by decide +kernel
theorem kd_Mo_change_22 : decode prog_8_method_8_code 22 = .ok (.iload_n 1, 1) := by decide +kernel
theorem kd_Mo_change_23 : decode prog_8_method_8_code 23 = .ok (.iconst 0, 1) := by decide +kernel
theorem kd_Mo_change_24 : decode prog_8_method_8_code 24 = .ok (.iastore, 1) := by decide +kernel
theorem kd_Mo_change_25 : decode prog_8_method_8_code 25 = .ok (.return_, 1) := by decide +kernel
def kc_Mo_change_0 (Po : Option Value → qa_M → Prop) : qa_K := (qi_aload 0 (qi_gp 7 196 (qi_iload 1 (qi_aload 0 (qi_gp 7 196 (qi_iload 1 (qi_lald 1196 (qi_lc 6 (qi_call 2 (0, 0) sp_Mo_mix (qi_last 1196 (qi_aload 0 (qi_gp 7 197 (qi_iload 1 (qi_ic (nI 0) (qi_iast 1197 (qi_vret (0, 0) Po))))))))))))))))
abbrev kS_Mo_change (l : Launch) (D : va_G) (E : Nat → ClassId) (B : Nat) (sc : qa_Z) (Po : Option Value → qa_M → Prop) (pc : Nat) (k : qa_K) : Prop := qa_S l "SealedRecordsModel" prog_8_method_8_code 2 none false D E B rm_Mo_change sc (qa_Qf D E B rm_Mo_change Po) pc k
theorem ks_Mo_change_0 (l : Launch) (D : va_G) (E : Nat → ClassId) (B : Nat) (sc : qa_Z) (Po : Option Value → qa_M → Prop) : kS_Mo_change l D E B sc Po 0 (kc_Mo_change_0 Po) := (qs_aload_n kd_Mo_change_0 rfl (fg_196 ww_280 kd_Mo_change_1 (qs_iload_n kd_Mo_change_4 rfl (qs_aload_n kd_Mo_change_5 rfl (fg_196 ww_280 kd_Mo_change_6 (qs_iload_n kd_Mo_change_9 rfl (qs_lald (κ := 1196) rfl (by decide) kd_Mo_change_10 (qs_ldc2 ww_314 kd_Mo_change_11 (qs_calls (ct_Mo_mix l sc) ww_305 (by decide) (by decide) ww_306 ww_307 ww_13 yd_Mo_mix kd_Mo_change_14 (qs_last (κ := 1196) rfl (by decide) kd_Mo_change_17 (qs_aload_n kd_Mo_change_18 rfl (fg_197 ww_281 kd_Mo_change_19 (qs_iload_n kd_Mo_change_22 rfl (qs_iconst kd_Mo_change_23 (by decide) (qs_iast (κ := 1197) rfl (by decide) kd_Mo_change_24 (qs_vret kd_Mo_change_25))))))))))))))))
def sp_Mo_change : qa_sp := fun args M Po => match args with
  | [.ref a0, .int a1] => kc_Mo_change_0 Po (0, 0) [some (.ref a0), some (.int a1)] [] M
  | _ => False
theorem ct_Mo_change (l : Launch) (sc : qa_Z) : qa_T l ym_Mo_change (Cond.code ym_Mo_change prog_8_method_8_code 2 none :: q_W0) rm_Mo_change sc (sp_Mo_change) := by
  intro D E B args M Po h
  unfold sp_Mo_change at h
  split at h
  · exact qa_ct (ini := false) (by decide) (by decide) (Nat.le_of_ble_eq_true rfl) (qa_lvok rfl) (ks_Mo_change_0 l D E B sc Po) h
  · exact h.elim
theorem kd_Mo_advance_0 : decode prog_8_method_9_code 0 = .ok (.iload_n 1, 1) := by decide +kernel
theorem kd_Mo_advance_1 : decode prog_8_method_9_code 1 = .ok (.invokestatic 83, 3) := by decide +kernel
theorem kd_Mo_advance_4 : decode prog_8_method_9_code 4 = .ok (.ifCond .eq 22, 3) := by decide +kernel
theorem kd_Mo_advance_7 : decode prog_8_method_9_code 7 = .ok (.aload_n 0, 1) := by decide +kernel
theorem kd_Mo_advance_8 : decode prog_8_method_9_code 8 = .ok (.getfield 17, 3) := by decide +kernel
theorem kd_Mo_advance_11 : decode prog_8_method_9_code 11 = .ok (.iload_n 1, 1) := by decide +kernel
theorem kd_Mo_advance_12 : decode prog_8_method_9_code 12 = .ok (.iaload, 1) := by decide +kernel
theorem kd_Mo_advance_13 : decode prog_8_method_9_code 13 = .ok (.iconst 2, 1) := by decide +kernel
theorem kd_Mo_advance_14 : decode prog_8_method_9_code 14 = .ok (.if_icmp .ne 12, 3) := by decide +kernel
theorem kd_Mo_advance_17 : decode prog_8_method_9_code 17 = .ok (.aload_n 0, 1) := by decide +kernel
theorem kd_Mo_advance_18 : decode prog_8_method_9_code 18 = .ok (.getfield 26, 3) := by decide +kernel
theorem kd_Mo_advance_21 : decode prog_8_method_9_code 21 = .ok (.iload_n 1, 1) := by decide +kernel
theorem kd_Mo_advance_22 : decode prog_8_method_9_code 22 = .ok (.baload, 1) := by decide +kernel
theorem kd_Mo_advance_23 : decode prog_8_method_9_code 23 = .ok (.ifCond .eq 5, 3) := by decide +kernel
theorem kd_Mo_advance_26 : decode prog_8_method_9_code 26 = .ok (.iconst 0, 1) := by decide +kernel
theorem kd_Mo_advance_27 : decode prog_8_method_9_code 27 = .ok (.ireturn, 1) := by decide +kernel
theorem kd_Mo_advance_28 : decode prog_8_method_9_code 28 = .ok (.aload_n 0, 1) := by decide +kernel
theorem kd_Mo_advance_29 : decode prog_8_method_9_code 29 = .ok (.iload_n 1, 1) := by decide +kernel
theorem kd_Mo_advance_30 : decode prog_8_method_9_code 30 = .ok (.invokevirtual 103, 3) := by decide +kernel
theorem kd_Mo_advance_33 : decode prog_8_method_9_code 33 = .ok (.aload_n 0, 1) := by decide +kernel
theorem kd_Mo_advance_34 : decode prog_8_method_9_code 34 = .ok (.getfield 33, 3) := by decide +kernel
theorem kd_Mo_advance_37 : decode prog_8_method_9_code 37 = .ok (.iload_n 1, 1) := by decide +kernel
theorem kd_Mo_advance_38 : decode prog_8_method_9_code 38 = .ok (.iconst 0, 1) := by decide +kernel
theorem kd_Mo_advance_39 : decode prog_8_method_9_code 39 = .ok (.bastore, 1) := by decide +kernel
theorem kd_Mo_advance_40 : decode prog_8_method_9_code 40 = .ok (.iconst 1, 1) := by decide +kernel
theorem kd_Mo_advance_41 : decode prog_8_method_9_code 41 = .ok (.ireturn, 1) := by decide +kernel
def kc_Mo_advance_26 (Po : Option Value → qa_M → Prop) : qa_K := (qi_ic (nI 0) (qi_zret (0, 0) Po))
def kc_Mo_advance_0 (Po : Option Value → qa_M → Prop) : qa_K := (qi_iload 1 (qi_call 1 (0, 0) sp_Mo_isEnd (qi_ifeq (kc_Mo_advance_26 Po) (qi_aload 0 (qi_gp 7 195 (qi_iload 1 (qi_iald 1195 (qi_ic (nI 2) (qi_icne (kc_Mo_advance_26 Po) (qi_aload 0 (qi_gp 7 198 (qi_iload 1 (qi_iald 1198 (qi_ifeq (qi_aload 0 (qi_iload 1 (qi_callv 2 7 (0, 0) sp_Mo_change (qi_aload 0 (qi_gp 7 200 (qi_iload 1 (qi_ic (nI 0) (qi_zast 1200 (qi_ic (nI 1) (qi_zret (0, 0) Po)))))))))) (kc_Mo_advance_26 Po)))))))))))))))
abbrev kS_Mo_advance (l : Launch) (D : va_G) (E : Nat → ClassId) (B : Nat) (sc : qa_Z) (Po : Option Value → qa_M → Prop) (pc : Nat) (k : qa_K) : Prop := qa_S l "SealedRecordsModel" prog_8_method_9_code 2 (some .boolean) false D E B rm_Mo_advance sc (qa_Qf D E B rm_Mo_advance Po) pc k
theorem ks_Mo_advance_26 (l : Launch) (D : va_G) (E : Nat → ClassId) (B : Nat) (sc : qa_Z) (Po : Option Value → qa_M → Prop) : kS_Mo_advance l D E B sc Po 26 (kc_Mo_advance_26 Po) := (qs_iconst kd_Mo_advance_26 (by decide) (qs_zret kd_Mo_advance_27))
theorem ks_Mo_advance_0 (l : Launch) (D : va_G) (E : Nat → ClassId) (B : Nat) (sc : qa_Z) (Po : Option Value → qa_M → Prop) : kS_Mo_advance l D E B sc Po 0 (kc_Mo_advance_0 Po) := (qs_iload_n kd_Mo_advance_0 rfl (qs_calls (ct_Mo_isEnd l sc) ww_301 (by decide) (by decide) ww_302 ww_303 ww_13 yd_Mo_isEnd kd_Mo_advance_1 (qs_ifeq (tgt := 26) kd_Mo_advance_4 (by decide) (ks_Mo_advance_26 l D E B sc Po) (qs_aload_n kd_Mo_advance_7 rfl (fg_195 ww_279 kd_Mo_advance_8 (qs_iload_n kd_Mo_advance_11 rfl (qs_iald (κ := 1195) rfl (by decide) kd_Mo_advance_12 (qs_iconst kd_Mo_advance_13 (by decide) (qs_icne (tgt := 26) kd_Mo_advance_14 (by decide) (ks_Mo_advance_26 l D E B sc Po) (qs_aload_n kd_Mo_advance_17 rfl (fg_198 ww_283 kd_Mo_advance_18 (qs_iload_n kd_Mo_advance_21 rfl (qs_zald (κ := 1198) rfl (by decide) kd_Mo_advance_22 (qs_ifeq (tgt := 28) kd_Mo_advance_23 (by decide) (qs_aload_n kd_Mo_advance_28 rfl (qs_iload_n kd_Mo_advance_29 rfl (qs_callv (ci := 6) (ct_Mo_change l sc) ww_315 (by decide) rfl (by decide) ww_316 ww_317 ww_318 ww_13 yd_Mo_change kd_Mo_advance_30 (qs_aload_n kd_Mo_advance_33 rfl (fg_200 ww_285 kd_Mo_advance_34 (qs_iload_n kd_Mo_advance_37 rfl (qs_iconst kd_Mo_advance_38 (by decide) (qs_zast (κ := 1200) rfl (by decide) kd_Mo_advance_39 (qs_iconst kd_Mo_advance_40 (by decide) (qs_zret kd_Mo_advance_41)))))))))) (ks_Mo_advance_26 l D E B sc Po)))))))))))))))
def sp_Mo_advance : qa_sp := fun args M Po => match args with
  | [.ref a0, .int a1] => kc_Mo_advance_0 Po (0, 0) [some (.ref a0), some (.int a1)] [] M
  | _ => False
theorem ct_Mo_advance (l : Launch) (sc : qa_Z) : qa_T l ym_Mo_advance (Cond.code ym_Mo_advance prog_8_method_9_code 2 (some .boolean) :: q_W0) rm_Mo_advance sc (sp_Mo_advance) := by
  intro D E B args M Po h
  unfold sp_Mo_advance at h
  split at h
  · exact qa_ct (ini := false) (by decide) (by decide) (Nat.le_of_ble_eq_true rfl) (qa_lvok rfl) (ks_Mo_advance_0 l D E B sc Po) h
  · exact h.elim
theorem kd_Mo_write_0 : decode prog_8_method_10_code 0 = .ok (.iload_n 1, 1) := by decide +kernel
theorem kd_Mo_write_1 : decode prog_8_method_10_code 1 = .ok (.invokestatic 83, 3) := by decide +kernel
theorem kd_Mo_write_4 : decode prog_8_method_10_code 4 = .ok (.ifCond .eq 21, 3) := by decide +kernel
theorem kd_Mo_write_7 : decode prog_8_method_10_code 7 = .ok (.iload_n 2, 1) := by decide +kernel
theorem kd_Mo_write_8 : decode prog_8_method_10_code 8 = .ok (.invokestatic 107, 3) := by decide +kernel
theorem kd_Mo_write_11 : decode prog_8_method_10_code 11 = .ok (.ifCond .eq 14, 3) := by decide +kernel
theorem kd_Mo_write_14 : decode prog_8_method_10_code 14 = .ok (.aload_n 0, 1) := by decide +kernel
theorem kd_Mo_write_15 : decode prog_8_method_10_code 15 = .ok (.getfield 39, 3) := by decide +kernel
theorem kd_Mo_write_18 : decode prog_8_method_10_code 18 = .ok (.iload_n 1, 1) := by decide +kernel
theorem kd_Mo_write_19 : decode prog_8_method_10_code 19 = .ok (.iaload, 1) := by decide +kernel
theorem kd_Mo_write_20 : decode prog_8_method_10_code 20 = .ok (.bipush 16, 2) := by decide +kernel
theorem kd_Mo_write_22 : decode prog_8_method_10_code 22 = .ok (.if_icmp .ne 5, 3) := by decide +kernel
theorem kd_Mo_write_25 : decode prog_8_method_10_code 25 = .ok (.iconst 0, 1) := by decide +kernel
theorem kd_Mo_write_26 : decode prog_8_method_10_code 26 = .ok (.ireturn, 1) := by decide +kernel
theorem kd_Mo_write_27 : decode prog_8_method_10_code 27 = .ok (.aload_n 0, 1) := by decide +kernel
theorem kd_Mo_write_28 : decode prog_8_method_10_code 28 = .ok (.getfield 36, 3) := by decide +kernel
theorem kd_Mo_write_31 : decode prog_8_method_10_code 31 = .ok (.bipush 16, 2) := by decide +kernel
theorem kd_Mo_write_33 : decode prog_8_method_10_code 33 = .ok (.iload_n 1, 1) := by decide +kernel
theorem kd_Mo_write_34 : decode prog_8_method_10_code 34 = .ok (.imul, 1) := by decide +kernel
theorem kd_Mo_write_35 : decode prog_8_method_10_code 35 = .ok (.aload_n 0, 1) := by decide +kernel
theorem kd_Mo_write_36 : decode prog_8_method_10_code 36 = .ok (.getfield 39, 3) := by decide +kernel
theorem kd_Mo_write_39 : decode prog_8_method_10_code 39 = .ok (.iload_n 1, 1) := by decide +kernel
theorem kd_Mo_write_40 : decode prog_8_method_10_code 40 = .ok (.iaload, 1) := by decide +kernel
theorem kd_Mo_write_41 : decode prog_8_method_10_code 41 = .ok (.iadd, 1) := by decide +kernel
theorem kd_Mo_write_42 : decode prog_8_method_10_code 42 = .ok (.iload_n 2, 1) := by decide +kernel
theorem kd_Mo_write_43 : decode prog_8_method_10_code 43 = .ok (.iastore, 1) := by decide +kernel
theorem kd_Mo_write_44 : decode prog_8_method_10_code 44 = .ok (.aload_n 0, 1) := by decide +kernel
theorem kd_Mo_write_45 : decode prog_8_method_10_code 45 = .ok (.getfield 39, 3) := by decide +kernel
theorem kd_Mo_write_48 : decode prog_8_method_10_code 48 = .ok (.iload_n 1, 1) := by decide +kernel
theorem kd_Mo_write_49 : decode prog_8_method_10_code 49 = .ok (.dup2, 1) := by decide +kernel
theorem kd_Mo_write_50 : decode prog_8_method_10_code 50 = .ok (.iaload, 1) := by decide +kernel
theorem kd_Mo_write_51 : decode prog_8_method_10_code 51 = .ok (.iconst 1, 1) := by decide +kernel
theorem kd_Mo_write_52 : decode prog_8_method_10_code 52 = .ok (.iadd, 1) := by decide +kernel
theorem kd_Mo_write_53 : decode prog_8_method_10_code 53 = .ok (.iastore, 1) := by decide +kernel
theorem kd_Mo_write_54 : decode prog_8_method_10_code 54 = .ok (.iconst 1, 1) := by decide +kernel
theorem kd_Mo_write_55 : decode prog_8_method_10_code 55 = .ok (.ireturn, 1) := by decide +kernel
def kc_Mo_write_25 (Po : Option Value → qa_M → Prop) : qa_K := (qi_ic (nI 0) (qi_zret (0, 0) Po))
def kc_Mo_write_0 (Po : Option Value → qa_M → Prop) : qa_K := (qi_iload 1 (qi_call 1 (0, 0) sp_Mo_isEnd (qi_ifeq (kc_Mo_write_25 Po) (qi_iload 2 (qi_call 1 (0, 0) sp_Mo_isByte (qi_ifeq (kc_Mo_write_25 Po) (qi_aload 0 (qi_gp 7 202 (qi_iload 1 (qi_iald 1202 (qi_ic (nI 16) (qi_icne (qi_aload 0 (qi_gp 7 201 (qi_ic (nI 16) (qi_iload 1 (qi_imul (qi_aload 0 (qi_gp 7 202 (qi_iload 1 (qi_iald 1202 (qi_iadd (qi_iload 2 (qi_iast 1201 (qi_aload 0 (qi_gp 7 202 (qi_iload 1 (qi_dup2 (qi_iald 1202 (qi_ic (nI 1) (qi_iadd (qi_iast 1202 (qi_ic (nI 1) (qi_zret (0, 0) Po)))))))))))))))))))))) (kc_Mo_write_25 Po)))))))))))))
abbrev kS_Mo_write (l : Launch) (D : va_G) (E : Nat → ClassId) (B : Nat) (sc : qa_Z) (Po : Option Value → qa_M → Prop) (pc : Nat) (k : qa_K) : Prop := qa_S l "SealedRecordsModel" prog_8_method_10_code 3 (some .boolean) false D E B rm_Mo_write sc (qa_Qf D E B rm_Mo_write Po) pc k
theorem ks_Mo_write_25 (l : Launch) (D : va_G) (E : Nat → ClassId) (B : Nat) (sc : qa_Z) (Po : Option Value → qa_M → Prop) : kS_Mo_write l D E B sc Po 25 (kc_Mo_write_25 Po) := (qs_iconst kd_Mo_write_25 (by decide) (qs_zret kd_Mo_write_26))
theorem ks_Mo_write_0 (l : Launch) (D : va_G) (E : Nat → ClassId) (B : Nat) (sc : qa_Z) (Po : Option Value → qa_M → Prop) : kS_Mo_write l D E B sc Po 0 (kc_Mo_write_0 Po) := (qs_iload_n kd_Mo_write_0 rfl (qs_calls (ct_Mo_isEnd l sc) ww_301 (by decide) (by decide) ww_302 ww_303 ww_13 yd_Mo_isEnd kd_Mo_write_1 (qs_ifeq (tgt := 25) kd_Mo_write_4 (by decide) (ks_Mo_write_25 l D E B sc Po) (qs_iload_n kd_Mo_write_7 rfl (qs_calls (ct_Mo_isByte l sc) ww_319 (by decide) (by decide) ww_320 ww_321 ww_13 yd_Mo_isByte kd_Mo_write_8 (qs_ifeq (tgt := 25) kd_Mo_write_11 (by decide) (ks_Mo_write_25 l D E B sc Po) (qs_aload_n kd_Mo_write_14 rfl (fg_202 ww_287 kd_Mo_write_15 (qs_iload_n kd_Mo_write_18 rfl (qs_iald (κ := 1202) rfl (by decide) kd_Mo_write_19 (qs_bipush kd_Mo_write_20 (by decide) (qs_icne (tgt := 27) kd_Mo_write_22 (by decide) (qs_aload_n kd_Mo_write_27 rfl (fg_201 ww_286 kd_Mo_write_28 (qs_bipush kd_Mo_write_31 (by decide) (qs_iload_n kd_Mo_write_33 rfl (qs_imul kd_Mo_write_34 (qs_aload_n kd_Mo_write_35 rfl (fg_202 ww_287 kd_Mo_write_36 (qs_iload_n kd_Mo_write_39 rfl (qs_iald (κ := 1202) rfl (by decide) kd_Mo_write_40 (qs_iadd kd_Mo_write_41 (qs_iload_n kd_Mo_write_42 rfl (qs_iast (κ := 1201) rfl (by decide) kd_Mo_write_43 (qs_aload_n kd_Mo_write_44 rfl (fg_202 ww_287 kd_Mo_write_45 (qs_iload_n kd_Mo_write_48 rfl (qs_dup2 kd_Mo_write_49 (qs_iald (κ := 1202) rfl (by decide) kd_Mo_write_50 (qs_iconst kd_Mo_write_51 (by decide) (qs_iadd kd_Mo_write_52 (qs_iast (κ := 1202) rfl (by decide) kd_Mo_write_53 (qs_iconst kd_Mo_write_54 (by decide) (qs_zret kd_Mo_write_55)))))))))))))))))))))) (ks_Mo_write_25 l D E B sc Po)))))))))))))
def sp_Mo_write : qa_sp := fun args M Po => match args with
  | [.ref a0, .int a1, .int a2] => kc_Mo_write_0 Po (0, 0) [some (.ref a0), some (.int a1), some (.int a2)] [] M
  | _ => False
theorem ct_Mo_write (l : Launch) (sc : qa_Z) : qa_T l ym_Mo_write (Cond.code ym_Mo_write prog_8_method_10_code 3 (some .boolean) :: q_W0) rm_Mo_write sc (sp_Mo_write) := by
  intro D E B args M Po h
  unfold sp_Mo_write at h
  split at h
  · exact qa_ct (ini := false) (by decide) (by decide) (Nat.le_of_ble_eq_true rfl) (qa_lvok rfl) (ks_Mo_write_0 l D E B sc Po) h
  · exact h.elim
theorem kd_Mo_stream_0 : decode prog_8_method_11_code 0 = .ok (.aload_n 0, 1) := by decide +kernel
theorem kd_Mo_stream_1 : decode prog_8_method_11_code 1 = .ok (.getfield 20, 3) := by decide +kernel
theorem kd_Mo_stream_4 : decode prog_8_method_11_code 4 = .ok (.iload_n 1, 1) := by decide +kernel
theorem kd_Mo_stream_5 : decode prog_8_method_11_code 5 = .ok (.laload, 1) := by decide +kernel
theorem kd_Mo_stream_6 : decode prog_8_method_11_code 6 = .ok (.lconst 1, 1) := by decide +kernel
theorem kd_Mo_stream_7 : decode prog_8_method_11_code 7 = .ok (.invokestatic 89, 3) := by decide +kernel
theorem kd_Mo_stream_10 : decode prog_8_method_11_code 10 = .ok (.lstore_n 3, 1) := by decide +kernel
theorem kd_Mo_stream_11 : decode prog_8_method_11_code 11 = .ok (.lload_n 3, 1) := by decide +kernel
theorem kd_Mo_stream_12 : decode prog_8_method_11_code 12 = .ok (.aload_n 0, 1) := by decide +kernel
theorem kd_Mo_stream_13 : decode prog_8_method_11_code 13 = .ok (.getfield 23, 3) := by decide +kernel
theorem kd_Mo_stream_16 : decode prog_8_method_11_code 16 = .ok (.iload_n 1, 1) := by decide +kernel
theorem kd_Mo_stream_17 : decode prog_8_method_11_code 17 = .ok (.iaload, 1) := by decide +kernel
theorem kd_Mo_stream_18 : decode prog_8_method_11_code 18 = .ok (.i2l, 1) := by decide +kernel
theorem kd_Mo_stream_19 : decode prog_8_method_11_code 19 = .ok (.invokestatic 89, 3) := by decide +kernel
theorem kd_Mo_stream_22 : decode prog_8_method_11_code 22 = .ok (.lstore_n 3, 1) := by decide +kernel
theorem kd_Mo_stream_23 : decode prog_8_method_11_code 23 = .ok (.lload_n 3, 1) := by decide +kernel
theorem kd_Mo_stream_24 : decode prog_8_method_11_code 24 = .ok (.iload_n 2, 1) := by decide +kernel
theorem kd_Mo_stream_25 : decode prog_8_method_11_code 25 = .ok (.i2l, 1) := by decide +kernel
theorem kd_Mo_stream_26 : decode prog_8_method_11_code 26 = .ok (.invokestatic 89, 3) := by decide +kernel
theorem kd_Mo_stream_29 : decode prog_8_method_11_code 29 = .ok (.lstore_n 3, 1) := by decide +kernel
theorem kd_Mo_stream_30 : decode prog_8_method_11_code 30 = .ok (.lload_n 3, 1) := by decide +kernel
theorem kd_Mo_stream_31 : decode prog_8_method_11_code 31 = .ok (.bipush 40, 2) := by decide +kernel
theorem kd_Mo_stream_33 : decode prog_8_method_11_code 33 = .ok (.lushr, 1) := by decide +kernel
theorem kd_Mo_stream_34 : decode prog_8_method_11_code 34 = .ok (.ldc2_w 110, 3) := by decide +kernel
theorem kd_Mo_stream_37 : decode prog_8_method_11_code 37 = .ok (.land, 1) := by decide +kernel
theorem kd_Mo_stream_38 : decode prog_8_method_11_code 38 = .ok (.l2i, 1) := by decide +kernel
theorem kd_Mo_stream_39 : decode prog_8_method_11_code 39 = .ok (.ireturn, 1) := by decide +kernel
def kc_Mo_stream_0 (Po : Option Value → qa_M → Prop) : qa_K := (qi_aload 0 (qi_gp 7 196 (qi_iload 1 (qi_lald 1196 (qi_lc 1 (qi_call 2 (0, 0) sp_Mo_mix (qi_lstore 3 (qi_lload 3 (qi_aload 0 (qi_gp 7 197 (qi_iload 1 (qi_iald 1197 (qi_i2l (qi_call 2 (0, 0) sp_Mo_mix (qi_lstore 3 (qi_lload 3 (qi_iload 2 (qi_i2l (qi_call 2 (0, 0) sp_Mo_mix (qi_lstore 3 (qi_lload 3 (qi_ic (nI 40) (qi_lushr (qi_lc 255 (qi_land (qi_l2i (qi_iret (0, 0) Po)))))))))))))))))))))))))))
abbrev kS_Mo_stream (l : Launch) (D : va_G) (E : Nat → ClassId) (B : Nat) (sc : qa_Z) (Po : Option Value → qa_M → Prop) (pc : Nat) (k : qa_K) : Prop := qa_S l "SealedRecordsModel" prog_8_method_11_code 5 (some .int) false D E B rm_Mo_stream sc (qa_Qf D E B rm_Mo_stream Po) pc k
theorem ks_Mo_stream_0 (l : Launch) (D : va_G) (E : Nat → ClassId) (B : Nat) (sc : qa_Z) (Po : Option Value → qa_M → Prop) : kS_Mo_stream l D E B sc Po 0 (kc_Mo_stream_0 Po) := (qs_aload_n kd_Mo_stream_0 rfl (fg_196 ww_280 kd_Mo_stream_1 (qs_iload_n kd_Mo_stream_4 rfl (qs_lald (κ := 1196) rfl (by decide) kd_Mo_stream_5 (qs_lconst kd_Mo_stream_6 (by decide) (qs_calls (ct_Mo_mix l sc) ww_305 (by decide) (by decide) ww_306 ww_307 ww_13 yd_Mo_mix kd_Mo_stream_7 (qs_lstore_n kd_Mo_stream_10 rfl (by decide) (qs_lload_n kd_Mo_stream_11 rfl (qs_aload_n kd_Mo_stream_12 rfl (fg_197 ww_281 kd_Mo_stream_13 (qs_iload_n kd_Mo_stream_16 rfl (qs_iald (κ := 1197) rfl (by decide) kd_Mo_stream_17 (qs_i2l kd_Mo_stream_18 (qs_calls (ct_Mo_mix l sc) ww_305 (by decide) (by decide) ww_306 ww_307 ww_13 yd_Mo_mix kd_Mo_stream_19 (qs_lstore_n kd_Mo_stream_22 rfl (by decide) (qs_lload_n kd_Mo_stream_23 rfl (qs_iload_n kd_Mo_stream_24 rfl (qs_i2l kd_Mo_stream_25 (qs_calls (ct_Mo_mix l sc) ww_305 (by decide) (by decide) ww_306 ww_307 ww_13 yd_Mo_mix kd_Mo_stream_26 (qs_lstore_n kd_Mo_stream_29 rfl (by decide) (qs_lload_n kd_Mo_stream_30 rfl (qs_bipush kd_Mo_stream_31 (by decide) (qs_lushr kd_Mo_stream_33 (qs_ldc2 ww_322 kd_Mo_stream_34 (qs_land kd_Mo_stream_37 (qs_l2i kd_Mo_stream_38 (qs_iret kd_Mo_stream_39)))))))))))))))))))))))))))
def sp_Mo_stream : qa_sp := fun args M Po => match args with
  | [.ref a0, .int a1, .int a2] => kc_Mo_stream_0 Po (0, 0) [some (.ref a0), some (.int a1), some (.int a2), none, none] [] M
  | _ => False
theorem ct_Mo_stream (l : Launch) (sc : qa_Z) : qa_T l ym_Mo_stream (Cond.code ym_Mo_stream prog_8_method_11_code 5 (some .int) :: q_W0) rm_Mo_stream sc (sp_Mo_stream) := by
  intro D E B args M Po h
  unfold sp_Mo_stream at h
  split at h
  · exact qa_ct (ini := false) (by decide) (by decide) (Nat.le_of_ble_eq_true rfl) (qa_lvok rfl) (ks_Mo_stream_0 l D E B sc Po) h
  · exact h.elim
theorem kd_Mo_tag_0 : decode prog_8_method_12_code 0 = .ok (.aload_n 0, 1) := by decide +kernel
theorem kd_Mo_tag_1 : decode prog_8_method_12_code 1 = .ok (.getfield 20, 3) := by decide +kernel
theorem kd_Mo_tag_4 : decode prog_8_method_12_code 4 = .ok (.iload_n 1, 1) := by decide +kernel
theorem kd_Mo_tag_5 : decode prog_8_method_12_code 5 = .ok (.laload, 1) := by decide +kernel
theorem kd_Mo_tag_6 : decode prog_8_method_12_code 6 = .ok (.ldc2_w 112, 3) := by decide +kernel
theorem kd_Mo_tag_9 : decode prog_8_method_12_code 9 = .ok (.invokestatic 89, 3) := by decide +kernel
theorem kd_Mo_tag_12 : decode prog_8_method_12_code 12 = .ok (.lstore 4, 2) := by decide +kernel
theorem kd_Mo_tag_14 : decode prog_8_method_12_code 14 = .ok (.lload 4, 2) := by decide +kernel
theorem kd_Mo_tag_16 : decode prog_8_method_12_code 16 = .ok (.aload_n 0, 1) := by decide +kernel
theorem kd_Mo_tag_17 : decode prog_8_method_12_code 17 = .ok (.getfield 23, 3) := by decide +kernel
theorem kd_Mo_tag_20 : decode prog_8_method_12_code 20 = .ok (.iload_n 1, 1) := by decide +kernel
theorem kd_Mo_tag_21 : decode prog_8_method_12_code 21 = .ok (.iaload, 1) := by decide +kernel
theorem kd_Mo_tag_22 : decode prog_8_method_12_code 22 = .ok (.i2l, 1) := by decide +kernel
theorem kd_Mo_tag_23 : decode prog_8_method_12_code 23 = .ok (.invokestatic 89, 3) := by decide +kernel
theorem kd_Mo_tag_26 : decode prog_8_method_12_code 26 = .ok (.lstore 4, 2) := by decide +kernel
theorem kd_Mo_tag_28 : decode prog_8_method_12_code 28 = .ok (.lload 4, 2) := by decide +kernel
theorem kd_Mo_tag_30 : decode prog_8_method_12_code 30 = .ok (.iload_n 3, 1) := by decide +kernel
theorem kd_Mo_tag_31 : decode prog_8_method_12_code 31 = .ok (.i2l, 1) := by decide +kernel
theorem kd_Mo_tag_32 : decode prog_8_method_12_code 32 = .ok (.invokestatic 89, 3) := by decide +kernel
theorem kd_Mo_tag_35 : decode prog_8_method_12_code 35 = .ok (.lstore 4, 2) := by decide +kernel
theorem kd_Mo_tag_37 : decode prog_8_method_12_code 37 = .ok (.iconst 0, 1) := by decide +kernel
theorem kd_Mo_tag_38 : decode prog_8_method_12_code 38 = .ok (.istore 6, 2) := by decide +kernel
theorem kd_Mo_tag_40 : decode prog_8_method_12_code 40 = .ok (.iload 6, 2) := by decide +kernel
theorem kd_Mo_tag_42 : decode prog_8_method_12_code 42 = .ok (.iload_n 3, 1) := by decide +kernel
theorem kd_Mo_tag_43 : decode prog_8_method_12_code 43 = .ok (.if_icmp .ge 29, 3) := by decide +kernel
theorem kd_Mo_tag_46 : decode prog_8_method_12_code 46 = .ok (.lload 4, 2) := by decide +kernel
theorem kd_Mo_tag_48 : decode prog_8_method_12_code 48 = .ok (.aload_n 0, 1) := by decide +kernel
theorem kd_Mo_tag_49 : decode prog_8_method_12_code 49 = .ok (.getfield 51, 3) := by decide +kernel
theorem kd_Mo_tag_52 : decode prog_8_method_12_code 52 = .ok (.bipush 40, 2) := by decide +kernel
theorem kd_Mo_tag_54 : decode prog_8_method_12_code 54 = .ok (.iload_n 2, 1) := by decide +kernel
theorem kd_Mo_tag_55 : decode prog_8_method_12_code 55 = .ok (.imul, 1) := by decide +kernel
theorem kd_Mo_tag_56 : decode prog_8_method_12_code 56 = .ok (.iload 6, 2) := by decide +kernel
theorem kd_Mo_tag_58 : decode prog_8_method_12_code 58 = .ok (.iadd, 1) := by decide +kernel
theorem kd_Mo_tag_59 : decode prog_8_method_12_code 59 = .ok (.iaload, 1) := by decide +kernel
theorem kd_Mo_tag_60 : decode prog_8_method_12_code 60 = .ok (.i2l, 1) := by decide +kernel
theorem kd_Mo_tag_61 : decode prog_8_method_12_code 61 = .ok (.invokestatic 89, 3) := by decide +kernel
theorem kd_Mo_tag_64 : decode prog_8_method_12_code 64 = .ok (.lstore 4, 2) := by decide +kernel
theorem kd_Mo_tag_66 : decode prog_8_method_12_code 66 = .ok (.iinc 6 1, 3) := by decide +kernel
theorem kd_Mo_tag_69 : decode prog_8_method_12_code 69 = .ok (.goto (-29), 3) := by decide +kernel
theorem kd_Mo_tag_72 : decode prog_8_method_12_code 72 = .ok (.lload 4, 2) := by decide +kernel
theorem kd_Mo_tag_74 : decode prog_8_method_12_code 74 = .ok (.lreturn, 1) := by decide +kernel
def kb_Mo_tag_40 (Po : Option Value → qa_M → Prop) (k40 : qa_K) : qa_K := (qi_iload 6 (qi_iload 3 (qi_icge (qi_lload 4 (qi_lret (0, 0) Po)) (qi_lload 4 (qi_aload 0 (qi_gp 7 206 (qi_ic (nI 40) (qi_iload 2 (qi_imul (qi_iload 6 (qi_iadd (qi_iald 1206 (qi_i2l (qi_call 2 (0, 0) sp_Mo_mix (qi_lstore 4 (qi_iinc 6 (nI 1) k40))))))))))))))))
def kc_Mo_tag_40 (Po : Option Value → qa_M → Prop) : qa_K := qi_loop (kb_Mo_tag_40 Po)
def kc_Mo_tag_0 (Po : Option Value → qa_M → Prop) : qa_K := (qi_aload 0 (qi_gp 7 196 (qi_iload 1 (qi_lald 1196 (qi_lc 2 (qi_call 2 (0, 0) sp_Mo_mix (qi_lstore 4 (qi_lload 4 (qi_aload 0 (qi_gp 7 197 (qi_iload 1 (qi_iald 1197 (qi_i2l (qi_call 2 (0, 0) sp_Mo_mix (qi_lstore 4 (qi_lload 4 (qi_iload 3 (qi_i2l (qi_call 2 (0, 0) sp_Mo_mix (qi_lstore 4 (qi_ic (nI 0) (qi_istore 6 (kc_Mo_tag_40 Po)))))))))))))))))))))))
abbrev kS_Mo_tag (l : Launch) (D : va_G) (E : Nat → ClassId) (B : Nat) (sc : qa_Z) (Po : Option Value → qa_M → Prop) (pc : Nat) (k : qa_K) : Prop := qa_S l "SealedRecordsModel" prog_8_method_12_code 7 (some .long) false D E B rm_Mo_tag sc (qa_Qf D E B rm_Mo_tag Po) pc k
theorem kt_Mo_tag_40 (l : Launch) (D : va_G) (E : Nat → ClassId) (B : Nat) (sc : qa_Z) (Po : Option Value → qa_M → Prop) {k40 : qa_K} (hk40 : kS_Mo_tag l D E B sc Po 40 k40) : kS_Mo_tag l D E B sc Po 40 (kb_Mo_tag_40 Po k40) := (qs_iload kd_Mo_tag_40 (qs_iload_n kd_Mo_tag_42 rfl (qs_icge (tgt := 72) kd_Mo_tag_43 (by decide) (qs_lload kd_Mo_tag_72 (qs_lret kd_Mo_tag_74)) (qs_lload kd_Mo_tag_46 (qs_aload_n kd_Mo_tag_48 rfl (fg_206 ww_291 kd_Mo_tag_49 (qs_bipush kd_Mo_tag_52 (by decide) (qs_iload_n kd_Mo_tag_54 rfl (qs_imul kd_Mo_tag_55 (qs_iload kd_Mo_tag_56 (qs_iadd kd_Mo_tag_58 (qs_iald (κ := 1206) rfl (by decide) kd_Mo_tag_59 (qs_i2l kd_Mo_tag_60 (qs_calls (ct_Mo_mix l sc) ww_305 (by decide) (by decide) ww_306 ww_307 ww_13 yd_Mo_mix kd_Mo_tag_61 (qs_lstore kd_Mo_tag_64 (by decide) (qs_iinc kd_Mo_tag_66 (by decide) (by decide) (qs_goto (tgt := 40) kd_Mo_tag_69 (by decide) hk40)))))))))))))))))
theorem ks_Mo_tag_40 (l : Launch) (D : va_G) (E : Nat → ClassId) (B : Nat) (sc : qa_Z) (Po : Option Value → qa_M → Prop) : kS_Mo_tag l D E B sc Po 40 (kc_Mo_tag_40 Po) := qs_loop fun k40 hk40 => kt_Mo_tag_40 l D E B sc Po hk40
theorem ks_Mo_tag_0 (l : Launch) (D : va_G) (E : Nat → ClassId) (B : Nat) (sc : qa_Z) (Po : Option Value → qa_M → Prop) : kS_Mo_tag l D E B sc Po 0 (kc_Mo_tag_0 Po) := (qs_aload_n kd_Mo_tag_0 rfl (fg_196 ww_280 kd_Mo_tag_1 (qs_iload_n kd_Mo_tag_4 rfl (qs_lald (κ := 1196) rfl (by decide) kd_Mo_tag_5 (qs_ldc2 ww_323 kd_Mo_tag_6 (qs_calls (ct_Mo_mix l sc) ww_305 (by decide) (by decide) ww_306 ww_307 ww_13 yd_Mo_mix kd_Mo_tag_9 (qs_lstore kd_Mo_tag_12 (by decide) (qs_lload kd_Mo_tag_14 (qs_aload_n kd_Mo_tag_16 rfl (fg_197 ww_281 kd_Mo_tag_17 (qs_iload_n kd_Mo_tag_20 rfl (qs_iald (κ := 1197) rfl (by decide) kd_Mo_tag_21 (qs_i2l kd_Mo_tag_22 (qs_calls (ct_Mo_mix l sc) ww_305 (by decide) (by decide) ww_306 ww_307 ww_13 yd_Mo_mix kd_Mo_tag_23 (qs_lstore kd_Mo_tag_26 (by decide) (qs_lload kd_Mo_tag_28 (qs_iload_n kd_Mo_tag_30 rfl (qs_i2l kd_Mo_tag_31 (qs_calls (ct_Mo_mix l sc) ww_305 (by decide) (by decide) ww_306 ww_307 ww_13 yd_Mo_mix kd_Mo_tag_32 (qs_lstore kd_Mo_tag_35 (by decide) (qs_iconst kd_Mo_tag_37 (by decide) (qs_istore kd_Mo_tag_38 (by decide) (ks_Mo_tag_40 l D E B sc Po)))))))))))))))))))))))
def sp_Mo_tag : qa_sp := fun args M Po => match args with
  | [.ref a0, .int a1, .int a2, .int a3] => kc_Mo_tag_0 Po (0, 0) [some (.ref a0), some (.int a1), some (.int a2), some (.int a3), none, none, none] [] M
  | _ => False
theorem ct_Mo_tag (l : Launch) (sc : qa_Z) : qa_T l ym_Mo_tag (Cond.code ym_Mo_tag prog_8_method_12_code 7 (some .long) :: q_W0) rm_Mo_tag sc (sp_Mo_tag) := by
  intro D E B args M Po h
  unfold sp_Mo_tag at h
  split at h
  · exact qa_ct (ini := false) (by decide) (by decide) (Nat.le_of_ble_eq_true rfl) (qa_lvok rfl) (ks_Mo_tag_0 l D E B sc Po) h
  · exact h.elim
theorem kd_Mo_close_0 : decode prog_8_method_14_code 0 = .ok (.aload_n 0, 1) := by decide +kernel
theorem kd_Mo_close_1 : decode prog_8_method_14_code 1 = .ok (.getfield 48, 3) := by decide +kernel
theorem kd_Mo_close_4 : decode prog_8_method_14_code 4 = .ok (.iload_n 2, 1) := by decide +kernel
theorem kd_Mo_close_5 : decode prog_8_method_14_code 5 = .ok (.iaload, 1) := by decide +kernel
theorem kd_Mo_close_6 : decode prog_8_method_14_code 6 = .ok (.istore 5, 2) := by decide +kernel
theorem kd_Mo_close_8 : decode prog_8_method_14_code 8 = .ok (.iload 5, 2) := by decide +kernel
theorem kd_Mo_close_10 : decode prog_8_method_14_code 10 = .ok (.iconst 1, 1) := by decide +kernel
theorem kd_Mo_close_11 : decode prog_8_method_14_code 11 = .ok (.iadd, 1) := by decide +kernel
theorem kd_Mo_close_12 : decode prog_8_method_14_code 12 = .ok (.iload 4, 2) := by decide +kernel
theorem kd_Mo_close_14 : decode prog_8_method_14_code 14 = .ok (.iadd, 1) := by decide +kernel
theorem kd_Mo_close_15 : decode prog_8_method_14_code 15 = .ok (.istore 6, 2) := by decide +kernel
theorem kd_Mo_close_17 : decode prog_8_method_14_code 17 = .ok (.aload_n 0, 1) := by decide +kernel
theorem kd_Mo_close_18 : decode prog_8_method_14_code 18 = .ok (.getfield 51, 3) := by decide +kernel
theorem kd_Mo_close_21 : decode prog_8_method_14_code 21 = .ok (.bipush 40, 2) := by decide +kernel
theorem kd_Mo_close_23 : decode prog_8_method_14_code 23 = .ok (.iload_n 2, 1) := by decide +kernel
theorem kd_Mo_close_24 : decode prog_8_method_14_code 24 = .ok (.imul, 1) := by decide +kernel
theorem kd_Mo_close_25 : decode prog_8_method_14_code 25 = .ok (.iload 5, 2) := by decide +kernel
theorem kd_Mo_close_27 : decode prog_8_method_14_code 27 = .ok (.iadd, 1) := by decide +kernel
theorem kd_Mo_close_28 : decode prog_8_method_14_code 28 = .ok (.iload_n 3, 1) := by decide +kernel
theorem kd_Mo_close_29 : decode prog_8_method_14_code 29 = .ok (.iastore, 1) := by decide +kernel
theorem kd_Mo_close_30 : decode prog_8_method_14_code 30 = .ok (.iload 5, 2) := by decide +kernel
theorem kd_Mo_close_32 : decode prog_8_method_14_code 32 = .ok (.iconst 1, 1) := by decide +kernel
theorem kd_Mo_close_33 : decode prog_8_method_14_code 33 = .ok (.iadd, 1) := by decide +kernel
theorem kd_Mo_close_34 : decode prog_8_method_14_code 34 = .ok (.istore 7, 2) := by decide +kernel
theorem kd_Mo_close_36 : decode prog_8_method_14_code 36 = .ok (.iload 7, 2) := by decide +kernel
theorem kd_Mo_close_38 : decode prog_8_method_14_code 38 = .ok (.iload 6, 2) := by decide +kernel
theorem kd_Mo_close_40 : decode prog_8_method_14_code 40 = .ok (.if_icmp .ge 22, 3) := by decide +kernel
theorem kd_Mo_close_43 : decode prog_8_method_14_code 43 = .ok (.aload_n 0, 1) := by decide +kernel
theorem kd_Mo_close_44 : decode prog_8_method_14_code 44 = .ok (.getfield 51, 3) := by decide +kernel
theorem kd_Mo_close_47 : decode prog_8_method_14_code 47 = .ok (.bipush 40, 2) := by decide +kernel
theorem kd_Mo_close_49 : decode prog_8_method_14_code 49 = .ok (.iload_n 2, 1) := by decide +kernel
theorem kd_Mo_close_50 : decode prog_8_method_14_code 50 = .ok (.imul, 1) := by decide +kernel
theorem kd_Mo_close_51 : decode prog_8_method_14_code 51 = .ok (.iload 7, 2) := by decide +kernel
theorem kd_Mo_close_53 : decode prog_8_method_14_code 53 = .ok (.iadd, 1) := by decide +kernel
theorem kd_Mo_close_54 : decode prog_8_method_14_code 54 = .ok (.iconst 0, 1) := by decide +kernel
theorem kd_Mo_close_55 : decode prog_8_method_14_code 55 = .ok (.iastore, 1) := by decide +kernel
theorem kd_Mo_close_56 : decode prog_8_method_14_code 56 = .ok (.iinc 7 1, 3) := by decide +kernel
theorem kd_Mo_close_59 : decode prog_8_method_14_code 59 = .ok (.goto (-23), 3) := by decide +kernel
theorem kd_Mo_close_62 : decode prog_8_method_14_code 62 = .ok (.iconst 0, 1) := by decide +kernel
theorem kd_Mo_close_63 : decode prog_8_method_14_code 63 = .ok (.istore 7, 2) := by decide +kernel
theorem kd_Mo_close_65 : decode prog_8_method_14_code 65 = .ok (.iload 7, 2) := by decide +kernel
theorem kd_Mo_close_67 : decode prog_8_method_14_code 67 = .ok (.iload 6, 2) := by decide +kernel
theorem kd_Mo_close_69 : decode prog_8_method_14_code 69 = .ok (.if_icmp .ge 31, 3) := by decide +kernel
theorem kd_Mo_close_72 : decode prog_8_method_14_code 72 = .ok (.aload_n 0, 1) := by decide +kernel
theorem kd_Mo_close_73 : decode prog_8_method_14_code 73 = .ok (.getfield 51, 3) := by decide +kernel
theorem kd_Mo_close_76 : decode prog_8_method_14_code 76 = .ok (.bipush 40, 2) := by decide +kernel
theorem kd_Mo_close_78 : decode prog_8_method_14_code 78 = .ok (.iload_n 2, 1) := by decide +kernel
theorem kd_Mo_close_79 : decode prog_8_method_14_code 79 = .ok (.imul, 1) := by decide +kernel
theorem kd_Mo_close_80 : decode prog_8_method_14_code 80 = .ok (.iload 7, 2) := by decide +kernel
theorem kd_Mo_close_82 : decode prog_8_method_14_code 82 = .ok (.iadd, 1) := by decide +kernel
theorem kd_Mo_close_83 : decode prog_8_method_14_code 83 = .ok (.dup2, 1) := by decide +kernel
theorem kd_Mo_close_84 : decode prog_8_method_14_code 84 = .ok (.iaload, 1) := by decide +kernel
theorem kd_Mo_close_85 : decode prog_8_method_14_code 85 = .ok (.aload_n 0, 1) := by decide +kernel
theorem kd_Mo_close_86 : decode prog_8_method_14_code 86 = .ok (.iload_n 1, 1) := by decide +kernel
theorem kd_Mo_close_87 : decode prog_8_method_14_code 87 = .ok (.iload 7, 2) := by decide +kernel
theorem kd_Mo_close_89 : decode prog_8_method_14_code 89 = .ok (.invokevirtual 118, 3) := by decide +kernel
theorem kd_Mo_close_92 : decode prog_8_method_14_code 92 = .ok (.ixor, 1) := by decide +kernel
theorem kd_Mo_close_93 : decode prog_8_method_14_code 93 = .ok (.iastore, 1) := by decide +kernel
theorem kd_Mo_close_94 : decode prog_8_method_14_code 94 = .ok (.iinc 7 1, 3) := by decide +kernel
theorem kd_Mo_close_97 : decode prog_8_method_14_code 97 = .ok (.goto (-32), 3) := by decide +kernel
theorem kd_Mo_close_100 : decode prog_8_method_14_code 100 = .ok (.aload_n 0, 1) := by decide +kernel
theorem kd_Mo_close_101 : decode prog_8_method_14_code 101 = .ok (.iload_n 1, 1) := by decide +kernel
theorem kd_Mo_close_102 : decode prog_8_method_14_code 102 = .ok (.iload_n 2, 1) := by decide +kernel
theorem kd_Mo_close_103 : decode prog_8_method_14_code 103 = .ok (.iload 6, 2) := by decide +kernel
theorem kd_Mo_close_105 : decode prog_8_method_14_code 105 = .ok (.invokevirtual 122, 3) := by decide +kernel
theorem kd_Mo_close_108 : decode prog_8_method_14_code 108 = .ok (.lstore 7, 2) := by decide +kernel
theorem kd_Mo_close_110 : decode prog_8_method_14_code 110 = .ok (.iconst 0, 1) := by decide +kernel
theorem kd_Mo_close_111 : decode prog_8_method_14_code 111 = .ok (.istore 9, 2) := by decide +kernel
theorem kd_Mo_close_113 : decode prog_8_method_14_code 113 = .ok (.iload 9, 2) := by decide +kernel
theorem kd_Mo_close_115 : decode prog_8_method_14_code 115 = .ok (.bipush 8, 2) := by decide +kernel
theorem kd_Mo_close_117 : decode prog_8_method_14_code 117 = .ok (.if_icmp .ge 40, 3) := by decide +kernel
theorem kd_Mo_close_120 : decode prog_8_method_14_code 120 = .ok (.aload_n 0, 1) := by decide +kernel
theorem kd_Mo_close_121 : decode prog_8_method_14_code 121 = .ok (.getfield 51, 3) := by decide +kernel
theorem kd_Mo_close_124 : decode prog_8_method_14_code 124 = .ok (.bipush 40, 2) := by decide +kernel
theorem kd_Mo_close_126 : decode prog_8_method_14_code 126 = .ok (.iload_n 2, 1) := by decide +kernel
theorem kd_Mo_close_127 : decode prog_8_method_14_code 127 = .ok (.imul, 1) := by decide +kernel
theorem kd_Mo_close_128 : decode prog_8_method_14_code 128 = .ok (.iload 6, 2) := by decide +kernel
theorem kd_Mo_close_130 : decode prog_8_method_14_code 130 = .ok (.iadd, 1) := by decide +kernel
theorem kd_Mo_close_131 : decode prog_8_method_14_code 131 = .ok (.iload 9, 2) := by decide +kernel
theorem kd_Mo_close_133 : decode prog_8_method_14_code 133 = .ok (.iadd, 1) := by decide +kernel
theorem kd_Mo_close_134 : decode prog_8_method_14_code 134 = .ok (.lload 7, 2) := by decide +kernel
theorem kd_Mo_close_136 : decode prog_8_method_14_code 136 = .ok (.bipush 56, 2) := by decide +kernel
theorem kd_Mo_close_138 : decode prog_8_method_14_code 138 = .ok (.bipush 8, 2) := by decide +kernel
theorem kd_Mo_close_140 : decode prog_8_method_14_code 140 = .ok (.iload 9, 2) := by decide +kernel
theorem kd_Mo_close_142 : decode prog_8_method_14_code 142 = .ok (.imul, 1) := by decide +kernel
theorem kd_Mo_close_143 : decode prog_8_method_14_code 143 = .ok (.isub, 1) := by decide +kernel
theorem kd_Mo_close_144 : decode prog_8_method_14_code 144 = .ok (.lushr, 1) := by decide +kernel
theorem kd_Mo_close_145 : decode prog_8_method_14_code 145 = .ok (.ldc2_w 110, 3) := by decide +kernel
theorem kd_Mo_close_148 : decode prog_8_method_14_code 148 = .ok (.land, 1) := by decide +kernel
theorem kd_Mo_close_149 : decode prog_8_method_14_code 149 = .ok (.l2i, 1) := by decide +kernel
theorem kd_Mo_close_150 : decode prog_8_method_14_code 150 = .ok (.iastore, 1) := by decide +kernel
theorem kd_Mo_close_151 : decode prog_8_method_14_code 151 = .ok (.iinc 9 1, 3) := by decide +kernel
theorem kd_Mo_close_154 : decode prog_8_method_14_code 154 = .ok (.goto (-41), 3) := by decide +kernel
theorem kd_Mo_close_157 : decode prog_8_method_14_code 157 = .ok (.aload_n 0, 1) := by decide +kernel
theorem kd_Mo_close_158 : decode prog_8_method_14_code 158 = .ok (.getfield 45, 3) := by decide +kernel
theorem kd_Mo_close_161 : decode prog_8_method_14_code 161 = .ok (.iload_n 2, 1) := by decide +kernel
theorem kd_Mo_close_162 : decode prog_8_method_14_code 162 = .ok (.bipush 23, 2) := by decide +kernel
theorem kd_Mo_close_164 : decode prog_8_method_14_code 164 = .ok (.iastore, 1) := by decide +kernel
theorem kd_Mo_close_165 : decode prog_8_method_14_code 165 = .ok (.aload_n 0, 1) := by decide +kernel
theorem kd_Mo_close_166 : decode prog_8_method_14_code 166 = .ok (.getfield 48, 3) := by decide +kernel
theorem kd_Mo_close_169 : decode prog_8_method_14_code 169 = .ok (.iload_n 2, 1) := by decide +kernel
theorem kd_Mo_close_170 : decode prog_8_method_14_code 170 = .ok (.iload 6, 2) := by decide +kernel
theorem kd_Mo_close_172 : decode prog_8_method_14_code 172 = .ok (.bipush 8, 2) := by decide +kernel
theorem kd_Mo_close_174 : decode prog_8_method_14_code 174 = .ok (.iadd, 1) := by decide +kernel
theorem kd_Mo_close_175 : decode prog_8_method_14_code 175 = .ok (.iastore, 1) := by decide +kernel
theorem kd_Mo_close_176 : decode prog_8_method_14_code 176 = .ok (.return_, 1) := by decide +kernel
def kb_Mo_close_113 (Po : Option Value → qa_M → Prop) (k113 : qa_K) : qa_K := (qi_iload 9 (qi_ic (nI 8) (qi_icge (qi_aload 0 (qi_gp 7 204 (qi_iload 2 (qi_ic (nI 23) (qi_iast 1204 (qi_aload 0 (qi_gp 7 205 (qi_iload 2 (qi_iload 6 (qi_ic (nI 8) (qi_iadd (qi_iast 1205 (qi_vret (0, 0) Po))))))))))))) (qi_aload 0 (qi_gp 7 206 (qi_ic (nI 40) (qi_iload 2 (qi_imul (qi_iload 6 (qi_iadd (qi_iload 9 (qi_iadd (qi_lload 7 (qi_ic (nI 56) (qi_ic (nI 8) (qi_iload 9 (qi_imul (qi_isub (qi_lushr (qi_lc 255 (qi_land (qi_l2i (qi_iast 1206 (qi_iinc 9 (nI 1) k113))))))))))))))))))))))))
def kc_Mo_close_113 (Po : Option Value → qa_M → Prop) : qa_K := qi_loop (kb_Mo_close_113 Po)
def kb_Mo_close_65 (Po : Option Value → qa_M → Prop) (k65 : qa_K) : qa_K := (qi_iload 7 (qi_iload 6 (qi_icge (qi_aload 0 (qi_iload 1 (qi_iload 2 (qi_iload 6 (qi_callv 4 7 (0, 0) sp_Mo_tag (qi_lstore 7 (qi_ic (nI 0) (qi_istore 9 (kc_Mo_close_113 Po))))))))) (qi_aload 0 (qi_gp 7 206 (qi_ic (nI 40) (qi_iload 2 (qi_imul (qi_iload 7 (qi_iadd (qi_dup2 (qi_iald 1206 (qi_aload 0 (qi_iload 1 (qi_iload 7 (qi_callv 3 7 (0, 0) sp_Mo_stream (qi_ixor (qi_iast 1206 (qi_iinc 7 (nI 1) k65)))))))))))))))))))
def kc_Mo_close_65 (Po : Option Value → qa_M → Prop) : qa_K := qi_loop (kb_Mo_close_65 Po)
def kb_Mo_close_36 (Po : Option Value → qa_M → Prop) (k36 : qa_K) : qa_K := (qi_iload 7 (qi_iload 6 (qi_icge (qi_ic (nI 0) (qi_istore 7 (kc_Mo_close_65 Po))) (qi_aload 0 (qi_gp 7 206 (qi_ic (nI 40) (qi_iload 2 (qi_imul (qi_iload 7 (qi_iadd (qi_ic (nI 0) (qi_iast 1206 (qi_iinc 7 (nI 1) k36)))))))))))))
def kc_Mo_close_36 (Po : Option Value → qa_M → Prop) : qa_K := qi_loop (kb_Mo_close_36 Po)
def kc_Mo_close_0 (Po : Option Value → qa_M → Prop) : qa_K := (qi_aload 0 (qi_gp 7 205 (qi_iload 2 (qi_iald 1205 (qi_istore 5 (qi_iload 5 (qi_ic (nI 1) (qi_iadd (qi_iload 4 (qi_iadd (qi_istore 6 (qi_aload 0 (qi_gp 7 206 (qi_ic (nI 40) (qi_iload 2 (qi_imul (qi_iload 5 (qi_iadd (qi_iload 3 (qi_iast 1206 (qi_iload 5 (qi_ic (nI 1) (qi_iadd (qi_istore 7 (kc_Mo_close_36 Po)))))))))))))))))))))))))
abbrev kS_Mo_close (l : Launch) (D : va_G) (E : Nat → ClassId) (B : Nat) (sc : qa_Z) (Po : Option Value → qa_M → Prop) (pc : Nat) (k : qa_K) : Prop := qa_S l "SealedRecordsModel" prog_8_method_14_code 10 none false D E B rm_Mo_close sc (qa_Qf D E B rm_Mo_close Po) pc k
theorem kt_Mo_close_113 (l : Launch) (D : va_G) (E : Nat → ClassId) (B : Nat) (sc : qa_Z) (Po : Option Value → qa_M → Prop) {k113 : qa_K} (hk113 : kS_Mo_close l D E B sc Po 113 k113) : kS_Mo_close l D E B sc Po 113 (kb_Mo_close_113 Po k113) := (qs_iload kd_Mo_close_113 (qs_bipush kd_Mo_close_115 (by decide) (qs_icge (tgt := 157) kd_Mo_close_117 (by decide) (qs_aload_n kd_Mo_close_157 rfl (fg_204 ww_289 kd_Mo_close_158 (qs_iload_n kd_Mo_close_161 rfl (qs_bipush kd_Mo_close_162 (by decide) (qs_iast (κ := 1204) rfl (by decide) kd_Mo_close_164 (qs_aload_n kd_Mo_close_165 rfl (fg_205 ww_290 kd_Mo_close_166 (qs_iload_n kd_Mo_close_169 rfl (qs_iload kd_Mo_close_170 (qs_bipush kd_Mo_close_172 (by decide) (qs_iadd kd_Mo_close_174 (qs_iast (κ := 1205) rfl (by decide) kd_Mo_close_175 (qs_vret kd_Mo_close_176))))))))))))) (qs_aload_n kd_Mo_close_120 rfl (fg_206 ww_291 kd_Mo_close_121 (qs_bipush kd_Mo_close_124 (by decide) (qs_iload_n kd_Mo_close_126 rfl (qs_imul kd_Mo_close_127 (qs_iload kd_Mo_close_128 (qs_iadd kd_Mo_close_130 (qs_iload kd_Mo_close_131 (qs_iadd kd_Mo_close_133 (qs_lload kd_Mo_close_134 (qs_bipush kd_Mo_close_136 (by decide) (qs_bipush kd_Mo_close_138 (by decide) (qs_iload kd_Mo_close_140 (qs_imul kd_Mo_close_142 (qs_isub kd_Mo_close_143 (qs_lushr kd_Mo_close_144 (qs_ldc2 ww_322 kd_Mo_close_145 (qs_land kd_Mo_close_148 (qs_l2i kd_Mo_close_149 (qs_iast (κ := 1206) rfl (by decide) kd_Mo_close_150 (qs_iinc kd_Mo_close_151 (by decide) (by decide) (qs_goto (tgt := 113) kd_Mo_close_154 (by decide) hk113)))))))))))))))))))))))))
theorem ks_Mo_close_113 (l : Launch) (D : va_G) (E : Nat → ClassId) (B : Nat) (sc : qa_Z) (Po : Option Value → qa_M → Prop) : kS_Mo_close l D E B sc Po 113 (kc_Mo_close_113 Po) := qs_loop fun k113 hk113 => kt_Mo_close_113 l D E B sc Po hk113
theorem kt_Mo_close_65 (l : Launch) (D : va_G) (E : Nat → ClassId) (B : Nat) (sc : qa_Z) (Po : Option Value → qa_M → Prop) {k65 : qa_K} (hk65 : kS_Mo_close l D E B sc Po 65 k65) : kS_Mo_close l D E B sc Po 65 (kb_Mo_close_65 Po k65) := (qs_iload kd_Mo_close_65 (qs_iload kd_Mo_close_67 (qs_icge (tgt := 100) kd_Mo_close_69 (by decide) (qs_aload_n kd_Mo_close_100 rfl (qs_iload_n kd_Mo_close_101 rfl (qs_iload_n kd_Mo_close_102 rfl (qs_iload kd_Mo_close_103 (qs_callv (ci := 6) (ct_Mo_tag l sc) ww_324 (by decide) rfl (by decide) ww_325 ww_326 ww_327 ww_13 yd_Mo_tag kd_Mo_close_105 (qs_lstore kd_Mo_close_108 (by decide) (qs_iconst kd_Mo_close_110 (by decide) (qs_istore kd_Mo_close_111 (by decide) (ks_Mo_close_113 l D E B sc Po))))))))) (qs_aload_n kd_Mo_close_72 rfl (fg_206 ww_291 kd_Mo_close_73 (qs_bipush kd_Mo_close_76 (by decide) (qs_iload_n kd_Mo_close_78 rfl (qs_imul kd_Mo_close_79 (qs_iload kd_Mo_close_80 (qs_iadd kd_Mo_close_82 (qs_dup2 kd_Mo_close_83 (qs_iald (κ := 1206) rfl (by decide) kd_Mo_close_84 (qs_aload_n kd_Mo_close_85 rfl (qs_iload_n kd_Mo_close_86 rfl (qs_iload kd_Mo_close_87 (qs_callv (ci := 6) (ct_Mo_stream l sc) ww_328 (by decide) rfl (by decide) ww_329 ww_330 ww_331 ww_13 yd_Mo_stream kd_Mo_close_89 (qs_ixor kd_Mo_close_92 (qs_iast (κ := 1206) rfl (by decide) kd_Mo_close_93 (qs_iinc kd_Mo_close_94 (by decide) (by decide) (qs_goto (tgt := 65) kd_Mo_close_97 (by decide) hk65))))))))))))))))))))
theorem ks_Mo_close_65 (l : Launch) (D : va_G) (E : Nat → ClassId) (B : Nat) (sc : qa_Z) (Po : Option Value → qa_M → Prop) : kS_Mo_close l D E B sc Po 65 (kc_Mo_close_65 Po) := qs_loop fun k65 hk65 => kt_Mo_close_65 l D E B sc Po hk65
theorem kt_Mo_close_36 (l : Launch) (D : va_G) (E : Nat → ClassId) (B : Nat) (sc : qa_Z) (Po : Option Value → qa_M → Prop) {k36 : qa_K} (hk36 : kS_Mo_close l D E B sc Po 36 k36) : kS_Mo_close l D E B sc Po 36 (kb_Mo_close_36 Po k36) := (qs_iload kd_Mo_close_36 (qs_iload kd_Mo_close_38 (qs_icge (tgt := 62) kd_Mo_close_40 (by decide) (qs_iconst kd_Mo_close_62 (by decide) (qs_istore kd_Mo_close_63 (by decide) (ks_Mo_close_65 l D E B sc Po))) (qs_aload_n kd_Mo_close_43 rfl (fg_206 ww_291 kd_Mo_close_44 (qs_bipush kd_Mo_close_47 (by decide) (qs_iload_n kd_Mo_close_49 rfl (qs_imul kd_Mo_close_50 (qs_iload kd_Mo_close_51 (qs_iadd kd_Mo_close_53 (qs_iconst kd_Mo_close_54 (by decide) (qs_iast (κ := 1206) rfl (by decide) kd_Mo_close_55 (qs_iinc kd_Mo_close_56 (by decide) (by decide) (qs_goto (tgt := 36) kd_Mo_close_59 (by decide) hk36))))))))))))))
theorem ks_Mo_close_36 (l : Launch) (D : va_G) (E : Nat → ClassId) (B : Nat) (sc : qa_Z) (Po : Option Value → qa_M → Prop) : kS_Mo_close l D E B sc Po 36 (kc_Mo_close_36 Po) := qs_loop fun k36 hk36 => kt_Mo_close_36 l D E B sc Po hk36
theorem ks_Mo_close_0 (l : Launch) (D : va_G) (E : Nat → ClassId) (B : Nat) (sc : qa_Z) (Po : Option Value → qa_M → Prop) : kS_Mo_close l D E B sc Po 0 (kc_Mo_close_0 Po) := (qs_aload_n kd_Mo_close_0 rfl (fg_205 ww_290 kd_Mo_close_1 (qs_iload_n kd_Mo_close_4 rfl (qs_iald (κ := 1205) rfl (by decide) kd_Mo_close_5 (qs_istore kd_Mo_close_6 (by decide) (qs_iload kd_Mo_close_8 (qs_iconst kd_Mo_close_10 (by decide) (qs_iadd kd_Mo_close_11 (qs_iload kd_Mo_close_12 (qs_iadd kd_Mo_close_14 (qs_istore kd_Mo_close_15 (by decide) (qs_aload_n kd_Mo_close_17 rfl (fg_206 ww_291 kd_Mo_close_18 (qs_bipush kd_Mo_close_21 (by decide) (qs_iload_n kd_Mo_close_23 rfl (qs_imul kd_Mo_close_24 (qs_iload kd_Mo_close_25 (qs_iadd kd_Mo_close_27 (qs_iload_n kd_Mo_close_28 rfl (qs_iast (κ := 1206) rfl (by decide) kd_Mo_close_29 (qs_iload kd_Mo_close_30 (qs_iconst kd_Mo_close_32 (by decide) (qs_iadd kd_Mo_close_33 (qs_istore kd_Mo_close_34 (by decide) (ks_Mo_close_36 l D E B sc Po)))))))))))))))))))))))))
def sp_Mo_close : qa_sp := fun args M Po => match args with
  | [.ref a0, .int a1, .int a2, .int a3, .int a4] => kc_Mo_close_0 Po (0, 0) [some (.ref a0), some (.int a1), some (.int a2), some (.int a3), some (.int a4), none, none, none, none, none] [] M
  | _ => False
theorem ct_Mo_close (l : Launch) (sc : qa_Z) : qa_T l ym_Mo_close (Cond.code ym_Mo_close prog_8_method_14_code 10 none :: q_W0) rm_Mo_close sc (sp_Mo_close) := by
  intro D E B args M Po h
  unfold sp_Mo_close at h
  split at h
  · exact qa_ct (ini := false) (by decide) (by decide) (Nat.le_of_ble_eq_true rfl) (qa_lvok rfl) (ks_Mo_close_0 l D E B sc Po) h
  · exact h.elim
