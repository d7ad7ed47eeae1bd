theorem kd_SR_inject_0 : decode prog_1_method_13_code 0 = .ok (.iload_n 1, 1) := by decide +kernel
theorem kd_SR_inject_1 : decode prog_1_method_13_code 1 = .ok (.invokestatic 22, 3) := by decide +kernel
theorem kd_SR_inject_4 : decode prog_1_method_13_code 4 = .ok (.ifCond .eq 28, 3) := by decide +kernel
theorem kd_SR_inject_7 : decode prog_1_method_13_code 7 = .ok (.iload_n 2, 1) := by decide +kernel
theorem kd_SR_inject_8 : decode prog_1_method_13_code 8 = .ok (.invokestatic 86, 3) := by decide +kernel
theorem kd_SR_inject_11 : decode prog_1_method_13_code 11 = .ok (.ifCond .eq 21, 3) := by decide +kernel
theorem kd_SR_inject_14 : decode prog_1_method_13_code 14 = .ok (.iload 4, 2) := by decide +kernel
theorem kd_SR_inject_16 : decode prog_1_method_13_code 16 = .ok (.invokestatic 86, 3) := by decide +kernel
theorem kd_SR_inject_19 : decode prog_1_method_13_code 19 = .ok (.ifCond .eq 13, 3) := by decide +kernel
theorem kd_SR_inject_22 : decode prog_1_method_13_code 22 = .ok (.iload_n 3, 1) := by decide +kernel
theorem kd_SR_inject_23 : decode prog_1_method_13_code 23 = .ok (.ifCond .lt 9, 3) := by decide +kernel
theorem kd_SR_inject_26 : decode prog_1_method_13_code 26 = .ok (.iload_n 3, 1) := by decide +kernel
theorem kd_SR_inject_27 : decode prog_1_method_13_code 27 = .ok (.bipush 40, 2) := by decide +kernel
theorem kd_SR_inject_29 : decode prog_1_method_13_code 29 = .ok (.if_icmp .le 5, 3) := by decide +kernel
theorem kd_SR_inject_32 : decode prog_1_method_13_code 32 = .ok (.iconst 0, 1) := by decide +kernel
theorem kd_SR_inject_33 : decode prog_1_method_13_code 33 = .ok (.ireturn, 1) := by decide +kernel
theorem kd_SR_inject_34 : decode prog_1_method_13_code 34 = .ok (.aload_n 0, 1) := by decide +kernel
theorem kd_SR_inject_35 : decode prog_1_method_13_code 35 = .ok (.getfield 18, 3) := by decide +kernel
theorem kd_SR_inject_38 : decode prog_1_method_13_code 38 = .ok (.iload_n 1, 1) := by decide +kernel
theorem kd_SR_inject_39 : decode prog_1_method_13_code 39 = .ok (.aaload, 1) := by decide +kernel
theorem kd_SR_inject_40 : decode prog_1_method_13_code 40 = .ok (.getfield 107, 3) := by decide +kernel
theorem kd_SR_inject_43 : decode prog_1_method_13_code 43 = .ok (.invokevirtual 111, 3) := by decide +kernel
theorem kd_SR_inject_46 : decode prog_1_method_13_code 46 = .ok (.ifCond .eq 5, 3) := by decide +kernel
theorem kd_SR_inject_49 : decode prog_1_method_13_code 49 = .ok (.iconst 0, 1) := by decide +kernel
theorem kd_SR_inject_50 : decode prog_1_method_13_code 50 = .ok (.ireturn, 1) := by decide +kernel
theorem kd_SR_inject_51 : decode prog_1_method_13_code 51 = .ok (.aload_n 0, 1) := by decide +kernel
theorem kd_SR_inject_52 : decode prog_1_method_13_code 52 = .ok (.getfield 18, 3) := by decide +kernel
theorem kd_SR_inject_55 : decode prog_1_method_13_code 55 = .ok (.iload_n 1, 1) := by decide +kernel
theorem kd_SR_inject_56 : decode prog_1_method_13_code 56 = .ok (.aaload, 1) := by decide +kernel
theorem kd_SR_inject_57 : decode prog_1_method_13_code 57 = .ok (.getfield 107, 3) := by decide +kernel
theorem kd_SR_inject_60 : decode prog_1_method_13_code 60 = .ok (.invokevirtual 114, 3) := by decide +kernel
theorem kd_SR_inject_63 : decode prog_1_method_13_code 63 = .ok (.astore 5, 2) := by decide +kernel
theorem kd_SR_inject_65 : decode prog_1_method_13_code 65 = .ok (.aload 5, 2) := by decide +kernel
theorem kd_SR_inject_67 : decode prog_1_method_13_code 67 = .ok (.iload_n 2, 1) := by decide +kernel
theorem kd_SR_inject_68 : decode prog_1_method_13_code 68 = .ok (.invokevirtual 158, 3) := by decide +kernel
theorem kd_SR_inject_71 : decode prog_1_method_13_code 71 = .ok (.iconst 0, 1) := by decide +kernel
theorem kd_SR_inject_72 : decode prog_1_method_13_code 72 = .ok (.istore 6, 2) := by decide +kernel
theorem kd_SR_inject_74 : decode prog_1_method_13_code 74 = .ok (.iload 6, 2) := by decide +kernel
theorem kd_SR_inject_76 : decode prog_1_method_13_code 76 = .ok (.iload_n 3, 1) := by decide +kernel
theorem kd_SR_inject_77 : decode prog_1_method_13_code 77 = .ok (.if_icmp .ge 16, 3) := by decide +kernel
theorem kd_SR_inject_80 : decode prog_1_method_13_code 80 = .ok (.aload 5, 2) := by decide +kernel
theorem kd_SR_inject_82 : decode prog_1_method_13_code 82 = .ok (.iload 4, 2) := by decide +kernel
theorem kd_SR_inject_84 : decode prog_1_method_13_code 84 = .ok (.invokevirtual 98, 3) := by decide +kernel
theorem kd_SR_inject_87 : decode prog_1_method_13_code 87 = .ok (.iinc 6 1, 3) := by decide +kernel
theorem kd_SR_inject_90 : decode prog_1_method_13_code 90 = .ok (.goto (-16), 3) := by decide +kernel
theorem kd_SR_inject_93 : decode prog_1_method_13_code 93 = .ok (.iconst 1, 1) := by decide +kernel
theorem kd_SR_inject_94 : decode prog_1_method_13_code 94 = .ok (.ireturn, 1) := by decide +kernel
def kb_SR_inject_74 (Po : Option Value → qa_M → Prop) (k74 : qa_K) : qa_K := (qi_iload 6 (qi_iload 3 (qi_icge (qi_ic (nI 1) (qi_zret (0, 0) Po)) (qi_aload 5 (qi_iload 4 (qi_callv 2 2 (0, 0) sp_Pk_append (qi_iinc 6 (nI 1) k74)))))))
def kc_SR_inject_74 (Po : Option Value → qa_M → Prop) : qa_K := qi_loop (kb_SR_inject_74 Po)
def kc_SR_inject_32 (Po : Option Value → qa_M → Prop) : qa_K := (qi_ic (nI 0) (qi_zret (0, 0) Po))
def kc_SR_inject_0 (Po : Option Value → qa_M → Prop) : qa_K := (qi_iload 1 (qi_call 1 (0, 0) sp_SR_isEnd (qi_ifeq (kc_SR_inject_32 Po) (qi_iload 2 (qi_call 1 (0, 0) sp_SR_isByte (qi_ifeq (kc_SR_inject_32 Po) (qi_iload 4 (qi_call 1 (0, 0) sp_SR_isByte (qi_ifeq (kc_SR_inject_32 Po) (qi_iload 3 (qi_iflt (kc_SR_inject_32 Po) (qi_iload 3 (qi_ic (nI 40) (qi_icle (qi_aload 0 (qi_gp 1 1 (qi_iload 1 (qi_aald 1001 (qi_gp 6 164 (qi_callv 1 3 (0, 0) sp_Rw_isFull (qi_ifeq (qi_aload 0 (qi_gp 1 1 (qi_iload 1 (qi_aald 1001 (qi_gp 6 164 (qi_callv 1 3 (0, 0) sp_Rw_addNewest (qi_astore 5 (qi_aload 5 (qi_iload 2 (qi_callv 2 2 (0, 0) sp_Pk_restart (qi_ic (nI 0) (qi_istore 6 (kc_SR_inject_74 Po))))))))))))) (qi_ic (nI 0) (qi_zret (0, 0) Po))))))))) (kc_SR_inject_32 Po)))))))))))))))
abbrev kS_SR_inject (l : Launch) (D : va_G) (E : Nat → ClassId) (B : Nat) (sc : qa_Z) (Po : Option Value → qa_M → Prop) (pc : Nat) (k : qa_K) : Prop := qa_S l "SealedRecords" prog_1_method_13_code 7 (some .boolean) false D E B rm_SR_inject sc (qa_Qf D E B rm_SR_inject Po) pc k
theorem kt_SR_inject_74 (l : Launch) (D : va_G) (E : Nat → ClassId) (B : Nat) (sc : qa_Z) (Po : Option Value → qa_M → Prop) {k74 : qa_K} (hk74 : kS_SR_inject l D E B sc Po 74 k74) : kS_SR_inject l D E B sc Po 74 (kb_SR_inject_74 Po k74) := (qs_iload kd_SR_inject_74 (qs_iload_n kd_SR_inject_76 rfl (qs_icge (tgt := 93) kd_SR_inject_77 (by decide) (qs_iconst kd_SR_inject_93 (by decide) (qs_zret kd_SR_inject_94)) (qs_aload kd_SR_inject_80 (qs_iload kd_SR_inject_82 (qs_callv (ci := 1) (ct_Pk_append l sc) ww_122 (by decide) rfl (by decide) ww_123 ww_124 ww_125 ww_3 yd_Pk_append kd_SR_inject_84 (qs_iinc kd_SR_inject_87 (by decide) (by decide) (qs_goto (tgt := 74) kd_SR_inject_90 (by decide) hk74))))))))
theorem ks_SR_inject_74 (l : Launch) (D : va_G) (E : Nat → ClassId) (B : Nat) (sc : qa_Z) (Po : Option Value → qa_M → Prop) : kS_SR_inject l D E B sc Po 74 (kc_SR_inject_74 Po) := qs_loop fun k74 hk74 => kt_SR_inject_74 l D E B sc Po hk74
theorem ks_SR_inject_32 (l : Launch) (D : va_G) (E : Nat → ClassId) (B : Nat) (sc : qa_Z) (Po : Option Value → qa_M → Prop) : kS_SR_inject l D E B sc Po 32 (kc_SR_inject_32 Po) := (qs_iconst kd_SR_inject_32 (by decide) (qs_zret kd_SR_inject_33))
theorem ks_SR_inject_0 (l : Launch) (D : va_G) (E : Nat → ClassId) (B : Nat) (sc : qa_Z) (Po : Option Value → qa_M → Prop) : kS_SR_inject l D E B sc Po 0 (kc_SR_inject_0 Po) := (qs_iload_n kd_SR_inject_0 rfl (qs_calls (ct_SR_isEnd l sc) ww_61 (by decide) (by decide) ww_62 ww_63 ww_1 yd_SR_isEnd kd_SR_inject_1 (qs_ifeq (tgt := 32) kd_SR_inject_4 (by decide) (ks_SR_inject_32 l D E B sc Po) (qs_iload_n kd_SR_inject_7 rfl (qs_calls (ct_SR_isByte l sc) ww_114 (by decide) (by decide) ww_115 ww_116 ww_1 yd_SR_isByte kd_SR_inject_8 (qs_ifeq (tgt := 32) kd_SR_inject_11 (by decide) (ks_SR_inject_32 l D E B sc Po) (qs_iload kd_SR_inject_14 (qs_calls (ct_SR_isByte l sc) ww_114 (by decide) (by decide) ww_115 ww_116 ww_1 yd_SR_isByte kd_SR_inject_16 (qs_ifeq (tgt := 32) kd_SR_inject_19 (by decide) (ks_SR_inject_32 l D E B sc Po) (qs_iload_n kd_SR_inject_22 rfl (qs_iflt (tgt := 32) kd_SR_inject_23 (by decide) (ks_SR_inject_32 l D E B sc Po) (qs_iload_n kd_SR_inject_26 rfl (qs_bipush kd_SR_inject_27 (by decide) (qs_icle (tgt := 34) kd_SR_inject_29 (by decide) (qs_aload_n kd_SR_inject_34 rfl (fg_1 ww_57 kd_SR_inject_35 (qs_iload_n kd_SR_inject_38 rfl (qs_aald (κ := 1001) (t := 0) rfl (fun _ => rfl) (by decide) kd_SR_inject_39 (fg_164 ww_168 kd_SR_inject_40 (qs_callv (ci := 2) (ct_Rw_isFull l sc) ww_169 (by decide) rfl (by decide) ww_170 ww_171 ww_172 ww_5 yd_Rw_isFull kd_SR_inject_43 (qs_ifeq (tgt := 51) kd_SR_inject_46 (by decide) (qs_aload_n kd_SR_inject_51 rfl (fg_1 ww_57 kd_SR_inject_52 (qs_iload_n kd_SR_inject_55 rfl (qs_aald (κ := 1001) (t := 0) rfl (fun _ => rfl) (by decide) kd_SR_inject_56 (fg_164 ww_168 kd_SR_inject_57 (qs_callv (ci := 2) (ct_Rw_addNewest l sc) ww_173 (by decide) rfl (by decide) ww_174 ww_175 ww_176 ww_5 yd_Rw_addNewest kd_SR_inject_60 (qs_astore kd_SR_inject_63 (by decide) (qs_aload kd_SR_inject_65 (qs_iload_n kd_SR_inject_67 rfl (qs_callv (ci := 1) (ct_Pk_restart l sc) ww_131 (by decide) rfl (by decide) ww_268 ww_133 ww_134 ww_3 yd_Pk_restart kd_SR_inject_68 (qs_iconst kd_SR_inject_71 (by decide) (qs_istore kd_SR_inject_72 (by decide) (ks_SR_inject_74 l D E B sc Po))))))))))))) (qs_iconst kd_SR_inject_49 (by decide) (qs_zret kd_SR_inject_50))))))))) (ks_SR_inject_32 l D E B sc Po)))))))))))))))
def sp_SR_inject : qa_sp := fun args M Po => match args with
  | [.ref a0, .int a1, .int a2, .int a3, .int a4] => kc_SR_inject_0 Po (0, 0) [some (.ref a0), some (.int a1), some (.int a2), some (.int a3), some (.int a4), none, none] [] M
  | _ => False
theorem ct_SR_inject (l : Launch) (sc : qa_Z) : qa_T l ym_SR_inject (Cond.code ym_SR_inject prog_1_method_13_code 7 (some .boolean) :: q_W0) rm_SR_inject sc (sp_SR_inject) := by
  intro D E B args M Po h
  unfold sp_SR_inject at h
  split at h
  · exact qa_ct (ini := false) (by decide) (by decide) (Nat.le_of_ble_eq_true rfl) (qa_lvok rfl) (ks_SR_inject_0 l D E B sc Po) h
  · exact h.elim
theorem kd_SR_waiting_0 : decode prog_1_method_14_code 0 = .ok (.iload_n 1, 1) := by decide +kernel
theorem kd_SR_waiting_1 : decode prog_1_method_14_code 1 = .ok (.invokestatic 22, 3) := by decide +kernel
theorem kd_SR_waiting_4 : decode prog_1_method_14_code 4 = .ok (.ifCond .eq 18, 3) := by decide +kernel
theorem kd_SR_waiting_7 : decode prog_1_method_14_code 7 = .ok (.aload_n 0, 1) := by decide +kernel
theorem kd_SR_waiting_8 : decode prog_1_method_14_code 8 = .ok (.getfield 18, 3) := by decide +kernel
theorem kd_SR_waiting_11 : decode prog_1_method_14_code 11 = .ok (.iload_n 1, 1) := by decide +kernel
theorem kd_SR_waiting_12 : decode prog_1_method_14_code 12 = .ok (.aaload, 1) := by decide +kernel
theorem kd_SR_waiting_13 : decode prog_1_method_14_code 13 = .ok (.getfield 107, 3) := by decide +kernel
theorem kd_SR_waiting_16 : decode prog_1_method_14_code 16 = .ok (.getfield 161, 3) := by decide +kernel
theorem kd_SR_waiting_19 : decode prog_1_method_14_code 19 = .ok (.goto 4, 3) := by decide +kernel
theorem kd_SR_waiting_22 : decode prog_1_method_14_code 22 = .ok (.iconst (-1), 1) := by decide +kernel
theorem kd_SR_waiting_23 : decode prog_1_method_14_code 23 = .ok (.ireturn, 1) := by decide +kernel
def kc_SR_waiting_23 (Po : Option Value → qa_M → Prop) : qa_K := (qi_iret (0, 0) Po)
def kc_SR_waiting_0 (Po : Option Value → qa_M → Prop) : qa_K := (qi_iload 1 (qi_call 1 (0, 0) sp_SR_isEnd (qi_ifeq (qi_ic (-1) (kc_SR_waiting_23 Po)) (qi_aload 0 (qi_gp 1 1 (qi_iload 1 (qi_aald 1001 (qi_gp 6 164 (qi_gi 3 65 (kc_SR_waiting_23 Po))))))))))
abbrev kS_SR_waiting (l : Launch) (D : va_G) (E : Nat → ClassId) (B : Nat) (sc : qa_Z) (Po : Option Value → qa_M → Prop) (pc : Nat) (k : qa_K) : Prop := qa_S l "SealedRecords" prog_1_method_14_code 2 (some .int) false D E B rm_SR_waiting sc (qa_Qf D E B rm_SR_waiting Po) pc k
theorem ks_SR_waiting_23 (l : Launch) (D : va_G) (E : Nat → ClassId) (B : Nat) (sc : qa_Z) (Po : Option Value → qa_M → Prop) : kS_SR_waiting l D E B sc Po 23 (kc_SR_waiting_23 Po) := (qs_iret kd_SR_waiting_23)
theorem ks_SR_waiting_0 (l : Launch) (D : va_G) (E : Nat → ClassId) (B : Nat) (sc : qa_Z) (Po : Option Value → qa_M → Prop) : kS_SR_waiting l D E B sc Po 0 (kc_SR_waiting_0 Po) := (qs_iload_n kd_SR_waiting_0 rfl (qs_calls (ct_SR_isEnd l sc) ww_61 (by decide) (by decide) ww_62 ww_63 ww_1 yd_SR_isEnd kd_SR_waiting_1 (qs_ifeq (tgt := 22) kd_SR_waiting_4 (by decide) (qs_iconst kd_SR_waiting_22 (by decide) (ks_SR_waiting_23 l D E B sc Po)) (qs_aload_n kd_SR_waiting_7 rfl (fg_1 ww_57 kd_SR_waiting_8 (qs_iload_n kd_SR_waiting_11 rfl (qs_aald (κ := 1001) (t := 0) rfl (fun _ => rfl) (by decide) kd_SR_waiting_12 (fg_164 ww_168 kd_SR_waiting_13 (fg_65 ww_269 kd_SR_waiting_16 (qs_goto (tgt := 23) kd_SR_waiting_19 (by decide) (ks_SR_waiting_23 l D E B sc Po)))))))))))
def sp_SR_waiting : qa_sp := fun args M Po => match args with
  | [.ref a0, .int a1] => kc_SR_waiting_0 Po (0, 0) [some (.ref a0), some (.int a1)] [] M
  | _ => False
theorem ct_SR_waiting (l : Launch) (sc : qa_Z) : qa_T l ym_SR_waiting (Cond.code ym_SR_waiting prog_1_method_14_code 2 (some .int) :: q_W0) rm_SR_waiting sc (sp_SR_waiting) := by
  intro D E B args M Po h
  unfold sp_SR_waiting at h
  split at h
  · exact qa_ct (ini := false) (by decide) (by decide) (Nat.le_of_ble_eq_true rfl) (qa_lvok rfl) (ks_SR_waiting_0 l D E B sc Po) h
  · exact h.elim
theorem kd_SR_wire_0 : decode prog_1_method_15_code 0 = .ok (.aload_n 0, 1) := by decide +kernel
theorem kd_SR_wire_1 : decode prog_1_method_15_code 1 = .ok (.iload_n 1, 1) := by decide +kernel
theorem kd_SR_wire_2 : decode prog_1_method_15_code 2 = .ok (.iload_n 2, 1) := by decide +kernel
theorem kd_SR_wire_3 : decode prog_1_method_15_code 3 = .ok (.invokevirtual 139, 3) := by decide +kernel
theorem kd_SR_wire_6 : decode prog_1_method_15_code 6 = .ok (.ifCond .ne 5, 3) := by decide +kernel
theorem kd_SR_wire_9 : decode prog_1_method_15_code 9 = .ok (.iconst (-1), 1) := by decide +kernel
theorem kd_SR_wire_10 : decode prog_1_method_15_code 10 = .ok (.ireturn, 1) := by decide +kernel
theorem kd_SR_wire_11 : decode prog_1_method_15_code 11 = .ok (.aload_n 0, 1) := by decide +kernel
theorem kd_SR_wire_12 : decode prog_1_method_15_code 12 = .ok (.getfield 18, 3) := by decide +kernel
theorem kd_SR_wire_15 : decode prog_1_method_15_code 15 = .ok (.iload_n 1, 1) := by decide +kernel
theorem kd_SR_wire_16 : decode prog_1_method_15_code 16 = .ok (.aaload, 1) := by decide +kernel
theorem kd_SR_wire_17 : decode prog_1_method_15_code 17 = .ok (.getfield 107, 3) := by decide +kernel
theorem kd_SR_wire_20 : decode prog_1_method_15_code 20 = .ok (.getfield 143, 3) := by decide +kernel
theorem kd_SR_wire_23 : decode prog_1_method_15_code 23 = .ok (.iload_n 2, 1) := by decide +kernel
theorem kd_SR_wire_24 : decode prog_1_method_15_code 24 = .ok (.aaload, 1) := by decide +kernel
theorem kd_SR_wire_25 : decode prog_1_method_15_code 25 = .ok (.astore 4, 2) := by decide +kernel
theorem kd_SR_wire_27 : decode prog_1_method_15_code 27 = .ok (.iload_n 3, 1) := by decide +kernel
theorem kd_SR_wire_28 : decode prog_1_method_15_code 28 = .ok (.iconst (-1), 1) := by decide +kernel
theorem kd_SR_wire_29 : decode prog_1_method_15_code 29 = .ok (.if_icmp .ne 9, 3) := by decide +kernel
theorem kd_SR_wire_32 : decode prog_1_method_15_code 32 = .ok (.aload 4, 2) := by decide +kernel
theorem kd_SR_wire_34 : decode prog_1_method_15_code 34 = .ok (.getfield 122, 3) := by decide +kernel
theorem kd_SR_wire_37 : decode prog_1_method_15_code 37 = .ok (.ireturn, 1) := by decide +kernel
theorem kd_SR_wire_38 : decode prog_1_method_15_code 38 = .ok (.iload_n 3, 1) := by decide +kernel
theorem kd_SR_wire_39 : decode prog_1_method_15_code 39 = .ok (.ifCond .ne 9, 3) := by decide +kernel
theorem kd_SR_wire_42 : decode prog_1_method_15_code 42 = .ok (.aload 4, 2) := by decide +kernel
theorem kd_SR_wire_44 : decode prog_1_method_15_code 44 = .ok (.getfield 147, 3) := by decide +kernel
theorem kd_SR_wire_47 : decode prog_1_method_15_code 47 = .ok (.ireturn, 1) := by decide +kernel
theorem kd_SR_wire_48 : decode prog_1_method_15_code 48 = .ok (.iload_n 3, 1) := by decide +kernel
theorem kd_SR_wire_49 : decode prog_1_method_15_code 49 = .ok (.ifCond .le 24, 3) := by decide +kernel
theorem kd_SR_wire_52 : decode prog_1_method_15_code 52 = .ok (.iload_n 3, 1) := by decide +kernel
theorem kd_SR_wire_53 : decode prog_1_method_15_code 53 = .ok (.aload 4, 2) := by decide +kernel
theorem kd_SR_wire_55 : decode prog_1_method_15_code 55 = .ok (.getfield 122, 3) := by decide +kernel
theorem kd_SR_wire_58 : decode prog_1_method_15_code 58 = .ok (.if_icmp .gt 15, 3) := by decide +kernel
theorem kd_SR_wire_61 : decode prog_1_method_15_code 61 = .ok (.aload 4, 2) := by decide +kernel
theorem kd_SR_wire_63 : decode prog_1_method_15_code 63 = .ok (.getfield 150, 3) := by decide +kernel
theorem kd_SR_wire_66 : decode prog_1_method_15_code 66 = .ok (.iload_n 3, 1) := by decide +kernel
theorem kd_SR_wire_67 : decode prog_1_method_15_code 67 = .ok (.iconst 1, 1) := by decide +kernel
theorem kd_SR_wire_68 : decode prog_1_method_15_code 68 = .ok (.isub, 1) := by decide +kernel
theorem kd_SR_wire_69 : decode prog_1_method_15_code 69 = .ok (.iaload, 1) := by decide +kernel
theorem kd_SR_wire_70 : decode prog_1_method_15_code 70 = .ok (.goto 4, 3) := by decide +kernel
theorem kd_SR_wire_73 : decode prog_1_method_15_code 73 = .ok (.iconst (-1), 1) := by decide +kernel
theorem kd_SR_wire_74 : decode prog_1_method_15_code 74 = .ok (.ireturn, 1) := by decide +kernel
def kc_SR_wire_74 (Po : Option Value → qa_M → Prop) : qa_K := (qi_iret (0, 0) Po)
def kc_SR_wire_73 (Po : Option Value → qa_M → Prop) : qa_K := (qi_ic (-1) (kc_SR_wire_74 Po))
def kc_SR_wire_0 (Po : Option Value → qa_M → Prop) : qa_K := (qi_aload 0 (qi_iload 1 (qi_iload 2 (qi_callv 3 1 (0, 0) sp_SR_isOnWire (qi_ifne (qi_aload 0 (qi_gp 1 1 (qi_iload 1 (qi_aald 1001 (qi_gp 6 164 (qi_gp 3 64 (qi_iload 2 (qi_aald 1064 (qi_astore 4 (qi_iload 3 (qi_ic (-1) (qi_icne (qi_iload 3 (qi_ifne (qi_iload 3 (qi_ifle (kc_SR_wire_73 Po) (qi_iload 3 (qi_aload 4 (qi_gi 2 34 (qi_icgt (kc_SR_wire_73 Po) (qi_aload 4 (qi_gp 2 32 (qi_iload 3 (qi_ic (nI 1) (qi_isub (qi_iald 1032 (kc_SR_wire_74 Po))))))))))))) (qi_aload 4 (qi_gi 2 33 (qi_iret (0, 0) Po))))) (qi_aload 4 (qi_gi 2 34 (qi_iret (0, 0) Po))))))))))))))) (qi_ic (-1) (qi_iret (0, 0) Po)))))))
abbrev kS_SR_wire (l : Launch) (D : va_G) (E : Nat → ClassId) (B : Nat) (sc : qa_Z) (Po : Option Value → qa_M → Prop) (pc : Nat) (k : qa_K) : Prop := qa_S l "SealedRecords" prog_1_method_15_code 5 (some .int) false D E B rm_SR_wire sc (qa_Qf D E B rm_SR_wire Po) pc k
theorem ks_SR_wire_74 (l : Launch) (D : va_G) (E : Nat → ClassId) (B : Nat) (sc : qa_Z) (Po : Option Value → qa_M → Prop) : kS_SR_wire l D E B sc Po 74 (kc_SR_wire_74 Po) := (qs_iret kd_SR_wire_74)
theorem ks_SR_wire_73 (l : Launch) (D : va_G) (E : Nat → ClassId) (B : Nat) (sc : qa_Z) (Po : Option Value → qa_M → Prop) : kS_SR_wire l D E B sc Po 73 (kc_SR_wire_73 Po) := (qs_iconst kd_SR_wire_73 (by decide) (ks_SR_wire_74 l D E B sc Po))
theorem ks_SR_wire_0 (l : Launch) (D : va_G) (E : Nat → ClassId) (B : Nat) (sc : qa_Z) (Po : Option Value → qa_M → Prop) : kS_SR_wire l D E B sc Po 0 (kc_SR_wire_0 Po) := (qs_aload_n kd_SR_wire_0 rfl (qs_iload_n kd_SR_wire_1 rfl (qs_iload_n kd_SR_wire_2 rfl (qs_callv (ci := 0) (ct_SR_isOnWire l sc) ww_260 (by decide) rfl (by decide) ww_261 ww_262 ww_263 ww_1 yd_SR_isOnWire kd_SR_wire_3 (qs_ifne (tgt := 11) kd_SR_wire_6 (by decide) (qs_aload_n kd_SR_wire_11 rfl (fg_1 ww_57 kd_SR_wire_12 (qs_iload_n kd_SR_wire_15 rfl (qs_aald (κ := 1001) (t := 0) rfl (fun _ => rfl) (by decide) kd_SR_wire_16 (fg_164 ww_168 kd_SR_wire_17 (fg_64 ww_264 kd_SR_wire_20 (qs_iload_n kd_SR_wire_23 rfl (qs_aald (κ := 1064) (t := 1) rfl (fun _ => rfl) (by decide) kd_SR_wire_24 (qs_astore kd_SR_wire_25 (by decide) (qs_iload_n kd_SR_wire_27 rfl (qs_iconst kd_SR_wire_28 (by decide) (qs_icne (tgt := 38) kd_SR_wire_29 (by decide) (qs_iload_n kd_SR_wire_38 rfl (qs_ifne (tgt := 48) kd_SR_wire_39 (by decide) (qs_iload_n kd_SR_wire_48 rfl (qs_ifle (tgt := 73) kd_SR_wire_49 (by decide) (ks_SR_wire_73 l D E B sc Po) (qs_iload_n kd_SR_wire_52 rfl (qs_aload kd_SR_wire_53 (fg_34 ww_181 kd_SR_wire_55 (qs_icgt (tgt := 73) kd_SR_wire_58 (by decide) (ks_SR_wire_73 l D E B sc Po) (qs_aload kd_SR_wire_61 (fg_32 ww_265 kd_SR_wire_63 (qs_iload_n kd_SR_wire_66 rfl (qs_iconst kd_SR_wire_67 (by decide) (qs_isub kd_SR_wire_68 (qs_iald (κ := 1032) rfl (by decide) kd_SR_wire_69 (qs_goto (tgt := 74) kd_SR_wire_70 (by decide) (ks_SR_wire_74 l D E B sc Po)))))))))))))) (qs_aload kd_SR_wire_42 (fg_33 ww_266 kd_SR_wire_44 (qs_iret kd_SR_wire_47))))) (qs_aload kd_SR_wire_32 (fg_34 ww_181 kd_SR_wire_34 (qs_iret kd_SR_wire_37))))))))))))))) (qs_iconst kd_SR_wire_9 (by decide) (qs_iret kd_SR_wire_10)))))))
def sp_SR_wire : qa_sp := fun args M Po => match args with
  | [.ref a0, .int a1, .int a2, .int a3] => kc_SR_wire_0 Po (0, 0) [some (.ref a0), some (.int a1), some (.int a2), some (.int a3), none] [] M
  | _ => False
theorem ct_SR_wire (l : Launch) (sc : qa_Z) : qa_T l ym_SR_wire (Cond.code ym_SR_wire prog_1_method_15_code 5 (some .int) :: q_W0) rm_SR_wire sc (sp_SR_wire) := by
  intro D E B args M Po h
  unfold sp_SR_wire at h
  split at h
  · exact qa_ct (ini := false) (by decide) (by decide) (Nat.le_of_ble_eq_true rfl) (qa_lvok rfl) (ks_SR_wire_0 l D E B sc Po) h
  · exact h.elim
theorem kd_SR_items_0 : decode prog_1_method_16_code 0 = .ok (.iload_n 1, 1) := by decide +kernel
theorem kd_SR_items_1 : decode prog_1_method_16_code 1 = .ok (.invokestatic 22, 3) := by decide +kernel
theorem kd_SR_items_4 : decode prog_1_method_16_code 4 = .ok (.ifCond .eq 18, 3) := by decide +kernel
theorem kd_SR_items_7 : decode prog_1_method_16_code 7 = .ok (.aload_n 0, 1) := by decide +kernel
theorem kd_SR_items_8 : decode prog_1_method_16_code 8 = .ok (.getfield 18, 3) := by decide +kernel
theorem kd_SR_items_11 : decode prog_1_method_16_code 11 = .ok (.iload_n 1, 1) := by decide +kernel
theorem kd_SR_items_12 : decode prog_1_method_16_code 12 = .ok (.aaload, 1) := by decide +kernel
theorem kd_SR_items_13 : decode prog_1_method_16_code 13 = .ok (.getfield 132, 3) := by decide +kernel
theorem kd_SR_items_16 : decode prog_1_method_16_code 16 = .ok (.getfield 161, 3) := by decide +kernel
theorem kd_SR_items_19 : decode prog_1_method_16_code 19 = .ok (.goto 4, 3) := by decide +kernel
theorem kd_SR_items_22 : decode prog_1_method_16_code 22 = .ok (.iconst (-1), 1) := by decide +kernel
theorem kd_SR_items_23 : decode prog_1_method_16_code 23 = .ok (.ireturn, 1) := by decide +kernel
def kc_SR_items_23 (Po : Option Value → qa_M → Prop) : qa_K := (qi_iret (0, 0) Po)
def kc_SR_items_0 (Po : Option Value → qa_M → Prop) : qa_K := (qi_iload 1 (qi_call 1 (0, 0) sp_SR_isEnd (qi_ifeq (qi_ic (-1) (kc_SR_items_23 Po)) (qi_aload 0 (qi_gp 1 1 (qi_iload 1 (qi_aald 1001 (qi_gp 6 165 (qi_gi 3 65 (kc_SR_items_23 Po))))))))))
abbrev kS_SR_items (l : Launch) (D : va_G) (E : Nat → ClassId) (B : Nat) (sc : qa_Z) (Po : Option Value → qa_M → Prop) (pc : Nat) (k : qa_K) : Prop := qa_S l "SealedRecords" prog_1_method_16_code 2 (some .int) false D E B rm_SR_items sc (qa_Qf D E B rm_SR_items Po) pc k
theorem ks_SR_items_23 (l : Launch) (D : va_G) (E : Nat → ClassId) (B : Nat) (sc : qa_Z) (Po : Option Value → qa_M → Prop) : kS_SR_items l D E B sc Po 23 (kc_SR_items_23 Po) := (qs_iret kd_SR_items_23)
theorem ks_SR_items_0 (l : Launch) (D : va_G) (E : Nat → ClassId) (B : Nat) (sc : qa_Z) (Po : Option Value → qa_M → Prop) : kS_SR_items l D E B sc Po 0 (kc_SR_items_0 Po) := (qs_iload_n kd_SR_items_0 rfl (qs_calls (ct_SR_isEnd l sc) ww_61 (by decide) (by decide) ww_62 ww_63 ww_1 yd_SR_isEnd kd_SR_items_1 (qs_ifeq (tgt := 22) kd_SR_items_4 (by decide) (qs_iconst kd_SR_items_22 (by decide) (ks_SR_items_23 l D E B sc Po)) (qs_aload_n kd_SR_items_7 rfl (fg_1 ww_57 kd_SR_items_8 (qs_iload_n kd_SR_items_11 rfl (qs_aald (κ := 1001) (t := 0) rfl (fun _ => rfl) (by decide) kd_SR_items_12 (fg_165 ww_251 kd_SR_items_13 (fg_65 ww_269 kd_SR_items_16 (qs_goto (tgt := 23) kd_SR_items_19 (by decide) (ks_SR_items_23 l D E B sc Po)))))))))))
def sp_SR_items : qa_sp := fun args M Po => match args with
  | [.ref a0, .int a1] => kc_SR_items_0 Po (0, 0) [some (.ref a0), some (.int a1)] [] M
  | _ => False
theorem ct_SR_items (l : Launch) (sc : qa_Z) : qa_T l ym_SR_items (Cond.code ym_SR_items prog_1_method_16_code 2 (some .int) :: q_W0) rm_SR_items sc (sp_SR_items) := by
  intro D E B args M Po h
  unfold sp_SR_items at h
  split at h
  · exact qa_ct (ini := false) (by decide) (by decide) (Nat.le_of_ble_eq_true rfl) (qa_lvok rfl) (ks_SR_items_0 l D E B sc Po) h
  · exact h.elim
theorem kd_SR_item_0 : decode prog_1_method_17_code 0 = .ok (.iload_n 1, 1) := by decide +kernel
theorem kd_SR_item_1 : decode prog_1_method_17_code 1 = .ok (.invokestatic 22, 3) := by decide +kernel
theorem kd_SR_item_4 : decode prog_1_method_17_code 4 = .ok (.ifCond .eq 19, 3) := by decide +kernel
theorem kd_SR_item_7 : decode prog_1_method_17_code 7 = .ok (.aload_n 0, 1) := by decide +kernel
theorem kd_SR_item_8 : decode prog_1_method_17_code 8 = .ok (.getfield 18, 3) := by decide +kernel
theorem kd_SR_item_11 : decode prog_1_method_17_code 11 = .ok (.iload_n 1, 1) := by decide +kernel
theorem kd_SR_item_12 : decode prog_1_method_17_code 12 = .ok (.aaload, 1) := by decide +kernel
theorem kd_SR_item_13 : decode prog_1_method_17_code 13 = .ok (.getfield 132, 3) := by decide +kernel
theorem kd_SR_item_16 : decode prog_1_method_17_code 16 = .ok (.iconst 0, 1) := by decide +kernel
theorem kd_SR_item_17 : decode prog_1_method_17_code 17 = .ok (.invokevirtual 125, 3) := by decide +kernel
theorem kd_SR_item_20 : decode prog_1_method_17_code 20 = .ok (.ifCond .ne 5, 3) := by decide +kernel
theorem kd_SR_item_23 : decode prog_1_method_17_code 23 = .ok (.iconst (-1), 1) := by decide +kernel
theorem kd_SR_item_24 : decode prog_1_method_17_code 24 = .ok (.ireturn, 1) := by decide +kernel
theorem kd_SR_item_25 : decode prog_1_method_17_code 25 = .ok (.aload_n 0, 1) := by decide +kernel
theorem kd_SR_item_26 : decode prog_1_method_17_code 26 = .ok (.getfield 18, 3) := by decide +kernel
theorem kd_SR_item_29 : decode prog_1_method_17_code 29 = .ok (.iload_n 1, 1) := by decide +kernel
theorem kd_SR_item_30 : decode prog_1_method_17_code 30 = .ok (.aaload, 1) := by decide +kernel
theorem kd_SR_item_31 : decode prog_1_method_17_code 31 = .ok (.getfield 132, 3) := by decide +kernel
theorem kd_SR_item_34 : decode prog_1_method_17_code 34 = .ok (.getfield 143, 3) := by decide +kernel
theorem kd_SR_item_37 : decode prog_1_method_17_code 37 = .ok (.iconst 0, 1) := by decide +kernel
theorem kd_SR_item_38 : decode prog_1_method_17_code 38 = .ok (.aaload, 1) := by decide +kernel
theorem kd_SR_item_39 : decode prog_1_method_17_code 39 = .ok (.astore_n 3, 1) := by decide +kernel
theorem kd_SR_item_40 : decode prog_1_method_17_code 40 = .ok (.iload_n 2, 1) := by decide +kernel
theorem kd_SR_item_41 : decode prog_1_method_17_code 41 = .ok (.bipush (-2), 2) := by decide +kernel
theorem kd_SR_item_43 : decode prog_1_method_17_code 43 = .ok (.if_icmp .ne 8, 3) := by decide +kernel
theorem kd_SR_item_46 : decode prog_1_method_17_code 46 = .ok (.aload_n 3, 1) := by decide +kernel
theorem kd_SR_item_47 : decode prog_1_method_17_code 47 = .ok (.getfield 147, 3) := by decide +kernel
theorem kd_SR_item_50 : decode prog_1_method_17_code 50 = .ok (.ireturn, 1) := by decide +kernel
theorem kd_SR_item_51 : decode prog_1_method_17_code 51 = .ok (.iload_n 2, 1) := by decide +kernel
theorem kd_SR_item_52 : decode prog_1_method_17_code 52 = .ok (.iconst (-1), 1) := by decide +kernel
theorem kd_SR_item_53 : decode prog_1_method_17_code 53 = .ok (.if_icmp .ne 8, 3) := by decide +kernel
theorem kd_SR_item_56 : decode prog_1_method_17_code 56 = .ok (.aload_n 3, 1) := by decide +kernel
theorem kd_SR_item_57 : decode prog_1_method_17_code 57 = .ok (.getfield 122, 3) := by decide +kernel
theorem kd_SR_item_60 : decode prog_1_method_17_code 60 = .ok (.ireturn, 1) := by decide +kernel
theorem kd_SR_item_61 : decode prog_1_method_17_code 61 = .ok (.iload_n 2, 1) := by decide +kernel
theorem kd_SR_item_62 : decode prog_1_method_17_code 62 = .ok (.ifCond .lt 20, 3) := by decide +kernel
theorem kd_SR_item_65 : decode prog_1_method_17_code 65 = .ok (.iload_n 2, 1) := by decide +kernel
theorem kd_SR_item_66 : decode prog_1_method_17_code 66 = .ok (.aload_n 3, 1) := by decide +kernel
theorem kd_SR_item_67 : decode prog_1_method_17_code 67 = .ok (.getfield 122, 3) := by decide +kernel
theorem kd_SR_item_70 : decode prog_1_method_17_code 70 = .ok (.if_icmp .ge 12, 3) := by decide +kernel
theorem kd_SR_item_73 : decode prog_1_method_17_code 73 = .ok (.aload_n 3, 1) := by decide +kernel
theorem kd_SR_item_74 : decode prog_1_method_17_code 74 = .ok (.getfield 150, 3) := by decide +kernel
theorem kd_SR_item_77 : decode prog_1_method_17_code 77 = .ok (.iload_n 2, 1) := by decide +kernel
theorem kd_SR_item_78 : decode prog_1_method_17_code 78 = .ok (.iaload, 1) := by decide +kernel
theorem kd_SR_item_79 : decode prog_1_method_17_code 79 = .ok (.goto 4, 3) := by decide +kernel
theorem kd_SR_item_82 : decode prog_1_method_17_code 82 = .ok (.iconst (-1), 1) := by decide +kernel
theorem kd_SR_item_83 : decode prog_1_method_17_code 83 = .ok (.ireturn, 1) := by decide +kernel
def kc_SR_item_83 (Po : Option Value → qa_M → Prop) : qa_K := (qi_iret (0, 0) Po)
def kc_SR_item_82 (Po : Option Value → qa_M → Prop) : qa_K := (qi_ic (-1) (kc_SR_item_83 Po))
def kc_SR_item_23 (Po : Option Value → qa_M → Prop) : qa_K := (qi_ic (-1) (qi_iret (0, 0) Po))
def kc_SR_item_0 (Po : Option Value → qa_M → Prop) : qa_K := (qi_iload 1 (qi_call 1 (0, 0) sp_SR_isEnd (qi_ifeq (kc_SR_item_23 Po) (qi_aload 0 (qi_gp 1 1 (qi_iload 1 (qi_aald 1001 (qi_gp 6 165 (qi_ic (nI 0) (qi_callv 2 3 (0, 0) sp_Rw_has (qi_ifne (qi_aload 0 (qi_gp 1 1 (qi_iload 1 (qi_aald 1001 (qi_gp 6 165 (qi_gp 3 64 (qi_ic (nI 0) (qi_aald 1064 (qi_astore 3 (qi_iload 2 (qi_ic (-2) (qi_icne (qi_iload 2 (qi_ic (-1) (qi_icne (qi_iload 2 (qi_iflt (kc_SR_item_82 Po) (qi_iload 2 (qi_aload 3 (qi_gi 2 34 (qi_icge (kc_SR_item_82 Po) (qi_aload 3 (qi_gp 2 32 (qi_iload 2 (qi_iald 1032 (kc_SR_item_83 Po))))))))))) (qi_aload 3 (qi_gi 2 34 (qi_iret (0, 0) Po)))))) (qi_aload 3 (qi_gi 2 33 (qi_iret (0, 0) Po))))))))))))))) (kc_SR_item_23 Po))))))))))))
abbrev kS_SR_item (l : Launch) (D : va_G) (E : Nat → ClassId) (B : Nat) (sc : qa_Z) (Po : Option Value → qa_M → Prop) (pc : Nat) (k : qa_K) : Prop := qa_S l "SealedRecords" prog_1_method_17_code 4 (some .int) false D E B rm_SR_item sc (qa_Qf D E B rm_SR_item Po) pc k
theorem ks_SR_item_83 (l : Launch) (D : va_G) (E : Nat → ClassId) (B : Nat) (sc : qa_Z) (Po : Option Value → qa_M → Prop) : kS_SR_item l D E B sc Po 83 (kc_SR_item_83 Po) := (qs_iret kd_SR_item_83)
theorem ks_SR_item_82 (l : Launch) (D : va_G) (E : Nat → ClassId) (B : Nat) (sc : qa_Z) (Po : Option Value → qa_M → Prop) : kS_SR_item l D E B sc Po 82 (kc_SR_item_82 Po) := (qs_iconst kd_SR_item_82 (by decide) (ks_SR_item_83 l D E B sc Po))
theorem ks_SR_item_23 (l : Launch) (D : va_G) (E : Nat → ClassId) (B : Nat) (sc : qa_Z) (Po : Option Value → qa_M → Prop) : kS_SR_item l D E B sc Po 23 (kc_SR_item_23 Po) := (qs_iconst kd_SR_item_23 (by decide) (qs_iret kd_SR_item_24))
theorem ks_SR_item_0 (l : Launch) (D : va_G) (E : Nat → ClassId) (B : Nat) (sc : qa_Z) (Po : Option Value → qa_M → Prop) : kS_SR_item l D E B sc Po 0 (kc_SR_item_0 Po) := (qs_iload_n kd_SR_item_0 rfl (qs_calls (ct_SR_isEnd l sc) ww_61 (by decide) (by decide) ww_62 ww_63 ww_1 yd_SR_isEnd kd_SR_item_1 (qs_ifeq (tgt := 23) kd_SR_item_4 (by decide) (ks_SR_item_23 l D E B sc Po) (qs_aload_n kd_SR_item_7 rfl (fg_1 ww_57 kd_SR_item_8 (qs_iload_n kd_SR_item_11 rfl (qs_aald (κ := 1001) (t := 0) rfl (fun _ => rfl) (by decide) kd_SR_item_12 (fg_165 ww_251 kd_SR_item_13 (qs_iconst kd_SR_item_16 (by decide) (qs_callv (ci := 2) (ct_Rw_has l sc) ww_247 (by decide) rfl (by decide) ww_248 ww_249 ww_250 ww_5 yd_Rw_has kd_SR_item_17 (qs_ifne (tgt := 25) kd_SR_item_20 (by decide) (qs_aload_n kd_SR_item_25 rfl (fg_1 ww_57 kd_SR_item_26 (qs_iload_n kd_SR_item_29 rfl (qs_aald (κ := 1001) (t := 0) rfl (fun _ => rfl) (by decide) kd_SR_item_30 (fg_165 ww_251 kd_SR_item_31 (fg_64 ww_264 kd_SR_item_34 (qs_iconst kd_SR_item_37 (by decide) (qs_aald (κ := 1064) (t := 1) rfl (fun _ => rfl) (by decide) kd_SR_item_38 (qs_astore_n kd_SR_item_39 rfl (by decide) (qs_iload_n kd_SR_item_40 rfl (qs_bipush kd_SR_item_41 (by decide) (qs_icne (tgt := 51) kd_SR_item_43 (by decide) (qs_iload_n kd_SR_item_51 rfl (qs_iconst kd_SR_item_52 (by decide) (qs_icne (tgt := 61) kd_SR_item_53 (by decide) (qs_iload_n kd_SR_item_61 rfl (qs_iflt (tgt := 82) kd_SR_item_62 (by decide) (ks_SR_item_82 l D E B sc Po) (qs_iload_n kd_SR_item_65 rfl (qs_aload_n kd_SR_item_66 rfl (fg_34 ww_181 kd_SR_item_67 (qs_icge (tgt := 82) kd_SR_item_70 (by decide) (ks_SR_item_82 l D E B sc Po) (qs_aload_n kd_SR_item_73 rfl (fg_32 ww_265 kd_SR_item_74 (qs_iload_n kd_SR_item_77 rfl (qs_iald (κ := 1032) rfl (by decide) kd_SR_item_78 (qs_goto (tgt := 83) kd_SR_item_79 (by decide) (ks_SR_item_83 l D E B sc Po)))))))))))) (qs_aload_n kd_SR_item_56 rfl (fg_34 ww_181 kd_SR_item_57 (qs_iret kd_SR_item_60)))))) (qs_aload_n kd_SR_item_46 rfl (fg_33 ww_266 kd_SR_item_47 (qs_iret kd_SR_item_50))))))))))))))) (ks_SR_item_23 l D E B sc Po))))))))))))
def sp_SR_item : qa_sp := fun args M Po => match args with
  | [.ref a0, .int a1, .int a2] => kc_SR_item_0 Po (0, 0) [some (.ref a0), some (.int a1), some (.int a2), none] [] M
  | _ => False
theorem ct_SR_item (l : Launch) (sc : qa_Z) : qa_T l ym_SR_item (Cond.code ym_SR_item prog_1_method_17_code 4 (some .int) :: q_W0) rm_SR_item sc (sp_SR_item) := by
  intro D E B args M Po h
  unfold sp_SR_item at h
  split at h
  · exact qa_ct (ini := false) (by decide) (by decide) (Nat.le_of_ble_eq_true rfl) (qa_lvok rfl) (ks_SR_item_0 l D E B sc Po) h
  · exact h.elim
theorem kd_SR_take_0 : decode prog_1_method_18_code 0 = .ok (.iload_n 1, 1) := by decide +kernel
theorem kd_SR_take_1 : decode prog_1_method_18_code 1 = .ok (.invokestatic 22, 3) := by decide +kernel
theorem kd_SR_take_4 : decode prog_1_method_18_code 4 = .ok (.ifCond .eq 19, 3) := by decide +kernel
theorem kd_SR_take_7 : decode prog_1_method_18_code 7 = .ok (.aload_n 0, 1) := by decide +kernel
theorem kd_SR_take_8 : decode prog_1_method_18_code 8 = .ok (.getfield 18, 3) := by decide +kernel
theorem kd_SR_take_11 : decode prog_1_method_18_code 11 = .ok (.iload_n 1, 1) := by decide +kernel
theorem kd_SR_take_12 : decode prog_1_method_18_code 12 = .ok (.aaload, 1) := by decide +kernel
theorem kd_SR_take_13 : decode prog_1_method_18_code 13 = .ok (.getfield 132, 3) := by decide +kernel
theorem kd_SR_take_16 : decode prog_1_method_18_code 16 = .ok (.iconst 0, 1) := by decide +kernel
theorem kd_SR_take_17 : decode prog_1_method_18_code 17 = .ok (.invokevirtual 125, 3) := by decide +kernel
theorem kd_SR_take_20 : decode prog_1_method_18_code 20 = .ok (.ifCond .ne 5, 3) := by decide +kernel
theorem kd_SR_take_23 : decode prog_1_method_18_code 23 = .ok (.iconst 0, 1) := by decide +kernel
theorem kd_SR_take_24 : decode prog_1_method_18_code 24 = .ok (.ireturn, 1) := by decide +kernel
theorem kd_SR_take_25 : decode prog_1_method_18_code 25 = .ok (.aload_n 0, 1) := by decide +kernel
theorem kd_SR_take_26 : decode prog_1_method_18_code 26 = .ok (.getfield 18, 3) := by decide +kernel
theorem kd_SR_take_29 : decode prog_1_method_18_code 29 = .ok (.iload_n 1, 1) := by decide +kernel
theorem kd_SR_take_30 : decode prog_1_method_18_code 30 = .ok (.aaload, 1) := by decide +kernel
theorem kd_SR_take_31 : decode prog_1_method_18_code 31 = .ok (.getfield 132, 3) := by decide +kernel
theorem kd_SR_take_34 : decode prog_1_method_18_code 34 = .ok (.iconst 0, 1) := by decide +kernel
theorem kd_SR_take_35 : decode prog_1_method_18_code 35 = .ok (.invokevirtual 128, 3) := by decide +kernel
theorem kd_SR_take_38 : decode prog_1_method_18_code 38 = .ok (.pop, 1) := by decide +kernel
theorem kd_SR_take_39 : decode prog_1_method_18_code 39 = .ok (.iconst 1, 1) := by decide +kernel
theorem kd_SR_take_40 : decode prog_1_method_18_code 40 = .ok (.ireturn, 1) := by decide +kernel
def kc_SR_take_23 (Po : Option Value → qa_M → Prop) : qa_K := (qi_ic (nI 0) (qi_zret (0, 0) Po))
def kc_SR_take_0 (Po : Option Value → qa_M → Prop) : qa_K := (qi_iload 1 (qi_call 1 (0, 0) sp_SR_isEnd (qi_ifeq (kc_SR_take_23 Po) (qi_aload 0 (qi_gp 1 1 (qi_iload 1 (qi_aald 1001 (qi_gp 6 165 (qi_ic (nI 0) (qi_callv 2 3 (0, 0) sp_Rw_has (qi_ifne (qi_aload 0 (qi_gp 1 1 (qi_iload 1 (qi_aald 1001 (qi_gp 6 165 (qi_ic (nI 0) (qi_callv 2 3 (0, 0) sp_Rw_remove (qi_pop (qi_ic (nI 1) (qi_zret (0, 0) Po)))))))))) (kc_SR_take_23 Po))))))))))))
abbrev kS_SR_take (l : Launch) (D : va_G) (E : Nat → ClassId) (B : Nat) (sc : qa_Z) (Po : Option Value → qa_M → Prop) (pc : Nat) (k : qa_K) : Prop := qa_S l "SealedRecords" prog_1_method_18_code 2 (some .boolean) false D E B rm_SR_take sc (qa_Qf D E B rm_SR_take Po) pc k
theorem ks_SR_take_23 (l : Launch) (D : va_G) (E : Nat → ClassId) (B : Nat) (sc : qa_Z) (Po : Option Value → qa_M → Prop) : kS_SR_take l D E B sc Po 23 (kc_SR_take_23 Po) := (qs_iconst kd_SR_take_23 (by decide) (qs_zret kd_SR_take_24))
theorem ks_SR_take_0 (l : Launch) (D : va_G) (E : Nat → ClassId) (B : Nat) (sc : qa_Z) (Po : Option Value → qa_M → Prop) : kS_SR_take l D E B sc Po 0 (kc_SR_take_0 Po) := (qs_iload_n kd_SR_take_0 rfl (qs_calls (ct_SR_isEnd l sc) ww_61 (by decide) (by decide) ww_62 ww_63 ww_1 yd_SR_isEnd kd_SR_take_1 (qs_ifeq (tgt := 23) kd_SR_take_4 (by decide) (ks_SR_take_23 l D E B sc Po) (qs_aload_n kd_SR_take_7 rfl (fg_1 ww_57 kd_SR_take_8 (qs_iload_n kd_SR_take_11 rfl (qs_aald (κ := 1001) (t := 0) rfl (fun _ => rfl) (by decide) kd_SR_take_12 (fg_165 ww_251 kd_SR_take_13 (qs_iconst kd_SR_take_16 (by decide) (qs_callv (ci := 2) (ct_Rw_has l sc) ww_247 (by decide) rfl (by decide) ww_248 ww_249 ww_250 ww_5 yd_Rw_has kd_SR_take_17 (qs_ifne (tgt := 25) kd_SR_take_20 (by decide) (qs_aload_n kd_SR_take_25 rfl (fg_1 ww_57 kd_SR_take_26 (qs_iload_n kd_SR_take_29 rfl (qs_aald (κ := 1001) (t := 0) rfl (fun _ => rfl) (by decide) kd_SR_take_30 (fg_165 ww_251 kd_SR_take_31 (qs_iconst kd_SR_take_34 (by decide) (qs_callv (ci := 2) (ct_Rw_remove l sc) ww_252 (by decide) rfl (by decide) ww_253 ww_254 ww_255 ww_5 yd_Rw_remove kd_SR_take_35 (qs_pop kd_SR_take_38 (qs_iconst kd_SR_take_39 (by decide) (qs_zret kd_SR_take_40)))))))))) (ks_SR_take_23 l D E B sc Po))))))))))))
def sp_SR_take : qa_sp := fun args M Po => match args with
  | [.ref a0, .int a1] => kc_SR_take_0 Po (0, 0) [some (.ref a0), some (.int a1)] [] M
  | _ => False
theorem ct_SR_take (l : Launch) (sc : qa_Z) : qa_T l ym_SR_take (Cond.code ym_SR_take prog_1_method_18_code 2 (some .boolean) :: q_W0) rm_SR_take sc (sp_SR_take) := by
  intro D E B args M Po h
  unfold sp_SR_take at h
  split at h
  · exact qa_ct (ini := false) (by decide) (by decide) (Nat.le_of_ble_eq_true rfl) (qa_lvok rfl) (ks_SR_take_0 l D E B sc Po) h
  · exact h.elim
theorem kd_SR_asNumber_0 : decode prog_1_method_23_code 0 = .ok (.iload_n 0, 1) := by decide +kernel
theorem kd_SR_asNumber_1 : decode prog_1_method_23_code 1 = .ok (.ifCond .eq 7, 3) := by decide +kernel
theorem kd_SR_asNumber_4 : decode prog_1_method_23_code 4 = .ok (.iconst 1, 1) := by decide +kernel
theorem kd_SR_asNumber_5 : decode prog_1_method_23_code 5 = .ok (.goto 4, 3) := by decide +kernel
theorem kd_SR_asNumber_8 : decode prog_1_method_23_code 8 = .ok (.iconst 0, 1) := by decide +kernel
theorem kd_SR_asNumber_9 : decode prog_1_method_23_code 9 = .ok (.ireturn, 1) := by decide +kernel
def kc_SR_asNumber_9 (Po : Option Value → qa_M → Prop) : qa_K := (qi_iret (0, 0) Po)
def kc_SR_asNumber_0 (Po : Option Value → qa_M → Prop) : qa_K := (qi_iload 0 (qi_ifeq (qi_ic (nI 0) (kc_SR_asNumber_9 Po)) (qi_ic (nI 1) (kc_SR_asNumber_9 Po))))
abbrev kS_SR_asNumber (l : Launch) (D : va_G) (E : Nat → ClassId) (B : Nat) (sc : qa_Z) (Po : Option Value → qa_M → Prop) (pc : Nat) (k : qa_K) : Prop := qa_S l "SealedRecords" prog_1_method_23_code 1 (some .int) false D E B rm_SR_asNumber sc (qa_Qf D E B rm_SR_asNumber Po) pc k
theorem ks_SR_asNumber_9 (l : Launch) (D : va_G) (E : Nat → ClassId) (B : Nat) (sc : qa_Z) (Po : Option Value → qa_M → Prop) : kS_SR_asNumber l D E B sc Po 9 (kc_SR_asNumber_9 Po) := (qs_iret kd_SR_asNumber_9)
theorem ks_SR_asNumber_0 (l : Launch) (D : va_G) (E : Nat → ClassId) (B : Nat) (sc : qa_Z) (Po : Option Value → qa_M → Prop) : kS_SR_asNumber l D E B sc Po 0 (kc_SR_asNumber_0 Po) := (qs_iload_n kd_SR_asNumber_0 rfl (qs_ifeq (tgt := 8) kd_SR_asNumber_1 (by decide) (qs_iconst kd_SR_asNumber_8 (by decide) (ks_SR_asNumber_9 l D E B sc Po)) (qs_iconst kd_SR_asNumber_4 (by decide) (qs_goto (tgt := 9) kd_SR_asNumber_5 (by decide) (ks_SR_asNumber_9 l D E B sc Po)))))
def sp_SR_asNumber : qa_sp := fun args M Po => match args with
  | [.int a1] => kc_SR_asNumber_0 Po (0, 0) [some (.int a1)] [] M
  | _ => False
theorem ct_SR_asNumber (l : Launch) (sc : qa_Z) : qa_T l ym_SR_asNumber (Cond.code ym_SR_asNumber prog_1_method_23_code 1 (some .int) :: q_W0) rm_SR_asNumber sc (sp_SR_asNumber) := by
  intro D E B args M Po h
  unfold sp_SR_asNumber at h
  split at h
  · exact qa_ct (ini := false) (by decide) (by decide) (Nat.le_of_ble_eq_true rfl) (qa_lvok rfl) (ks_SR_asNumber_0 l D E B sc Po) h
  · exact h.elim
theorem kd_SR_look_0 : decode prog_1_method_19_code 0 = .ok (.iload_n 1, 1) := by decide +kernel
theorem kd_SR_look_1 : decode prog_1_method_19_code 1 = .ok (.invokestatic 22, 3) := by decide +kernel
theorem kd_SR_look_4 : decode prog_1_method_19_code 4 = .ok (.ifCond .ne 5, 3) := by decide +kernel
theorem kd_SR_look_7 : decode prog_1_method_19_code 7 = .ok (.iconst (-1), 1) := by decide +kernel
theorem kd_SR_look_8 : decode prog_1_method_19_code 8 = .ok (.ireturn, 1) := by decide +kernel
theorem kd_SR_look_9 : decode prog_1_method_19_code 9 = .ok (.aload_n 0, 1) := by decide +kernel
theorem kd_SR_look_10 : decode prog_1_method_19_code 10 = .ok (.getfield 18, 3) := by decide +kernel
theorem kd_SR_look_13 : decode prog_1_method_19_code 13 = .ok (.iload_n 1, 1) := by decide +kernel
theorem kd_SR_look_14 : decode prog_1_method_19_code 14 = .ok (.aaload, 1) := by decide +kernel
theorem kd_SR_look_15 : decode prog_1_method_19_code 15 = .ok (.astore_n 3, 1) := by decide +kernel
theorem kd_SR_look_16 : decode prog_1_method_19_code 16 = .ok (.iload_n 2, 1) := by decide +kernel
theorem kd_SR_look_17 : decode prog_1_method_19_code 17 = .ok (.tableswitch 135 0 9 #[55, 60, 68, 76, 87, 95, 103, 108, 119, 127], 55) := by decide +kernel
theorem kd_SR_look_72 : decode prog_1_method_19_code 72 = .ok (.aload_n 3, 1) := by decide +kernel
theorem kd_SR_look_73 : decode prog_1_method_19_code 73 = .ok (.getfield 26, 3) := by decide +kernel
theorem kd_SR_look_76 : decode prog_1_method_19_code 76 = .ok (.ireturn, 1) := by decide +kernel
theorem kd_SR_look_77 : decode prog_1_method_19_code 77 = .ok (.aload_n 3, 1) := by decide +kernel
theorem kd_SR_look_78 : decode prog_1_method_19_code 78 = .ok (.getfield 39, 3) := by decide +kernel
theorem kd_SR_look_81 : decode prog_1_method_19_code 81 = .ok (.getfield 52, 3) := by decide +kernel
theorem kd_SR_look_84 : decode prog_1_method_19_code 84 = .ok (.ireturn, 1) := by decide +kernel
theorem kd_SR_look_85 : decode prog_1_method_19_code 85 = .ok (.aload_n 3, 1) := by decide +kernel
theorem kd_SR_look_86 : decode prog_1_method_19_code 86 = .ok (.getfield 39, 3) := by decide +kernel
theorem kd_SR_look_89 : decode prog_1_method_19_code 89 = .ok (.getfield 104, 3) := by decide +kernel
theorem kd_SR_look_92 : decode prog_1_method_19_code 92 = .ok (.ireturn, 1) := by decide +kernel
theorem kd_SR_look_93 : decode prog_1_method_19_code 93 = .ok (.aload_n 3, 1) := by decide +kernel
theorem kd_SR_look_94 : decode prog_1_method_19_code 94 = .ok (.getfield 39, 3) := by decide +kernel
theorem kd_SR_look_97 : decode prog_1_method_19_code 97 = .ok (.getfield 46, 3) := by decide +kernel
theorem kd_SR_look_100 : decode prog_1_method_19_code 100 = .ok (.invokestatic 162, 3) := by decide +kernel
theorem kd_SR_look_103 : decode prog_1_method_19_code 103 = .ok (.ireturn, 1) := by decide +kernel
theorem kd_SR_look_104 : decode prog_1_method_19_code 104 = .ok (.aload_n 3, 1) := by decide +kernel
theorem kd_SR_look_105 : decode prog_1_method_19_code 105 = .ok (.getfield 43, 3) := by decide +kernel
theorem kd_SR_look_108 : decode prog_1_method_19_code 108 = .ok (.getfield 52, 3) := by decide +kernel
theorem kd_SR_look_111 : decode prog_1_method_19_code 111 = .ok (.ireturn, 1) := by decide +kernel
theorem kd_SR_look_112 : decode prog_1_method_19_code 112 = .ok (.aload_n 3, 1) := by decide +kernel
theorem kd_SR_look_113 : decode prog_1_method_19_code 113 = .ok (.getfield 43, 3) := by decide +kernel
theorem kd_SR_look_116 : decode prog_1_method_19_code 116 = .ok (.getfield 104, 3) := by decide +kernel
theorem kd_SR_look_119 : decode prog_1_method_19_code 119 = .ok (.ireturn, 1) := by decide +kernel
theorem kd_SR_look_120 : decode prog_1_method_19_code 120 = .ok (.aload_n 3, 1) := by decide +kernel
theorem kd_SR_look_121 : decode prog_1_method_19_code 121 = .ok (.getfield 166, 3) := by decide +kernel
theorem kd_SR_look_124 : decode prog_1_method_19_code 124 = .ok (.ireturn, 1) := by decide +kernel
theorem kd_SR_look_125 : decode prog_1_method_19_code 125 = .ok (.aload_n 3, 1) := by decide +kernel
theorem kd_SR_look_126 : decode prog_1_method_19_code 126 = .ok (.getfield 55, 3) := by decide +kernel
theorem kd_SR_look_129 : decode prog_1_method_19_code 129 = .ok (.invokevirtual 59, 3) := by decide +kernel
theorem kd_SR_look_132 : decode prog_1_method_19_code 132 = .ok (.invokestatic 162, 3) := by decide +kernel
theorem kd_SR_look_135 : decode prog_1_method_19_code 135 = .ok (.ireturn, 1) := by decide +kernel
theorem kd_SR_look_136 : decode prog_1_method_19_code 136 = .ok (.aload_n 3, 1) := by decide +kernel
theorem kd_SR_look_137 : decode prog_1_method_19_code 137 = .ok (.getfield 83, 3) := by decide +kernel
theorem kd_SR_look_140 : decode prog_1_method_19_code 140 = .ok (.invokestatic 162, 3) := by decide +kernel
theorem kd_SR_look_143 : decode prog_1_method_19_code 143 = .ok (.ireturn, 1) := by decide +kernel
theorem kd_SR_look_144 : decode prog_1_method_19_code 144 = .ok (.aload_n 3, 1) := by decide +kernel
theorem kd_SR_look_145 : decode prog_1_method_19_code 145 = .ok (.getfield 89, 3) := by decide +kernel
theorem kd_SR_look_148 : decode prog_1_method_19_code 148 = .ok (.getfield 122, 3) := by decide +kernel
theorem kd_SR_look_151 : decode prog_1_method_19_code 151 = .ok (.ireturn, 1) := by decide +kernel
theorem kd_SR_look_152 : decode prog_1_method_19_code 152 = .ok (.iconst (-1), 1) := by decide +kernel
theorem kd_SR_look_153 : decode prog_1_method_19_code 153 = .ok (.ireturn, 1) := by decide +kernel
def kc_SR_look_0 (Po : Option Value → qa_M → Prop) : qa_K := (qi_iload 1 (qi_call 1 (0, 0) sp_SR_isEnd (qi_ifne (qi_aload 0 (qi_gp 1 1 (qi_iload 1 (qi_aald 1001 (qi_astore 3 (qi_iload 2 (qi_tsw 0 [(qi_aload 3 (qi_gi 6 170 (qi_iret (0, 0) Po))), (qi_aload 3 (qi_gp 6 161 (qi_gi 4 96 (qi_iret (0, 0) Po)))), (qi_aload 3 (qi_gp 6 161 (qi_gi 4 98 (qi_iret (0, 0) Po)))), (qi_aload 3 (qi_gp 6 161 (qi_gi 4 99 (qi_call 1 (0, 0) sp_SR_asNumber (qi_iret (0, 0) Po))))), (qi_aload 3 (qi_gp 6 162 (qi_gi 4 96 (qi_iret (0, 0) Po)))), (qi_aload 3 (qi_gp 6 162 (qi_gi 4 98 (qi_iret (0, 0) Po)))), (qi_aload 3 (qi_gi 6 171 (qi_iret (0, 0) Po))), (qi_aload 3 (qi_gp 6 166 (qi_callv 1 5 (0, 0) sp_Ms_isOpen (qi_call 1 (0, 0) sp_SR_asNumber (qi_iret (0, 0) Po))))), (qi_aload 3 (qi_gi 6 172 (qi_call 1 (0, 0) sp_SR_asNumber (qi_iret (0, 0) Po)))), (qi_aload 3 (qi_gp 6 163 (qi_gi 2 34 (qi_iret (0, 0) Po))))] (qi_ic (-1) (qi_iret (0, 0) Po))))))))) (qi_ic (-1) (qi_iret (0, 0) Po)))))
abbrev kS_SR_look (l : Launch) (D : va_G) (E : Nat → ClassId) (B : Nat) (sc : qa_Z) (Po : Option Value → qa_M → Prop) (pc : Nat) (k : qa_K) : Prop := qa_S l "SealedRecords" prog_1_method_19_code 4 (some .int) false D E B rm_SR_look sc (qa_Qf D E B rm_SR_look Po) pc k
theorem ks_SR_look_0 (l : Launch) (D : va_G) (E : Nat → ClassId) (B : Nat) (sc : qa_Z) (Po : Option Value → qa_M → Prop) : kS_SR_look l D E B sc Po 0 (kc_SR_look_0 Po) := (qs_iload_n kd_SR_look_0 rfl (qs_calls (ct_SR_isEnd l sc) ww_61 (by decide) (by decide) ww_62 ww_63 ww_1 yd_SR_isEnd kd_SR_look_1 (qs_ifne (tgt := 9) kd_SR_look_4 (by decide) (qs_aload_n kd_SR_look_9 rfl (fg_1 ww_57 kd_SR_look_10 (qs_iload_n kd_SR_look_13 rfl (qs_aald (κ := 1001) (t := 0) rfl (fun _ => rfl) (by decide) kd_SR_look_14 (qs_astore_n kd_SR_look_15 rfl (by decide) (qs_iload_n kd_SR_look_16 rfl (qs_tsw (tgd := 152) kd_SR_look_17 rfl (by decide) (qs_iconst kd_SR_look_152 (by decide) (qs_iret kd_SR_look_153)) (qa_t10 ⟨_, 72, rfl, by decide, (qs_aload_n kd_SR_look_72 rfl (fg_170 ww_64 kd_SR_look_73 (qs_iret kd_SR_look_76)))⟩ ⟨_, 77, rfl, by decide, (qs_aload_n kd_SR_look_77 rfl (fg_161 ww_104 kd_SR_look_78 (fg_96 ww_84 kd_SR_look_81 (qs_iret kd_SR_look_84))))⟩ ⟨_, 85, rfl, by decide, (qs_aload_n kd_SR_look_85 rfl (fg_161 ww_104 kd_SR_look_86 (fg_98 ww_167 kd_SR_look_89 (qs_iret kd_SR_look_92))))⟩ ⟨_, 93, rfl, by decide, (qs_aload_n kd_SR_look_93 rfl (fg_161 ww_104 kd_SR_look_94 (fg_99 ww_93 kd_SR_look_97 (qs_calls (ct_SR_asNumber l sc) ww_270 (by decide) (by decide) ww_271 ww_272 ww_1 yd_SR_asNumber kd_SR_look_100 (qs_iret kd_SR_look_103)))))⟩ ⟨_, 104, rfl, by decide, (qs_aload_n kd_SR_look_104 rfl (fg_162 ww_103 kd_SR_look_105 (fg_96 ww_84 kd_SR_look_108 (qs_iret kd_SR_look_111))))⟩ ⟨_, 112, rfl, by decide, (qs_aload_n kd_SR_look_112 rfl (fg_162 ww_103 kd_SR_look_113 (fg_98 ww_167 kd_SR_look_116 (qs_iret kd_SR_look_119))))⟩ ⟨_, 120, rfl, by decide, (qs_aload_n kd_SR_look_120 rfl (fg_171 ww_273 kd_SR_look_121 (qs_iret kd_SR_look_124)))⟩ ⟨_, 125, rfl, by decide, (qs_aload_n kd_SR_look_125 rfl (fg_166 ww_94 kd_SR_look_126 (qs_callv (ci := 4) (ct_Ms_isOpen l sc) ww_95 (by decide) rfl (by decide) ww_96 ww_97 ww_98 ww_9 yd_Ms_isOpen kd_SR_look_129 (qs_calls (ct_SR_asNumber l sc) ww_270 (by decide) (by decide) ww_271 ww_272 ww_1 yd_SR_asNumber kd_SR_look_132 (qs_iret kd_SR_look_135)))))⟩ ⟨_, 136, rfl, by decide, (qs_aload_n kd_SR_look_136 rfl (fg_172 ww_112 kd_SR_look_137 (qs_calls (ct_SR_asNumber l sc) ww_270 (by decide) (by decide) ww_271 ww_272 ww_1 yd_SR_asNumber kd_SR_look_140 (qs_iret kd_SR_look_143))))⟩ ⟨_, 144, rfl, by decide, (qs_aload_n kd_SR_look_144 rfl (fg_163 ww_117 kd_SR_look_145 (fg_34 ww_181 kd_SR_look_148 (qs_iret kd_SR_look_151))))⟩)))))))) (qs_iconst kd_SR_look_7 (by decide) (qs_iret kd_SR_look_8)))))
def sp_SR_look : qa_sp := fun args M Po => match args with
  | [.ref a0, .int a1, .int a2] => kc_SR_look_0 Po (0, 0) [some (.ref a0), some (.int a1), some (.int a2), none] [] M
  | _ => False
theorem ct_SR_look (l : Launch) (sc : qa_Z) : qa_T l ym_SR_look (Cond.code ym_SR_look prog_1_method_19_code 4 (some .int) :: q_W0) rm_SR_look sc (sp_SR_look) := by
  intro D E B args M Po h
  unfold sp_SR_look at h
  split at h
  · exact qa_ct (ini := false) (by decide) (by decide) (Nat.le_of_ble_eq_true rfl) (qa_lvok rfl) (ks_SR_look_0 l D E B sc Po) h
  · exact h.elim
theorem kd_Mo_init_0 : decode prog_8_method_1_code 0 = .ok (.aload_n 0, 1) := by decide +kernel
theorem kd_Mo_init_1 : decode prog_8_method_1_code 1 = .ok (.invokespecial 1, 3) := by decide +kernel
theorem kd_Mo_init_4 : decode prog_8_method_1_code 4 = .ok (.aload_n 0, 1) := by decide +kernel
theorem kd_Mo_init_5 : decode prog_8_method_1_code 5 = .ok (.iconst 2, 1) := by decide +kernel
theorem kd_Mo_init_6 : decode prog_8_method_1_code 6 = .ok (.newarray .long, 2) := by decide +kernel
theorem kd_Mo_init_8 : decode prog_8_method_1_code 8 = .ok (.putfield 7, 3) := by decide +kernel
theorem kd_Mo_init_11 : decode prog_8_method_1_code 11 = .ok (.aload_n 0, 1) := by decide +kernel
theorem kd_Mo_init_12 : decode prog_8_method_1_code 12 = .ok (.iconst 2, 1) := by decide +kernel
theorem kd_Mo_init_13 : decode prog_8_method_1_code 13 = .ok (.newarray .int, 2) := by decide +kernel
theorem kd_Mo_init_15 : decode prog_8_method_1_code 15 = .ok (.putfield 13, 3) := by decide +kernel
theorem kd_Mo_init_18 : decode prog_8_method_1_code 18 = .ok (.aload_n 0, 1) := by decide +kernel
theorem kd_Mo_init_19 : decode prog_8_method_1_code 19 = .ok (.iconst 4, 1) := by decide +kernel
theorem kd_Mo_init_20 : decode prog_8_method_1_code 20 = .ok (.newarray .int, 2) := by decide +kernel
theorem kd_Mo_init_22 : decode prog_8_method_1_code 22 = .ok (.putfield 17, 3) := by decide +kernel
theorem kd_Mo_init_25 : decode prog_8_method_1_code 25 = .ok (.aload_n 0, 1) := by decide +kernel
theorem kd_Mo_init_26 : decode prog_8_method_1_code 26 = .ok (.iconst 4, 1) := by decide +kernel
theorem kd_Mo_init_27 : decode prog_8_method_1_code 27 = .ok (.newarray .long, 2) := by decide +kernel
theorem kd_Mo_init_29 : decode prog_8_method_1_code 29 = .ok (.putfield 20, 3) := by decide +kernel
theorem kd_Mo_init_32 : decode prog_8_method_1_code 32 = .ok (.aload_n 0, 1) := by decide +kernel
theorem kd_Mo_init_33 : decode prog_8_method_1_code 33 = .ok (.iconst 4, 1) := by decide +kernel
theorem kd_Mo_init_34 : decode prog_8_method_1_code 34 = .ok (.newarray .int, 2) := by decide +kernel
theorem kd_Mo_init_36 : decode prog_8_method_1_code 36 = .ok (.putfield 23, 3) := by decide +kernel
theorem kd_Mo_init_39 : decode prog_8_method_1_code 39 = .ok (.aload_n 0, 1) := by decide +kernel
theorem kd_Mo_init_40 : decode prog_8_method_1_code 40 = .ok (.iconst 4, 1) := by decide +kernel
theorem kd_Mo_init_41 : decode prog_8_method_1_code 41 = .ok (.newarray .boolean, 2) := by decide +kernel
theorem kd_Mo_init_43 : decode prog_8_method_1_code 43 = .ok (.putfield 26, 3) := by decide +kernel
theorem kd_Mo_init_46 : decode prog_8_method_1_code 46 = .ok (.aload_n 0, 1) := by decide +kernel
theorem kd_Mo_init_47 : decode prog_8_method_1_code 47 = .ok (.iconst 2, 1) := by decide +kernel
theorem kd_Mo_init_48 : decode prog_8_method_1_code 48 = .ok (.newarray .int, 2) := by decide +kernel
theorem kd_Mo_init_50 : decode prog_8_method_1_code 50 = .ok (.putfield 30, 3) := by decide +kernel
theorem kd_Mo_init_53 : decode prog_8_method_1_code 53 = .ok (.aload_n 0, 1) := by decide +kernel
theorem kd_Mo_init_54 : decode prog_8_method_1_code 54 = .ok (.iconst 2, 1) := by decide +kernel
theorem kd_Mo_init_55 : decode prog_8_method_1_code 55 = .ok (.newarray .boolean, 2) := by decide +kernel
theorem kd_Mo_init_57 : decode prog_8_method_1_code 57 = .ok (.putfield 33, 3) := by decide +kernel
theorem kd_Mo_init_60 : decode prog_8_method_1_code 60 = .ok (.aload_n 0, 1) := by decide +kernel
theorem kd_Mo_init_61 : decode prog_8_method_1_code 61 = .ok (.bipush 32, 2) := by decide +kernel
theorem kd_Mo_init_63 : decode prog_8_method_1_code 63 = .ok (.newarray .int, 2) := by decide +kernel
theorem kd_Mo_init_65 : decode prog_8_method_1_code 65 = .ok (.putfield 36, 3) := by decide +kernel
theorem kd_Mo_init_68 : decode prog_8_method_1_code 68 = .ok (.aload_n 0, 1) := by decide +kernel
theorem kd_Mo_init_69 : decode prog_8_method_1_code 69 = .ok (.iconst 2, 1) := by decide +kernel
theorem kd_Mo_init_70 : decode prog_8_method_1_code 70 = .ok (.newarray .int, 2) := by decide +kernel
theorem kd_Mo_init_72 : decode prog_8_method_1_code 72 = .ok (.putfield 39, 3) := by decide +kernel
theorem kd_Mo_init_75 : decode prog_8_method_1_code 75 = .ok (.aload_n 0, 1) := by decide +kernel
theorem kd_Mo_init_76 : decode prog_8_method_1_code 76 = .ok (.iconst 2, 1) := by decide +kernel
theorem kd_Mo_init_77 : decode prog_8_method_1_code 77 = .ok (.newarray .int, 2) := by decide +kernel
theorem kd_Mo_init_79 : decode prog_8_method_1_code 79 = .ok (.putfield 42, 3) := by decide +kernel
theorem kd_Mo_init_82 : decode prog_8_method_1_code 82 = .ok (.aload_n 0, 1) := by decide +kernel
theorem kd_Mo_init_83 : decode prog_8_method_1_code 83 = .ok (.bipush 24, 2) := by decide +kernel
theorem kd_Mo_init_85 : decode prog_8_method_1_code 85 = .ok (.newarray .int, 2) := by decide +kernel
theorem kd_Mo_init_87 : decode prog_8_method_1_code 87 = .ok (.putfield 45, 3) := by decide +kernel
theorem kd_Mo_init_90 : decode prog_8_method_1_code 90 = .ok (.aload_n 0, 1) := by decide +kernel
theorem kd_Mo_init_91 : decode prog_8_method_1_code 91 = .ok (.bipush 24, 2) := by decide +kernel
theorem kd_Mo_init_93 : decode prog_8_method_1_code 93 = .ok (.newarray .int, 2) := by decide +kernel
theorem kd_Mo_init_95 : decode prog_8_method_1_code 95 = .ok (.putfield 48, 3) := by decide +kernel
theorem kd_Mo_init_98 : decode prog_8_method_1_code 98 = .ok (.aload_n 0, 1) := by decide +kernel
theorem kd_Mo_init_99 : decode prog_8_method_1_code 99 = .ok (.sipush 960, 3) := by decide +kernel
theorem kd_Mo_init_102 : decode prog_8_method_1_code 102 = .ok (.newarray .int, 2) := by decide +kernel
theorem kd_Mo_init_104 : decode prog_8_method_1_code 104 = .ok (.putfield 51, 3) := by decide +kernel
theorem kd_Mo_init_107 : decode prog_8_method_1_code 107 = .ok (.aload_n 0, 1) := by decide +kernel
theorem kd_Mo_init_108 : decode prog_8_method_1_code 108 = .ok (.iconst 2, 1) := by decide +kernel
theorem kd_Mo_init_109 : decode prog_8_method_1_code 109 = .ok (.newarray .int, 2) := by decide +kernel
theorem kd_Mo_init_111 : decode prog_8_method_1_code 111 = .ok (.putfield 54, 3) := by decide +kernel
theorem kd_Mo_init_114 : decode prog_8_method_1_code 114 = .ok (.aload_n 0, 1) := by decide +kernel
theorem kd_Mo_init_115 : decode prog_8_method_1_code 115 = .ok (.bipush 32, 2) := by decide +kernel
theorem kd_Mo_init_117 : decode prog_8_method_1_code 117 = .ok (.newarray .int, 2) := by decide +kernel
theorem kd_Mo_init_119 : decode prog_8_method_1_code 119 = .ok (.putfield 57, 3) := by decide +kernel
theorem kd_Mo_init_122 : decode prog_8_method_1_code 122 = .ok (.aload_n 0, 1) := by decide +kernel
theorem kd_Mo_init_123 : decode prog_8_method_1_code 123 = .ok (.bipush 32, 2) := by decide +kernel
theorem kd_Mo_init_125 : decode prog_8_method_1_code 125 = .ok (.newarray .int, 2) := by decide +kernel
theorem kd_Mo_init_127 : decode prog_8_method_1_code 127 = .ok (.putfield 60, 3) := by decide +kernel
theorem kd_Mo_init_130 : decode prog_8_method_1_code 130 = .ok (.aload_n 0, 1) := by decide +kernel
theorem kd_Mo_init_131 : decode prog_8_method_1_code 131 = .ok (.sipush 512, 3) := by decide +kernel
theorem kd_Mo_init_134 : decode prog_8_method_1_code 134 = .ok (.newarray .int, 2) := by decide +kernel
theorem kd_Mo_init_136 : decode prog_8_method_1_code 136 = .ok (.putfield 63, 3) := by decide +kernel
theorem kd_Mo_init_139 : decode prog_8_method_1_code 139 = .ok (.aload_n 0, 1) := by decide +kernel
theorem kd_Mo_init_140 : decode prog_8_method_1_code 140 = .ok (.iconst 2, 1) := by decide +kernel
theorem kd_Mo_init_141 : decode prog_8_method_1_code 141 = .ok (.newarray .int, 2) := by decide +kernel
theorem kd_Mo_init_143 : decode prog_8_method_1_code 143 = .ok (.putfield 66, 3) := by decide +kernel
theorem kd_Mo_init_146 : decode prog_8_method_1_code 146 = .ok (.aload_n 0, 1) := by decide +kernel
theorem kd_Mo_init_147 : decode prog_8_method_1_code 147 = .ok (.sipush 600, 3) := by decide +kernel
theorem kd_Mo_init_150 : decode prog_8_method_1_code 150 = .ok (.newarray .int, 2) := by decide +kernel
theorem kd_Mo_init_152 : decode prog_8_method_1_code 152 = .ok (.putfield 69, 3) := by decide +kernel
theorem kd_Mo_init_155 : decode prog_8_method_1_code 155 = .ok (.aload_n 0, 1) := by decide +kernel
theorem kd_Mo_init_156 : decode prog_8_method_1_code 156 = .ok (.bipush 40, 2) := by decide +kernel
theorem kd_Mo_init_158 : decode prog_8_method_1_code 158 = .ok (.newarray .int, 2) := by decide +kernel
theorem kd_Mo_init_160 : decode prog_8_method_1_code 160 = .ok (.putfield 72, 3) := by decide +kernel
theorem kd_Mo_init_163 : decode prog_8_method_1_code 163 = .ok (.aload_n 0, 1) := by decide +kernel
theorem kd_Mo_init_164 : decode prog_8_method_1_code 164 = .ok (.iload_n 1, 1) := by decide +kernel
theorem kd_Mo_init_165 : decode prog_8_method_1_code 165 = .ok (.iconst 1, 1) := by decide +kernel
theorem kd_Mo_init_166 : decode prog_8_method_1_code 166 = .ok (.if_icmp .lt 14, 3) := by decide +kernel
theorem kd_Mo_init_169 : decode prog_8_method_1_code 169 = .ok (.iload_n 1, 1) := by decide +kernel
theorem kd_Mo_init_170 : decode prog_8_method_1_code 170 = .ok (.sipush 1000, 3) := by decide +kernel
theorem kd_Mo_init_173 : decode prog_8_method_1_code 173 = .ok (.if_icmp .gt 7, 3) := by decide +kernel
theorem kd_Mo_init_176 : decode prog_8_method_1_code 176 = .ok (.iload_n 1, 1) := by decide +kernel
theorem kd_Mo_init_177 : decode prog_8_method_1_code 177 = .ok (.goto 5, 3) := by decide +kernel
theorem kd_Mo_init_180 : decode prog_8_method_1_code 180 = .ok (.bipush 100, 2) := by decide +kernel
theorem kd_Mo_init_182 : decode prog_8_method_1_code 182 = .ok (.putfield 75, 3) := by decide +kernel
theorem kd_Mo_init_185 : decode prog_8_method_1_code 185 = .ok (.return_, 1) := by decide +kernel
def kc_Mo_init_182 (Po : Option Value → qa_M → Prop) : qa_K := (qi_pi 7 192 (qi_vret (30, 4000) Po))
def kc_Mo_init_180 (Po : Option Value → qa_M → Prop) : qa_K := (qi_ic (nI 100) (kc_Mo_init_182 Po))
def kc_Mo_init_0 (Po : Option Value → qa_M → Prop) : qa_K := (qi_aload 0 (qi_oinit (qi_aload 0 (qi_ic (nI 2) (qi_newa 1193 (30, 4000) (qi_pp 7 193 (qi_aload 0 (qi_ic (nI 2) (qi_newa 1194 (30, 4000) (qi_pp 7 194 (qi_aload 0 (qi_ic (nI 4) (qi_newa 1195 (30, 4000) (qi_pp 7 195 (qi_aload 0 (qi_ic (nI 4) (qi_newa 1196 (30, 4000) (qi_pp 7 196 (qi_aload 0 (qi_ic (nI 4) (qi_newa 1197 (30, 4000) (qi_pp 7 197 (qi_aload 0 (qi_ic (nI 4) (qi_newa 1198 (30, 4000) (qi_pp 7 198 (qi_aload 0 (qi_ic (nI 2) (qi_newa 1199 (30, 4000) (qi_pp 7 199 (qi_aload 0 (qi_ic (nI 2) (qi_newa 1200 (30, 4000) (qi_pp 7 200 (qi_aload 0 (qi_ic (nI 32) (qi_newa 1201 (30, 4000) (qi_pp 7 201 (qi_aload 0 (qi_ic (nI 2) (qi_newa 1202 (30, 4000) (qi_pp 7 202 (qi_aload 0 (qi_ic (nI 2) (qi_newa 1203 (30, 4000) (qi_pp 7 203 (qi_aload 0 (qi_ic (nI 24) (qi_newa 1204 (30, 4000) (qi_pp 7 204 (qi_aload 0 (qi_ic (nI 24) (qi_newa 1205 (30, 4000) (qi_pp 7 205 (qi_aload 0 (qi_ic (nI 960) (qi_newa 1206 (30, 4000) (qi_pp 7 206 (qi_aload 0 (qi_ic (nI 2) (qi_newa 1207 (30, 4000) (qi_pp 7 207 (qi_aload 0 (qi_ic (nI 32) (qi_newa 1208 (30, 4000) (qi_pp 7 208 (qi_aload 0 (qi_ic (nI 32) (qi_newa 1209 (30, 4000) (qi_pp 7 209 (qi_aload 0 (qi_ic (nI 512) (qi_newa 1210 (30, 4000) (qi_pp 7 210 (qi_aload 0 (qi_ic (nI 2) (qi_newa 1211 (30, 4000) (qi_pp 7 211 (qi_aload 0 (qi_ic (nI 600) (qi_newa 1212 (30, 4000) (qi_pp 7 212 (qi_aload 0 (qi_ic (nI 40) (qi_newa 1215 (30, 4000) (qi_pp 7 215 (qi_aload 0 (qi_iload 1 (qi_ic (nI 1) (qi_iclt (kc_Mo_init_180 Po) (qi_iload 1 (qi_ic (nI 1000) (qi_icgt (kc_Mo_init_180 Po) (qi_iload 1 (kc_Mo_init_182 Po)))))))))))))))))))))))))))))))))))))))))))))))))))))))))))))))))))))))))))))))))))))))))))))))
abbrev kS_Mo_init (l : Launch) (D : va_G) (E : Nat → ClassId) (B : Nat) (sc : qa_Z) (Po : Option Value → qa_M → Prop) (pc : Nat) (k : qa_K) : Prop := qa_S l "SealedRecordsModel" prog_8_method_1_code 2 none true D E B rm_Mo_init sc (qa_Qf D E B rm_Mo_init Po) pc k
theorem ks_Mo_init_182 (l : Launch) (D : va_G) (E : Nat → ClassId) (B : Nat) (sc : qa_Z) (Po : Option Value → qa_M → Prop) : kS_Mo_init l D E B sc Po 182 (kc_Mo_init_182 Po) := (fp_192 rfl ww_274 kd_Mo_init_182 (qs_vret kd_Mo_init_185))
theorem ks_Mo_init_180 (l : Launch) (D : va_G) (E : Nat → ClassId) (B : Nat) (sc : qa_Z) (Po : Option Value → qa_M → Prop) : kS_Mo_init l D E B sc Po 180 (kc_Mo_init_180 Po) := (qs_bipush kd_Mo_init_180 (by decide) (ks_Mo_init_182 l D E B sc Po))
theorem ks_Mo_init_0 (l : Launch) (D : va_G) (E : Nat → ClassId) (B : Nat) (sc : qa_Z) (Po : Option Value → qa_M → Prop) : kS_Mo_init l D E B sc Po 0 (kc_Mo_init_0 Po) := (qs_aload_n kd_Mo_init_0 rfl (qs_oinit ww_275 ww_15 ww_16 (by decide) (by decide) kd_Mo_init_1 (qs_aload_n kd_Mo_init_4 rfl (qs_iconst kd_Mo_init_5 (by decide) (qs_newa (κ := 1193) (t := 1) (at_ := .long) rfl (fun _ => rfl) (by decide) (by decide) (fun _ _ _ _ => by simp [qa_ac, q_at, qa_n_na, qa_ia_na, qa_ja_na]; rfl) ww_276 kd_Mo_init_6 (fp_193 rfl ww_277 kd_Mo_init_8 (qs_aload_n kd_Mo_init_11 rfl (qs_iconst kd_Mo_init_12 (by decide) (qs_newa (κ := 1194) (t := 0) (at_ := .int) rfl (fun _ => rfl) (by decide) (by decide) (fun _ _ _ _ => by simp [qa_ac, q_at, qa_n_na, qa_ia_na, qa_ja_na]; rfl) ww_18 kd_Mo_init_13 (fp_194 rfl ww_278 kd_Mo_init_15 (qs_aload_n kd_Mo_init_18 rfl (qs_iconst kd_Mo_init_19 (by decide) (qs_newa (κ := 1195) (t := 0) (at_ := .int) rfl (fun _ => rfl) (by decide) (by decide) (fun _ _ _ _ => by simp [qa_ac, q_at, qa_n_na, qa_ia_na, qa_ja_na]; rfl) ww_18 kd_Mo_init_20 (fp_195 rfl ww_279 kd_Mo_init_22 (qs_aload_n kd_Mo_init_25 rfl (qs_iconst kd_Mo_init_26 (by decide) (qs_newa (κ := 1196) (t := 1) (at_ := .long) rfl (fun _ => rfl) (by decide) (by decide) (fun _ _ _ _ => by simp [qa_ac, q_at, qa_n_na, qa_ia_na, qa_ja_na]; rfl) ww_276 kd_Mo_init_27 (fp_196 rfl ww_280 kd_Mo_init_29 (qs_aload_n kd_Mo_init_32 rfl (qs_iconst kd_Mo_init_33 (by decide) (qs_newa (κ := 1197) (t := 0) (at_ := .int) rfl (fun _ => rfl) (by decide) (by decide) (fun _ _ _ _ => by simp [qa_ac, q_at, qa_n_na, qa_ia_na, qa_ja_na]; rfl) ww_18 kd_Mo_init_34 (fp_197 rfl ww_281 kd_Mo_init_36 (qs_aload_n kd_Mo_init_39 rfl (qs_iconst kd_Mo_init_40 (by decide) (qs_newa (κ := 1198) (t := 2) (at_ := .boolean) rfl (fun _ => rfl) (by decide) (by decide) (fun _ _ _ _ => by simp [qa_ac, q_at, qa_n_na, qa_ia_na, qa_ja_na]; rfl) ww_282 kd_Mo_init_41 (fp_198 rfl ww_283 kd_Mo_init_43 (qs_aload_n kd_Mo_init_46 rfl (qs_iconst kd_Mo_init_47 (by decide) (qs_newa (κ := 1199) (t := 0) (at_ := .int) rfl (fun _ => rfl) (by decide) (by decide) (fun _ _ _ _ => by simp [qa_ac, q_at, qa_n_na, qa_ia_na, qa_ja_na]; rfl) ww_18 kd_Mo_init_48 (fp_199 rfl ww_284 kd_Mo_init_50 (qs_aload_n kd_Mo_init_53 rfl (qs_iconst kd_Mo_init_54 (by decide) (qs_newa (κ := 1200) (t := 2) (at_ := .boolean) rfl (fun _ => rfl) (by decide) (by decide) (fun _ _ _ _ => by simp [qa_ac, q_at, qa_n_na, qa_ia_na, qa_ja_na]; rfl) ww_282 kd_Mo_init_55 (fp_200 rfl ww_285 kd_Mo_init_57 (qs_aload_n kd_Mo_init_60 rfl (qs_bipush kd_Mo_init_61 (by decide) (qs_newa (κ := 1201) (t := 0) (at_ := .int) rfl (fun _ => rfl) (by decide) (by decide) (fun _ _ _ _ => by simp [qa_ac, q_at, qa_n_na, qa_ia_na, qa_ja_na]; rfl) ww_18 kd_Mo_init_63 (fp_201 rfl ww_286 kd_Mo_init_65 (qs_aload_n kd_Mo_init_68 rfl (qs_iconst kd_Mo_init_69 (by decide) (qs_newa (κ := 1202) (t := 0) (at_ := .int) rfl (fun _ => rfl) (by decide) (by decide) (fun _ _ _ _ => by simp [qa_ac, q_at, qa_n_na, qa_ia_na, qa_ja_na]; rfl) ww_18 kd_Mo_init_70 (fp_202 rfl ww_287 kd_Mo_init_72 (qs_aload_n kd_Mo_init_75 rfl (qs_iconst kd_Mo_init_76 (by decide) (qs_newa (κ := 1203) (t := 0) (at_ := .int) rfl (fun _ => rfl) (by decide) (by decide) (fun _ _ _ _ => by simp [qa_ac, q_at, qa_n_na, qa_ia_na, qa_ja_na]; rfl) ww_18 kd_Mo_init_77 (fp_203 rfl ww_288 kd_Mo_init_79 (qs_aload_n kd_Mo_init_82 rfl (qs_bipush kd_Mo_init_83 (by decide) (qs_newa (κ := 1204) (t := 0) (at_ := .int) rfl (fun _ => rfl) (by decide) (by decide) (fun _ _ _ _ => by simp [qa_ac, q_at, qa_n_na, qa_ia_na, qa_ja_na]; rfl) ww_18 kd_Mo_init_85 (fp_204 rfl ww_289 kd_Mo_init_87 (qs_aload_n kd_Mo_init_90 rfl (qs_bipush kd_Mo_init_91 (by decide) (qs_newa (κ := 1205) (t := 0) (at_ := .int) rfl (fun _ => rfl) (by decide) (by decide) (fun _ _ _ _ => by simp [qa_ac, q_at, qa_n_na, qa_ia_na, qa_ja_na]; rfl) ww_18 kd_Mo_init_93 (fp_205 rfl ww_290 kd_Mo_init_95 (qs_aload_n kd_Mo_init_98 rfl (qs_sipush kd_Mo_init_99 (by decide) (qs_newa (κ := 1206) (t := 0) (at_ := .int) rfl (fun _ => rfl) (by decide) (by decide) (fun _ _ _ _ => by simp [qa_ac, q_at, qa_n_na, qa_ia_na, qa_ja_na]; rfl) ww_18 kd_Mo_init_102 (fp_206 rfl ww_291 kd_Mo_init_104 (qs_aload_n kd_Mo_init_107 rfl (qs_iconst kd_Mo_init_108 (by decide) (qs_newa (κ := 1207) (t := 0) (at_ := .int) rfl (fun _ => rfl) (by decide) (by decide) (fun _ _ _ _ => by simp [qa_ac, q_at, qa_n_na, qa_ia_na, qa_ja_na]; rfl) ww_18 kd_Mo_init_109 (fp_207 rfl ww_292 kd_Mo_init_111 (qs_aload_n kd_Mo_init_114 rfl (qs_bipush kd_Mo_init_115 (by decide) (qs_newa (κ := 1208) (t := 0) (at_ := .int) rfl (fun _ => rfl) (by decide) (by decide) (fun _ _ _ _ => by simp [qa_ac, q_at, qa_n_na, qa_ia_na, qa_ja_na]; rfl) ww_18 kd_Mo_init_117 (fp_208 rfl ww_293 kd_Mo_init_119 (qs_aload_n kd_Mo_init_122 rfl (qs_bipush kd_Mo_init_123 (by decide) (qs_newa (κ := 1209) (t := 0) (at_ := .int) rfl (fun _ => rfl) (by decide) (by decide) (fun _ _ _ _ => by simp [qa_ac, q_at, qa_n_na, qa_ia_na, qa_ja_na]; rfl) ww_18 kd_Mo_init_125 (fp_209 rfl ww_294 kd_Mo_init_127 (qs_aload_n kd_Mo_init_130 rfl (qs_sipush kd_Mo_init_131 (by decide) (qs_newa (κ := 1210) (t := 0) (at_ := .int) rfl (fun _ => rfl) (by decide) (by decide) (fun _ _ _ _ => by simp [qa_ac, q_at, qa_n_na, qa_ia_na, qa_ja_na]; rfl) ww_18 kd_Mo_init_134 (fp_210 rfl ww_295 kd_Mo_init_136 (qs_aload_n kd_Mo_init_139 rfl (qs_iconst kd_Mo_init_140 (by decide) (qs_newa (κ := 1211) (t := 0) (at_ := .int) rfl (fun _ => rfl) (by decide) (by decide) (fun _ _ _ _ => by simp [qa_ac, q_at, qa_n_na, qa_ia_na, qa_ja_na]; rfl) ww_18 kd_Mo_init_141 (fp_211 rfl ww_296 kd_Mo_init_143 (qs_aload_n kd_Mo_init_146 rfl (qs_sipush kd_Mo_init_147 (by decide) (qs_newa (κ := 1212) (t := 0) (at_ := .int) rfl (fun _ => rfl) (by decide) (by decide) (fun _ _ _ _ => by simp [qa_ac, q_at, qa_n_na, qa_ia_na, qa_ja_na]; rfl) ww_18 kd_Mo_init_150 (fp_212 rfl ww_297 kd_Mo_init_152 (qs_aload_n kd_Mo_init_155 rfl (qs_bipush kd_Mo_init_156 (by decide) (qs_newa (κ := 1215) (t := 0) (at_ := .int) rfl (fun _ => rfl) (by decide) (by decide) (fun _ _ _ _ => by simp [qa_ac, q_at, qa_n_na, qa_ia_na, qa_ja_na]; rfl) ww_18 kd_Mo_init_158 (fp_215 rfl ww_298 kd_Mo_init_160 (qs_aload_n kd_Mo_init_163 rfl (qs_iload_n kd_Mo_init_164 rfl (qs_iconst kd_Mo_init_165 (by decide) (qs_iclt (tgt := 180) kd_Mo_init_166 (by decide) (ks_Mo_init_180 l D E B sc Po) (qs_iload_n kd_Mo_init_169 rfl (qs_sipush kd_Mo_init_170 (by decide) (qs_icgt (tgt := 180) kd_Mo_init_173 (by decide) (ks_Mo_init_180 l D E B sc Po) (qs_iload_n kd_Mo_init_176 rfl (qs_goto (tgt := 182) kd_Mo_init_177 (by decide) (ks_Mo_init_182 l D E B sc Po))))))))))))))))))))))))))))))))))))))))))))))))))))))))))))))))))))))))))))))))))))))))))))))))
def sp_Mo_init : qa_sp := fun args M Po => match args with
  | [.ref a0, .int a1] => kc_Mo_init_0 Po (0, 0) [some (.ref a0), some (.int a1)] [] M
  | _ => False
theorem ct_Mo_init (l : Launch) (sc : qa_Z) : qa_T l ym_Mo_init (Cond.code ym_Mo_init prog_8_method_1_code 2 none :: q_W0) rm_Mo_init sc (sp_Mo_init) := by
  intro D E B args M Po h
  unfold sp_Mo_init at h
  split at h
  · exact qa_ct (ini := true) (by decide) (by decide) (Nat.le_of_ble_eq_true rfl) (qa_lvok rfl) (ks_Mo_init_0 l D E B sc Po) h
  · exact h.elim
