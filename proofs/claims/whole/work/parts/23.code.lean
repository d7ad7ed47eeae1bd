theorem kd_Pk_append_0 : decode prog_4_method_4_code 0 = .ok (.aload_n 0, 1) := by decide +kernel
theorem kd_Pk_append_1 : decode prog_4_method_4_code 1 = .ok (.getfield 13, 3) := by decide +kernel
theorem kd_Pk_append_4 : decode prog_4_method_4_code 4 = .ok (.aload_n 0, 1) := by decide +kernel
theorem kd_Pk_append_5 : decode prog_4_method_4_code 5 = .ok (.getfield 7, 3) := by decide +kernel
theorem kd_Pk_append_8 : decode prog_4_method_4_code 8 = .ok (.arraylength, 1) := by decide +kernel
theorem kd_Pk_append_9 : decode prog_4_method_4_code 9 = .ok (.if_icmp .ge 23, 3) := by decide +kernel
theorem kd_Pk_append_12 : decode prog_4_method_4_code 12 = .ok (.aload_n 0, 1) := by decide +kernel
theorem kd_Pk_append_13 : decode prog_4_method_4_code 13 = .ok (.getfield 7, 3) := by decide +kernel
theorem kd_Pk_append_16 : decode prog_4_method_4_code 16 = .ok (.aload_n 0, 1) := by decide +kernel
theorem kd_Pk_append_17 : decode prog_4_method_4_code 17 = .ok (.getfield 13, 3) := by decide +kernel
theorem kd_Pk_append_20 : decode prog_4_method_4_code 20 = .ok (.iload_n 1, 1) := by decide +kernel
theorem kd_Pk_append_21 : decode prog_4_method_4_code 21 = .ok (.iastore, 1) := by decide +kernel
theorem kd_Pk_append_22 : decode prog_4_method_4_code 22 = .ok (.aload_n 0, 1) := by decide +kernel
theorem kd_Pk_append_23 : decode prog_4_method_4_code 23 = .ok (.dup, 1) := by decide +kernel
theorem kd_Pk_append_24 : decode prog_4_method_4_code 24 = .ok (.getfield 13, 3) := by decide +kernel
theorem kd_Pk_append_27 : decode prog_4_method_4_code 27 = .ok (.iconst 1, 1) := by decide +kernel
theorem kd_Pk_append_28 : decode prog_4_method_4_code 28 = .ok (.iadd, 1) := by decide +kernel
theorem kd_Pk_append_29 : decode prog_4_method_4_code 29 = .ok (.putfield 13, 3) := by decide +kernel
theorem kd_Pk_append_32 : decode prog_4_method_4_code 32 = .ok (.return_, 1) := by decide +kernel
def kc_Pk_append_32 (Po : Option Value → qa_M → Prop) : qa_K := (qi_vret (0, 0) Po)
def kc_Pk_append_0 (Po : Option Value → qa_M → Prop) : qa_K := (qi_aload 0 (qi_gi 2 34 (qi_aload 0 (qi_gp 2 32 (qi_alen 1032 (qi_icge (kc_Pk_append_32 Po) (qi_aload 0 (qi_gp 2 32 (qi_aload 0 (qi_gi 2 34 (qi_iload 1 (qi_iast 1032 (qi_aload 0 (qi_dup (qi_gi 2 34 (qi_ic (nI 1) (qi_iadd (qi_pi 2 34 (kc_Pk_append_32 Po)))))))))))))))))))
abbrev kS_Pk_append (l : Launch) (D : va_G) (E : Nat → ClassId) (B : Nat) (sc : qa_Z) (Po : Option Value → qa_M → Prop) (pc : Nat) (k : qa_K) : Prop := qa_S l "SealedRecords$Packet" prog_4_method_4_code 2 none false D E B rm_Pk_append sc (qa_Qf D E B rm_Pk_append Po) pc k
theorem ks_Pk_append_32 (l : Launch) (D : va_G) (E : Nat → ClassId) (B : Nat) (sc : qa_Z) (Po : Option Value → qa_M → Prop) : kS_Pk_append l D E B sc Po 32 (kc_Pk_append_32 Po) := (qs_vret kd_Pk_append_32)
theorem ks_Pk_append_0 (l : Launch) (D : va_G) (E : Nat → ClassId) (B : Nat) (sc : qa_Z) (Po : Option Value → qa_M → Prop) : kS_Pk_append l D E B sc Po 0 (kc_Pk_append_0 Po) := (qs_aload_n kd_Pk_append_0 rfl (fg_34 ww_113 kd_Pk_append_1 (qs_aload_n kd_Pk_append_4 rfl (fg_32 ww_19 kd_Pk_append_5 (qs_alen (κ := 1032) (t := 0) rfl (fun _ => rfl) (by decide) kd_Pk_append_8 (qs_icge (tgt := 32) kd_Pk_append_9 (by decide) (ks_Pk_append_32 l D E B sc Po) (qs_aload_n kd_Pk_append_12 rfl (fg_32 ww_19 kd_Pk_append_13 (qs_aload_n kd_Pk_append_16 rfl (fg_34 ww_113 kd_Pk_append_17 (qs_iload_n kd_Pk_append_20 rfl (qs_iast (κ := 1032) rfl (by decide) kd_Pk_append_21 (qs_aload_n kd_Pk_append_22 rfl (qs_dup kd_Pk_append_23 (fg_34 ww_113 kd_Pk_append_24 (qs_iconst kd_Pk_append_27 (by decide) (qs_iadd kd_Pk_append_28 (fp_34 ww_113 kd_Pk_append_29 (ks_Pk_append_32 l D E B sc Po)))))))))))))))))))
def sp_Pk_append : qa_sp := fun args M Po => match args with
  | [.ref a0, .int a1] => kc_Pk_append_0 Po (0, 0) [some (.ref a0), some (.int a1)] [] M
  | _ => False
theorem ct_Pk_append (l : Launch) (sc : qa_Z) : qa_T l ym_Pk_append (Cond.code ym_Pk_append prog_4_method_4_code 2 none :: q_W0) rm_Pk_append sc (sp_Pk_append) := by
  intro D E B args M Po h
  unfold sp_Pk_append at h
  split at h
  · exact qa_ct (ini := false) (by decide) (by decide) (Nat.le_of_ble_eq_true rfl) (qa_lvok rfl) (ks_Pk_append_0 l D E B sc Po) h
  · exact h.elim
theorem kd_SR_write_0 : decode prog_1_method_5_code 0 = .ok (.iload_n 1, 1) := by decide +kernel
theorem kd_SR_write_1 : decode prog_1_method_5_code 1 = .ok (.invokestatic 22, 3) := by decide +kernel
theorem kd_SR_write_4 : decode prog_1_method_5_code 4 = .ok (.ifCond .eq 25, 3) := by decide +kernel
theorem kd_SR_write_7 : decode prog_1_method_5_code 7 = .ok (.iload_n 2, 1) := by decide +kernel
theorem kd_SR_write_8 : decode prog_1_method_5_code 8 = .ok (.invokestatic 86, 3) := by decide +kernel
theorem kd_SR_write_11 : decode prog_1_method_5_code 11 = .ok (.ifCond .eq 18, 3) := by decide +kernel
theorem kd_SR_write_14 : decode prog_1_method_5_code 14 = .ok (.aload_n 0, 1) := by decide +kernel
theorem kd_SR_write_15 : decode prog_1_method_5_code 15 = .ok (.getfield 18, 3) := by decide +kernel
theorem kd_SR_write_18 : decode prog_1_method_5_code 18 = .ok (.iload_n 1, 1) := by decide +kernel
theorem kd_SR_write_19 : decode prog_1_method_5_code 19 = .ok (.aaload, 1) := by decide +kernel
theorem kd_SR_write_20 : decode prog_1_method_5_code 20 = .ok (.getfield 89, 3) := by decide +kernel
theorem kd_SR_write_23 : decode prog_1_method_5_code 23 = .ok (.invokevirtual 93, 3) := by decide +kernel
theorem kd_SR_write_26 : decode prog_1_method_5_code 26 = .ok (.ifCond .eq 5, 3) := by decide +kernel
theorem kd_SR_write_29 : decode prog_1_method_5_code 29 = .ok (.iconst 0, 1) := by decide +kernel
theorem kd_SR_write_30 : decode prog_1_method_5_code 30 = .ok (.ireturn, 1) := by decide +kernel
theorem kd_SR_write_31 : decode prog_1_method_5_code 31 = .ok (.aload_n 0, 1) := by decide +kernel
theorem kd_SR_write_32 : decode prog_1_method_5_code 32 = .ok (.getfield 18, 3) := by decide +kernel
theorem kd_SR_write_35 : decode prog_1_method_5_code 35 = .ok (.iload_n 1, 1) := by decide +kernel
theorem kd_SR_write_36 : decode prog_1_method_5_code 36 = .ok (.aaload, 1) := by decide +kernel
theorem kd_SR_write_37 : decode prog_1_method_5_code 37 = .ok (.getfield 89, 3) := by decide +kernel
theorem kd_SR_write_40 : decode prog_1_method_5_code 40 = .ok (.iload_n 2, 1) := by decide +kernel
theorem kd_SR_write_41 : decode prog_1_method_5_code 41 = .ok (.invokevirtual 98, 3) := by decide +kernel
theorem kd_SR_write_44 : decode prog_1_method_5_code 44 = .ok (.iconst 1, 1) := by decide +kernel
theorem kd_SR_write_45 : decode prog_1_method_5_code 45 = .ok (.ireturn, 1) := by decide +kernel
def kc_SR_write_29 (Po : Option Value → qa_M → Prop) : qa_K := (qi_ic (nI 0) (qi_zret (0, 0) Po))
def kc_SR_write_0 (Po : Option Value → qa_M → Prop) : qa_K := (qi_iload 1 (qi_call 1 (0, 0) sp_SR_isEnd (qi_ifeq (kc_SR_write_29 Po) (qi_iload 2 (qi_call 1 (0, 0) sp_SR_isByte (qi_ifeq (kc_SR_write_29 Po) (qi_aload 0 (qi_gp 1 1 (qi_iload 1 (qi_aald 1001 (qi_gp 6 163 (qi_callv 1 2 (0, 0) sp_Pk_isFull (qi_ifeq (qi_aload 0 (qi_gp 1 1 (qi_iload 1 (qi_aald 1001 (qi_gp 6 163 (qi_iload 2 (qi_callv 2 2 (0, 0) sp_Pk_append (qi_ic (nI 1) (qi_zret (0, 0) Po))))))))) (kc_SR_write_29 Po))))))))))))))
abbrev kS_SR_write (l : Launch) (D : va_G) (E : Nat → ClassId) (B : Nat) (sc : qa_Z) (Po : Option Value → qa_M → Prop) (pc : Nat) (k : qa_K) : Prop := qa_S l "SealedRecords" prog_1_method_5_code 3 (some .boolean) false D E B rm_SR_write sc (qa_Qf D E B rm_SR_write Po) pc k
theorem ks_SR_write_29 (l : Launch) (D : va_G) (E : Nat → ClassId) (B : Nat) (sc : qa_Z) (Po : Option Value → qa_M → Prop) : kS_SR_write l D E B sc Po 29 (kc_SR_write_29 Po) := (qs_iconst kd_SR_write_29 (by decide) (qs_zret kd_SR_write_30))
theorem ks_SR_write_0 (l : Launch) (D : va_G) (E : Nat → ClassId) (B : Nat) (sc : qa_Z) (Po : Option Value → qa_M → Prop) : kS_SR_write l D E B sc Po 0 (kc_SR_write_0 Po) := (qs_iload_n kd_SR_write_0 rfl (qs_calls (ct_SR_isEnd l sc) ww_61 (by decide) (by decide) ww_62 ww_63 ww_1 yd_SR_isEnd kd_SR_write_1 (qs_ifeq (tgt := 29) kd_SR_write_4 (by decide) (ks_SR_write_29 l D E B sc Po) (qs_iload_n kd_SR_write_7 rfl (qs_calls (ct_SR_isByte l sc) ww_114 (by decide) (by decide) ww_115 ww_116 ww_1 yd_SR_isByte kd_SR_write_8 (qs_ifeq (tgt := 29) kd_SR_write_11 (by decide) (ks_SR_write_29 l D E B sc Po) (qs_aload_n kd_SR_write_14 rfl (fg_1 ww_57 kd_SR_write_15 (qs_iload_n kd_SR_write_18 rfl (qs_aald (κ := 1001) (t := 0) rfl (fun _ => rfl) (by decide) kd_SR_write_19 (fg_163 ww_117 kd_SR_write_20 (qs_callv (ci := 1) (ct_Pk_isFull l sc) ww_118 (by decide) rfl (by decide) ww_119 ww_120 ww_121 ww_3 yd_Pk_isFull kd_SR_write_23 (qs_ifeq (tgt := 31) kd_SR_write_26 (by decide) (qs_aload_n kd_SR_write_31 rfl (fg_1 ww_57 kd_SR_write_32 (qs_iload_n kd_SR_write_35 rfl (qs_aald (κ := 1001) (t := 0) rfl (fun _ => rfl) (by decide) kd_SR_write_36 (fg_163 ww_117 kd_SR_write_37 (qs_iload_n kd_SR_write_40 rfl (qs_callv (ci := 1) (ct_Pk_append l sc) ww_122 (by decide) rfl (by decide) ww_123 ww_124 ww_125 ww_3 yd_Pk_append kd_SR_write_41 (qs_iconst kd_SR_write_44 (by decide) (qs_zret kd_SR_write_45))))))))) (ks_SR_write_29 l D E B sc Po))))))))))))))
def sp_SR_write : qa_sp := fun args M Po => match args with
  | [.ref a0, .int a1, .int a2] => kc_SR_write_0 Po (0, 0) [some (.ref a0), some (.int a1), some (.int a2)] [] M
  | _ => False
theorem ct_SR_write (l : Launch) (sc : qa_Z) : qa_T l ym_SR_write (Cond.code ym_SR_write prog_1_method_5_code 3 (some .boolean) :: q_W0) rm_SR_write sc (sp_SR_write) := by
  intro D E B args M Po h
  unfold sp_SR_write at h
  split at h
  · exact qa_ct (ini := false) (by decide) (by decide) (Nat.le_of_ble_eq_true rfl) (qa_lvok rfl) (ks_SR_write_0 l D E B sc Po) h
  · exact h.elim
theorem kd_En_allowsPadding_0 : decode prog_2_method_4_code 0 = .ok (.aload_n 0, 1) := by decide +kernel
theorem kd_En_allowsPadding_1 : decode prog_2_method_4_code 1 = .ok (.getfield 12, 3) := by decide +kernel
theorem kd_En_allowsPadding_4 : decode prog_2_method_4_code 4 = .ok (.getfield 70, 3) := by decide +kernel
theorem kd_En_allowsPadding_7 : decode prog_2_method_4_code 7 = .ok (.ifCond .ne 7, 3) := by decide +kernel
theorem kd_En_allowsPadding_10 : decode prog_2_method_4_code 10 = .ok (.iconst 0, 1) := by decide +kernel
theorem kd_En_allowsPadding_11 : decode prog_2_method_4_code 11 = .ok (.goto 13, 3) := by decide +kernel
theorem kd_En_allowsPadding_14 : decode prog_2_method_4_code 14 = .ok (.bipush 16, 2) := by decide +kernel
theorem kd_En_allowsPadding_16 : decode prog_2_method_4_code 16 = .ok (.aload_n 0, 1) := by decide +kernel
theorem kd_En_allowsPadding_17 : decode prog_2_method_4_code 17 = .ok (.getfield 26, 3) := by decide +kernel
theorem kd_En_allowsPadding_20 : decode prog_2_method_4_code 20 = .ok (.getfield 73, 3) := by decide +kernel
theorem kd_En_allowsPadding_23 : decode prog_2_method_4_code 23 = .ok (.isub, 1) := by decide +kernel
theorem kd_En_allowsPadding_24 : decode prog_2_method_4_code 24 = .ok (.istore_n 2, 1) := by decide +kernel
theorem kd_En_allowsPadding_25 : decode prog_2_method_4_code 25 = .ok (.iload_n 1, 1) := by decide +kernel
theorem kd_En_allowsPadding_26 : decode prog_2_method_4_code 26 = .ok (.ifCond .lt 12, 3) := by decide +kernel
theorem kd_En_allowsPadding_29 : decode prog_2_method_4_code 29 = .ok (.iload_n 1, 1) := by decide +kernel
theorem kd_En_allowsPadding_30 : decode prog_2_method_4_code 30 = .ok (.iload_n 2, 1) := by decide +kernel
theorem kd_En_allowsPadding_31 : decode prog_2_method_4_code 31 = .ok (.if_icmp .gt 7, 3) := by decide +kernel
theorem kd_En_allowsPadding_34 : decode prog_2_method_4_code 34 = .ok (.iconst 1, 1) := by decide +kernel
theorem kd_En_allowsPadding_35 : decode prog_2_method_4_code 35 = .ok (.goto 4, 3) := by decide +kernel
theorem kd_En_allowsPadding_38 : decode prog_2_method_4_code 38 = .ok (.iconst 0, 1) := by decide +kernel
theorem kd_En_allowsPadding_39 : decode prog_2_method_4_code 39 = .ok (.ireturn, 1) := by decide +kernel
def kc_En_allowsPadding_39 (Po : Option Value → qa_M → Prop) : qa_K := (qi_zret (0, 0) Po)
def kc_En_allowsPadding_38 (Po : Option Value → qa_M → Prop) : qa_K := (qi_ic (nI 0) (kc_En_allowsPadding_39 Po))
def kc_En_allowsPadding_24 (Po : Option Value → qa_M → Prop) : qa_K := (qi_istore 2 (qi_iload 1 (qi_iflt (kc_En_allowsPadding_38 Po) (qi_iload 1 (qi_iload 2 (qi_icgt (kc_En_allowsPadding_38 Po) (qi_ic (nI 1) (kc_En_allowsPadding_39 Po))))))))
def kc_En_allowsPadding_0 (Po : Option Value → qa_M → Prop) : qa_K := (qi_aload 0 (qi_gp 6 161 (qi_gi 4 96 (qi_ifne (qi_ic (nI 16) (qi_aload 0 (qi_gp 6 163 (qi_gi 2 34 (qi_isub (kc_En_allowsPadding_24 Po)))))) (qi_ic (nI 0) (kc_En_allowsPadding_24 Po))))))
abbrev kS_En_allowsPadding (l : Launch) (D : va_G) (E : Nat → ClassId) (B : Nat) (sc : qa_Z) (Po : Option Value → qa_M → Prop) (pc : Nat) (k : qa_K) : Prop := qa_S l "SealedRecords$End" prog_2_method_4_code 3 (some .boolean) false D E B rm_En_allowsPadding sc (qa_Qf D E B rm_En_allowsPadding Po) pc k
theorem ks_En_allowsPadding_39 (l : Launch) (D : va_G) (E : Nat → ClassId) (B : Nat) (sc : qa_Z) (Po : Option Value → qa_M → Prop) : kS_En_allowsPadding l D E B sc Po 39 (kc_En_allowsPadding_39 Po) := (qs_zret kd_En_allowsPadding_39)
theorem ks_En_allowsPadding_38 (l : Launch) (D : va_G) (E : Nat → ClassId) (B : Nat) (sc : qa_Z) (Po : Option Value → qa_M → Prop) : kS_En_allowsPadding l D E B sc Po 38 (kc_En_allowsPadding_38 Po) := (qs_iconst kd_En_allowsPadding_38 (by decide) (ks_En_allowsPadding_39 l D E B sc Po))
theorem ks_En_allowsPadding_24 (l : Launch) (D : va_G) (E : Nat → ClassId) (B : Nat) (sc : qa_Z) (Po : Option Value → qa_M → Prop) : kS_En_allowsPadding l D E B sc Po 24 (kc_En_allowsPadding_24 Po) := (qs_istore_n kd_En_allowsPadding_24 rfl (by decide) (qs_iload_n kd_En_allowsPadding_25 rfl (qs_iflt (tgt := 38) kd_En_allowsPadding_26 (by decide) (ks_En_allowsPadding_38 l D E B sc Po) (qs_iload_n kd_En_allowsPadding_29 rfl (qs_iload_n kd_En_allowsPadding_30 rfl (qs_icgt (tgt := 38) kd_En_allowsPadding_31 (by decide) (ks_En_allowsPadding_38 l D E B sc Po) (qs_iconst kd_En_allowsPadding_34 (by decide) (qs_goto (tgt := 39) kd_En_allowsPadding_35 (by decide) (ks_En_allowsPadding_39 l D E B sc Po)))))))))
theorem ks_En_allowsPadding_0 (l : Launch) (D : va_G) (E : Nat → ClassId) (B : Nat) (sc : qa_Z) (Po : Option Value → qa_M → Prop) : kS_En_allowsPadding l D E B sc Po 0 (kc_En_allowsPadding_0 Po) := (qs_aload_n kd_En_allowsPadding_0 rfl (fg_161 ww_32 kd_En_allowsPadding_1 (fg_96 ww_126 kd_En_allowsPadding_4 (qs_ifne (tgt := 14) kd_En_allowsPadding_7 (by decide) (qs_bipush kd_En_allowsPadding_14 (by decide) (qs_aload_n kd_En_allowsPadding_16 rfl (fg_163 ww_36 kd_En_allowsPadding_17 (fg_34 ww_127 kd_En_allowsPadding_20 (qs_isub kd_En_allowsPadding_23 (ks_En_allowsPadding_24 l D E B sc Po)))))) (qs_iconst kd_En_allowsPadding_10 (by decide) (qs_goto (tgt := 24) kd_En_allowsPadding_11 (by decide) (ks_En_allowsPadding_24 l D E B sc Po)))))))
def sp_En_allowsPadding : qa_sp := fun args M Po => match args with
  | [.ref a0, .int a1] => kc_En_allowsPadding_0 Po (0, 0) [some (.ref a0), some (.int a1), none] [] M
  | _ => False
theorem ct_En_allowsPadding (l : Launch) (sc : qa_Z) : qa_T l ym_En_allowsPadding (Cond.code ym_En_allowsPadding prog_2_method_4_code 3 (some .boolean) :: q_W0) rm_En_allowsPadding sc (sp_En_allowsPadding) := by
  intro D E B args M Po h
  unfold sp_En_allowsPadding at h
  split at h
  · exact qa_ct (ini := false) (by decide) (by decide) (Nat.le_of_ble_eq_true rfl) (qa_lvok rfl) (ks_En_allowsPadding_0 l D E B sc Po) h
  · exact h.elim
theorem kd_Rw_isFull_0 : decode prog_5_method_2_code 0 = .ok (.aload_n 0, 1) := by decide +kernel
theorem kd_Rw_isFull_1 : decode prog_5_method_2_code 1 = .ok (.getfield 18, 3) := by decide +kernel
theorem kd_Rw_isFull_4 : decode prog_5_method_2_code 4 = .ok (.aload_n 0, 1) := by decide +kernel
theorem kd_Rw_isFull_5 : decode prog_5_method_2_code 5 = .ok (.getfield 9, 3) := by decide +kernel
theorem kd_Rw_isFull_8 : decode prog_5_method_2_code 8 = .ok (.arraylength, 1) := by decide +kernel
theorem kd_Rw_isFull_9 : decode prog_5_method_2_code 9 = .ok (.if_icmp .ne 7, 3) := by decide +kernel
theorem kd_Rw_isFull_12 : decode prog_5_method_2_code 12 = .ok (.iconst 1, 1) := by decide +kernel
theorem kd_Rw_isFull_13 : decode prog_5_method_2_code 13 = .ok (.goto 4, 3) := by decide +kernel
theorem kd_Rw_isFull_16 : decode prog_5_method_2_code 16 = .ok (.iconst 0, 1) := by decide +kernel
theorem kd_Rw_isFull_17 : decode prog_5_method_2_code 17 = .ok (.ireturn, 1) := by decide +kernel
def kc_Rw_isFull_17 (Po : Option Value → qa_M → Prop) : qa_K := (qi_zret (0, 0) Po)
def kc_Rw_isFull_0 (Po : Option Value → qa_M → Prop) : qa_K := (qi_aload 0 (qi_gi 3 65 (qi_aload 0 (qi_gp 3 64 (qi_alen 1064 (qi_icne (qi_ic (nI 0) (kc_Rw_isFull_17 Po)) (qi_ic (nI 1) (kc_Rw_isFull_17 Po))))))))
abbrev kS_Rw_isFull (l : Launch) (D : va_G) (E : Nat → ClassId) (B : Nat) (sc : qa_Z) (Po : Option Value → qa_M → Prop) (pc : Nat) (k : qa_K) : Prop := qa_S l "SealedRecords$Row" prog_5_method_2_code 1 (some .boolean) false D E B rm_Rw_isFull sc (qa_Qf D E B rm_Rw_isFull Po) pc k
theorem ks_Rw_isFull_17 (l : Launch) (D : va_G) (E : Nat → ClassId) (B : Nat) (sc : qa_Z) (Po : Option Value → qa_M → Prop) : kS_Rw_isFull l D E B sc Po 17 (kc_Rw_isFull_17 Po) := (qs_zret kd_Rw_isFull_17)
theorem ks_Rw_isFull_0 (l : Launch) (D : va_G) (E : Nat → ClassId) (B : Nat) (sc : qa_Z) (Po : Option Value → qa_M → Prop) : kS_Rw_isFull l D E B sc Po 0 (kc_Rw_isFull_0 Po) := (qs_aload_n kd_Rw_isFull_0 rfl (fg_65 ww_128 kd_Rw_isFull_1 (qs_aload_n kd_Rw_isFull_4 rfl (fg_64 ww_20 kd_Rw_isFull_5 (qs_alen (κ := 1064) (t := 4) rfl (fun _ => rfl) (by decide) kd_Rw_isFull_8 (qs_icne (tgt := 16) kd_Rw_isFull_9 (by decide) (qs_iconst kd_Rw_isFull_16 (by decide) (ks_Rw_isFull_17 l D E B sc Po)) (qs_iconst kd_Rw_isFull_12 (by decide) (qs_goto (tgt := 17) kd_Rw_isFull_13 (by decide) (ks_Rw_isFull_17 l D E B sc Po)))))))))
def sp_Rw_isFull : qa_sp := fun args M Po => match args with
  | [.ref a0] => kc_Rw_isFull_0 Po (0, 0) [some (.ref a0)] [] M
  | _ => False
theorem ct_Rw_isFull (l : Launch) (sc : qa_Z) : qa_T l ym_Rw_isFull (Cond.code ym_Rw_isFull prog_5_method_2_code 1 (some .boolean) :: q_W0) rm_Rw_isFull sc (sp_Rw_isFull) := by
  intro D E B args M Po h
  unfold sp_Rw_isFull at h
  split at h
  · exact qa_ct (ini := false) (by decide) (by decide) (Nat.le_of_ble_eq_true rfl) (qa_lvok rfl) (ks_Rw_isFull_0 l D E B sc Po) h
  · exact h.elim
theorem kd_Rw_addNewest_0 : decode prog_5_method_4_code 0 = .ok (.aload_n 0, 1) := by decide +kernel
theorem kd_Rw_addNewest_1 : decode prog_5_method_4_code 1 = .ok (.getfield 9, 3) := by decide +kernel
theorem kd_Rw_addNewest_4 : decode prog_5_method_4_code 4 = .ok (.aload_n 0, 1) := by decide +kernel
theorem kd_Rw_addNewest_5 : decode prog_5_method_4_code 5 = .ok (.getfield 18, 3) := by decide +kernel
theorem kd_Rw_addNewest_8 : decode prog_5_method_4_code 8 = .ok (.aaload, 1) := by decide +kernel
theorem kd_Rw_addNewest_9 : decode prog_5_method_4_code 9 = .ok (.astore_n 1, 1) := by decide +kernel
theorem kd_Rw_addNewest_10 : decode prog_5_method_4_code 10 = .ok (.aload_n 0, 1) := by decide +kernel
theorem kd_Rw_addNewest_11 : decode prog_5_method_4_code 11 = .ok (.dup, 1) := by decide +kernel
theorem kd_Rw_addNewest_12 : decode prog_5_method_4_code 12 = .ok (.getfield 18, 3) := by decide +kernel
theorem kd_Rw_addNewest_15 : decode prog_5_method_4_code 15 = .ok (.iconst 1, 1) := by decide +kernel
theorem kd_Rw_addNewest_16 : decode prog_5_method_4_code 16 = .ok (.iadd, 1) := by decide +kernel
theorem kd_Rw_addNewest_17 : decode prog_5_method_4_code 17 = .ok (.putfield 18, 3) := by decide +kernel
theorem kd_Rw_addNewest_20 : decode prog_5_method_4_code 20 = .ok (.aload_n 1, 1) := by decide +kernel
theorem kd_Rw_addNewest_21 : decode prog_5_method_4_code 21 = .ok (.areturn, 1) := by decide +kernel
def kc_Rw_addNewest_0 (Po : Option Value → qa_M → Prop) : qa_K := (qi_aload 0 (qi_gp 3 64 (qi_aload 0 (qi_gi 3 65 (qi_aald 1064 (qi_astore 1 (qi_aload 0 (qi_dup (qi_gi 3 65 (qi_ic (nI 1) (qi_iadd (qi_pi 3 65 (qi_aload 1 (qi_aret (0, 0) Po))))))))))))))
abbrev kS_Rw_addNewest (l : Launch) (D : va_G) (E : Nat → ClassId) (B : Nat) (sc : qa_Z) (Po : Option Value → qa_M → Prop) (pc : Nat) (k : qa_K) : Prop := qa_S l "SealedRecords$Row" prog_5_method_4_code 2 (some (.object "SealedRecords$Packet")) false D E B rm_Rw_addNewest sc (qa_Qf D E B rm_Rw_addNewest Po) pc k
theorem ks_Rw_addNewest_0 (l : Launch) (D : va_G) (E : Nat → ClassId) (B : Nat) (sc : qa_Z) (Po : Option Value → qa_M → Prop) : kS_Rw_addNewest l D E B sc Po 0 (kc_Rw_addNewest_0 Po) := (qs_aload_n kd_Rw_addNewest_0 rfl (fg_64 ww_20 kd_Rw_addNewest_1 (qs_aload_n kd_Rw_addNewest_4 rfl (fg_65 ww_128 kd_Rw_addNewest_5 (qs_aald (κ := 1064) (t := 1) rfl (fun _ => rfl) (by decide) kd_Rw_addNewest_8 (qs_astore_n kd_Rw_addNewest_9 rfl (by decide) (qs_aload_n kd_Rw_addNewest_10 rfl (qs_dup kd_Rw_addNewest_11 (fg_65 ww_128 kd_Rw_addNewest_12 (qs_iconst kd_Rw_addNewest_15 (by decide) (qs_iadd kd_Rw_addNewest_16 (fp_65 ww_128 kd_Rw_addNewest_17 (qs_aload_n kd_Rw_addNewest_20 rfl (qs_aret kd_Rw_addNewest_21))))))))))))))
def sp_Rw_addNewest : qa_sp := fun args M Po => match args with
  | [.ref a0] => kc_Rw_addNewest_0 Po (0, 0) [some (.ref a0), none] [] M
  | _ => False
theorem ct_Rw_addNewest (l : Launch) (sc : qa_Z) : qa_T l ym_Rw_addNewest (Cond.code ym_Rw_addNewest prog_5_method_4_code 2 (some (.object "SealedRecords$Packet")) :: q_W0) rm_Rw_addNewest sc (sp_Rw_addNewest) := by
  intro D E B args M Po h
  unfold sp_Rw_addNewest at h
  split at h
  · exact qa_ct (ini := false) (by decide) (by decide) (Nat.le_of_ble_eq_true rfl) (qa_lvok rfl) (ks_Rw_addNewest_0 l D E B sc Po) h
  · exact h.elim
theorem kd_Pk_restart_0 : decode prog_4_method_3_code 0 = .ok (.aload_n 0, 1) := by decide +kernel
theorem kd_Pk_restart_1 : decode prog_4_method_3_code 1 = .ok (.iload_n 1, 1) := by decide +kernel
theorem kd_Pk_restart_2 : decode prog_4_method_3_code 2 = .ok (.putfield 17, 3) := by decide +kernel
theorem kd_Pk_restart_5 : decode prog_4_method_3_code 5 = .ok (.aload_n 0, 1) := by decide +kernel
theorem kd_Pk_restart_6 : decode prog_4_method_3_code 6 = .ok (.iconst 0, 1) := by decide +kernel
theorem kd_Pk_restart_7 : decode prog_4_method_3_code 7 = .ok (.putfield 13, 3) := by decide +kernel
theorem kd_Pk_restart_10 : decode prog_4_method_3_code 10 = .ok (.return_, 1) := by decide +kernel
def kc_Pk_restart_0 (Po : Option Value → qa_M → Prop) : qa_K := (qi_aload 0 (qi_iload 1 (qi_pi 2 33 (qi_aload 0 (qi_ic (nI 0) (qi_pi 2 34 (qi_vret (0, 0) Po)))))))
abbrev kS_Pk_restart (l : Launch) (D : va_G) (E : Nat → ClassId) (B : Nat) (sc : qa_Z) (Po : Option Value → qa_M → Prop) (pc : Nat) (k : qa_K) : Prop := qa_S l "SealedRecords$Packet" prog_4_method_3_code 2 none false D E B rm_Pk_restart sc (qa_Qf D E B rm_Pk_restart Po) pc k
theorem ks_Pk_restart_0 (l : Launch) (D : va_G) (E : Nat → ClassId) (B : Nat) (sc : qa_Z) (Po : Option Value → qa_M → Prop) : kS_Pk_restart l D E B sc Po 0 (kc_Pk_restart_0 Po) := (qs_aload_n kd_Pk_restart_0 rfl (qs_iload_n kd_Pk_restart_1 rfl (fp_33 ww_129 kd_Pk_restart_2 (qs_aload_n kd_Pk_restart_5 rfl (qs_iconst kd_Pk_restart_6 (by decide) (fp_34 ww_113 kd_Pk_restart_7 (qs_vret kd_Pk_restart_10)))))))
def sp_Pk_restart : qa_sp := fun args M Po => match args with
  | [.ref a0, .int a1] => kc_Pk_restart_0 Po (0, 0) [some (.ref a0), some (.int a1)] [] M
  | _ => False
theorem ct_Pk_restart (l : Launch) (sc : qa_Z) : qa_T l ym_Pk_restart (Cond.code ym_Pk_restart prog_4_method_3_code 2 none :: q_W0) rm_Pk_restart sc (sp_Pk_restart) := by
  intro D E B args M Po h
  unfold sp_Pk_restart at h
  split at h
  · exact qa_ct (ini := false) (by decide) (by decide) (Nat.le_of_ble_eq_true rfl) (qa_lvok rfl) (ks_Pk_restart_0 l D E B sc Po) h
  · exact h.elim
theorem kd_Pk_becomeLike_0 : decode prog_4_method_5_code 0 = .ok (.aload_n 0, 1) := by decide +kernel
theorem kd_Pk_becomeLike_1 : decode prog_4_method_5_code 1 = .ok (.aload_n 1, 1) := by decide +kernel
theorem kd_Pk_becomeLike_2 : decode prog_4_method_5_code 2 = .ok (.getfield 17, 3) := by decide +kernel
theorem kd_Pk_becomeLike_5 : decode prog_4_method_5_code 5 = .ok (.invokevirtual 20, 3) := by decide +kernel
theorem kd_Pk_becomeLike_8 : decode prog_4_method_5_code 8 = .ok (.iconst 0, 1) := by decide +kernel
theorem kd_Pk_becomeLike_9 : decode prog_4_method_5_code 9 = .ok (.istore_n 2, 1) := by decide +kernel
theorem kd_Pk_becomeLike_10 : decode prog_4_method_5_code 10 = .ok (.iload_n 2, 1) := by decide +kernel
theorem kd_Pk_becomeLike_11 : decode prog_4_method_5_code 11 = .ok (.aload_n 1, 1) := by decide +kernel
theorem kd_Pk_becomeLike_12 : decode prog_4_method_5_code 12 = .ok (.getfield 13, 3) := by decide +kernel
theorem kd_Pk_becomeLike_15 : decode prog_4_method_5_code 15 = .ok (.if_icmp .ge 19, 3) := by decide +kernel
theorem kd_Pk_becomeLike_18 : decode prog_4_method_5_code 18 = .ok (.aload_n 0, 1) := by decide +kernel
theorem kd_Pk_becomeLike_19 : decode prog_4_method_5_code 19 = .ok (.aload_n 1, 1) := by decide +kernel
theorem kd_Pk_becomeLike_20 : decode prog_4_method_5_code 20 = .ok (.getfield 7, 3) := by decide +kernel
theorem kd_Pk_becomeLike_23 : decode prog_4_method_5_code 23 = .ok (.iload_n 2, 1) := by decide +kernel
theorem kd_Pk_becomeLike_24 : decode prog_4_method_5_code 24 = .ok (.iaload, 1) := by decide +kernel
theorem kd_Pk_becomeLike_25 : decode prog_4_method_5_code 25 = .ok (.invokevirtual 24, 3) := by decide +kernel
theorem kd_Pk_becomeLike_28 : decode prog_4_method_5_code 28 = .ok (.iinc 2 1, 3) := by decide +kernel
theorem kd_Pk_becomeLike_31 : decode prog_4_method_5_code 31 = .ok (.goto (-21), 3) := by decide +kernel
theorem kd_Pk_becomeLike_34 : decode prog_4_method_5_code 34 = .ok (.return_, 1) := by decide +kernel
def kb_Pk_becomeLike_10 (Po : Option Value → qa_M → Prop) (k10 : qa_K) : qa_K := (qi_iload 2 (qi_aload 1 (qi_gi 2 34 (qi_icge (qi_vret (0, 0) Po) (qi_aload 0 (qi_aload 1 (qi_gp 2 32 (qi_iload 2 (qi_iald 1032 (qi_callv 2 2 (0, 0) sp_Pk_append (qi_iinc 2 (nI 1) k10)))))))))))
def kc_Pk_becomeLike_10 (Po : Option Value → qa_M → Prop) : qa_K := qi_loop (kb_Pk_becomeLike_10 Po)
def kc_Pk_becomeLike_0 (Po : Option Value → qa_M → Prop) : qa_K := (qi_aload 0 (qi_aload 1 (qi_gi 2 33 (qi_callv 2 2 (0, 0) sp_Pk_restart (qi_ic (nI 0) (qi_istore 2 (kc_Pk_becomeLike_10 Po)))))))
abbrev kS_Pk_becomeLike (l : Launch) (D : va_G) (E : Nat → ClassId) (B : Nat) (sc : qa_Z) (Po : Option Value → qa_M → Prop) (pc : Nat) (k : qa_K) : Prop := qa_S l "SealedRecords$Packet" prog_4_method_5_code 3 none false D E B rm_Pk_becomeLike sc (qa_Qf D E B rm_Pk_becomeLike Po) pc k
theorem kt_Pk_becomeLike_10 (l : Launch) (D : va_G) (E : Nat → ClassId) (B : Nat) (sc : qa_Z) (Po : Option Value → qa_M → Prop) {k10 : qa_K} (hk10 : kS_Pk_becomeLike l D E B sc Po 10 k10) : kS_Pk_becomeLike l D E B sc Po 10 (kb_Pk_becomeLike_10 Po k10) := (qs_iload_n kd_Pk_becomeLike_10 rfl (qs_aload_n kd_Pk_becomeLike_11 rfl (fg_34 ww_113 kd_Pk_becomeLike_12 (qs_icge (tgt := 34) kd_Pk_becomeLike_15 (by decide) (qs_vret kd_Pk_becomeLike_34) (qs_aload_n kd_Pk_becomeLike_18 rfl (qs_aload_n kd_Pk_becomeLike_19 rfl (fg_32 ww_19 kd_Pk_becomeLike_20 (qs_iload_n kd_Pk_becomeLike_23 rfl (qs_iald (κ := 1032) rfl (by decide) kd_Pk_becomeLike_24 (qs_callv (ci := 1) (ct_Pk_append l sc) ww_122 (by decide) rfl (by decide) ww_130 ww_124 ww_125 ww_3 yd_Pk_append kd_Pk_becomeLike_25 (qs_iinc kd_Pk_becomeLike_28 (by decide) (by decide) (qs_goto (tgt := 10) kd_Pk_becomeLike_31 (by decide) hk10))))))))))))
theorem ks_Pk_becomeLike_10 (l : Launch) (D : va_G) (E : Nat → ClassId) (B : Nat) (sc : qa_Z) (Po : Option Value → qa_M → Prop) : kS_Pk_becomeLike l D E B sc Po 10 (kc_Pk_becomeLike_10 Po) := qs_loop fun k10 hk10 => kt_Pk_becomeLike_10 l D E B sc Po hk10
theorem ks_Pk_becomeLike_0 (l : Launch) (D : va_G) (E : Nat → ClassId) (B : Nat) (sc : qa_Z) (Po : Option Value → qa_M → Prop) : kS_Pk_becomeLike l D E B sc Po 0 (kc_Pk_becomeLike_0 Po) := (qs_aload_n kd_Pk_becomeLike_0 rfl (qs_aload_n kd_Pk_becomeLike_1 rfl (fg_33 ww_129 kd_Pk_becomeLike_2 (qs_callv (ci := 1) (ct_Pk_restart l sc) ww_131 (by decide) rfl (by decide) ww_132 ww_133 ww_134 ww_3 yd_Pk_restart kd_Pk_becomeLike_5 (qs_iconst kd_Pk_becomeLike_8 (by decide) (qs_istore_n kd_Pk_becomeLike_9 rfl (by decide) (ks_Pk_becomeLike_10 l D E B sc Po)))))))
def sp_Pk_becomeLike : qa_sp := fun args M Po => match args with
  | [.ref a0, .ref a1] => kc_Pk_becomeLike_0 Po (0, 0) [some (.ref a0), some (.ref a1), none] [] M
  | _ => False
theorem ct_Pk_becomeLike (l : Launch) (sc : qa_Z) : qa_T l ym_Pk_becomeLike (Cond.code ym_Pk_becomeLike prog_4_method_5_code 3 none :: q_W0) rm_Pk_becomeLike sc (sp_Pk_becomeLike) := by
  intro D E B args M Po h
  unfold sp_Pk_becomeLike at h
  split at h
  · exact qa_ct (ini := false) (by decide) (by decide) (Nat.le_of_ble_eq_true rfl) (qa_lvok rfl) (ks_Pk_becomeLike_0 l D E B sc Po) h
  · exact h.elim
theorem kd_Sd_maskSeed_0 : decode prog_6_method_4_code 0 = .ok (.aload_n 0, 1) := by decide +kernel
theorem kd_Sd_maskSeed_1 : decode prog_6_method_4_code 1 = .ok (.getfield 9, 3) := by decide +kernel
theorem kd_Sd_maskSeed_4 : decode prog_6_method_4_code 4 = .ok (.lconst 1, 1) := by decide +kernel
theorem kd_Sd_maskSeed_5 : decode prog_6_method_4_code 5 = .ok (.invokestatic 21, 3) := by decide +kernel
theorem kd_Sd_maskSeed_8 : decode prog_6_method_4_code 8 = .ok (.aload_n 0, 1) := by decide +kernel
theorem kd_Sd_maskSeed_9 : decode prog_6_method_4_code 9 = .ok (.getfield 15, 3) := by decide +kernel
theorem kd_Sd_maskSeed_12 : decode prog_6_method_4_code 12 = .ok (.i2l, 1) := by decide +kernel
theorem kd_Sd_maskSeed_13 : decode prog_6_method_4_code 13 = .ok (.invokestatic 21, 3) := by decide +kernel
theorem kd_Sd_maskSeed_16 : decode prog_6_method_4_code 16 = .ok (.lreturn, 1) := by decide +kernel
def kc_Sd_maskSeed_0 (Po : Option Value → qa_M → Prop) : qa_K := (qi_aload 0 (qi_gj 4 97 (qi_lc 1 (qi_call 2 (0, 0) sp_SR_mix (qi_aload 0 (qi_gi 4 98 (qi_i2l (qi_call 2 (0, 0) sp_SR_mix (qi_lret (0, 0) Po)))))))))
abbrev kS_Sd_maskSeed (l : Launch) (D : va_G) (E : Nat → ClassId) (B : Nat) (sc : qa_Z) (Po : Option Value → qa_M → Prop) (pc : Nat) (k : qa_K) : Prop := qa_S l "SealedRecords$Side" prog_6_method_4_code 1 (some .long) false D E B rm_Sd_maskSeed sc (qa_Qf D E B rm_Sd_maskSeed Po) pc k
theorem ks_Sd_maskSeed_0 (l : Launch) (D : va_G) (E : Nat → ClassId) (B : Nat) (sc : qa_Z) (Po : Option Value → qa_M → Prop) : kS_Sd_maskSeed l D E B sc Po 0 (kc_Sd_maskSeed_0 Po) := (qs_aload_n kd_Sd_maskSeed_0 rfl (fg_97 ww_78 kd_Sd_maskSeed_1 (qs_lconst kd_Sd_maskSeed_4 (by decide) (qs_calln (ct_SR_mix l sc) ww_67 (by decide) (by decide) ww_106 ww_69 ww_1 yd_SR_mix kd_Sd_maskSeed_5 (qs_aload_n kd_Sd_maskSeed_8 rfl (fg_98 ww_79 kd_Sd_maskSeed_9 (qs_i2l kd_Sd_maskSeed_12 (qs_calln (ct_SR_mix l sc) ww_67 (by decide) (by decide) ww_106 ww_69 ww_1 yd_SR_mix kd_Sd_maskSeed_13 (qs_lret kd_Sd_maskSeed_16)))))))))
def sp_Sd_maskSeed : qa_sp := fun args M Po => match args with
  | [.ref a0] => kc_Sd_maskSeed_0 Po (0, 0) [some (.ref a0)] [] M
  | _ => False
theorem ct_Sd_maskSeed (l : Launch) (sc : qa_Z) : qa_T l ym_Sd_maskSeed (Cond.code ym_Sd_maskSeed prog_6_method_4_code 1 (some .long) :: q_W0) rm_Sd_maskSeed sc (sp_Sd_maskSeed) := by
  intro D E B args M Po h
  unfold sp_Sd_maskSeed at h
  split at h
  · exact qa_ct (ini := false) (by decide) (by decide) (Nat.le_of_ble_eq_true rfl) (qa_lvok rfl) (ks_Sd_maskSeed_0 l D E B sc Po) h
  · exact h.elim
theorem kd_Sd_maskByte_0 : decode prog_6_method_5_code 0 = .ok (.lload_n 0, 1) := by decide +kernel
theorem kd_Sd_maskByte_1 : decode prog_6_method_5_code 1 = .ok (.iload_n 2, 1) := by decide +kernel
theorem kd_Sd_maskByte_2 : decode prog_6_method_5_code 2 = .ok (.i2l, 1) := by decide +kernel
theorem kd_Sd_maskByte_3 : decode prog_6_method_5_code 3 = .ok (.invokestatic 21, 3) := by decide +kernel
theorem kd_Sd_maskByte_6 : decode prog_6_method_5_code 6 = .ok (.bipush 40, 2) := by decide +kernel
theorem kd_Sd_maskByte_8 : decode prog_6_method_5_code 8 = .ok (.lushr, 1) := by decide +kernel
theorem kd_Sd_maskByte_9 : decode prog_6_method_5_code 9 = .ok (.l2i, 1) := by decide +kernel
theorem kd_Sd_maskByte_10 : decode prog_6_method_5_code 10 = .ok (.sipush 255, 3) := by decide +kernel
theorem kd_Sd_maskByte_13 : decode prog_6_method_5_code 13 = .ok (.iand, 1) := by decide +kernel
theorem kd_Sd_maskByte_14 : decode prog_6_method_5_code 14 = .ok (.ireturn, 1) := by decide +kernel
def kc_Sd_maskByte_0 (Po : Option Value → qa_M → Prop) : qa_K := (qi_lload 0 (qi_iload 2 (qi_i2l (qi_call 2 (0, 0) sp_SR_mix (qi_ic (nI 40) (qi_lushr (qi_l2i (qi_ic (nI 255) (qi_iand (qi_iret (0, 0) Po))))))))))
abbrev kS_Sd_maskByte (l : Launch) (D : va_G) (E : Nat → ClassId) (B : Nat) (sc : qa_Z) (Po : Option Value → qa_M → Prop) (pc : Nat) (k : qa_K) : Prop := qa_S l "SealedRecords$Side" prog_6_method_5_code 3 (some .int) false D E B rm_Sd_maskByte sc (qa_Qf D E B rm_Sd_maskByte Po) pc k
theorem ks_Sd_maskByte_0 (l : Launch) (D : va_G) (E : Nat → ClassId) (B : Nat) (sc : qa_Z) (Po : Option Value → qa_M → Prop) : kS_Sd_maskByte l D E B sc Po 0 (kc_Sd_maskByte_0 Po) := (qs_lload_n kd_Sd_maskByte_0 rfl (qs_iload_n kd_Sd_maskByte_1 rfl (qs_i2l kd_Sd_maskByte_2 (qs_calln (ct_SR_mix l sc) ww_67 (by decide) (by decide) ww_106 ww_69 ww_1 yd_SR_mix kd_Sd_maskByte_3 (qs_bipush kd_Sd_maskByte_6 (by decide) (qs_lushr kd_Sd_maskByte_8 (qs_l2i kd_Sd_maskByte_9 (qs_sipush kd_Sd_maskByte_10 (by decide) (qs_iand kd_Sd_maskByte_13 (qs_iret kd_Sd_maskByte_14))))))))))
def sp_Sd_maskByte : qa_sp := fun args M Po => match args with
  | [.long a1, .int a2] => kc_Sd_maskByte_0 Po (0, 0) [some (.long a1), none, some (.int a2)] [] M
  | _ => False
theorem ct_Sd_maskByte (l : Launch) (sc : qa_Z) : qa_T l ym_Sd_maskByte (Cond.code ym_Sd_maskByte prog_6_method_5_code 3 (some .int) :: q_W0) rm_Sd_maskByte sc (sp_Sd_maskByte) := by
  intro D E B args M Po h
  unfold sp_Sd_maskByte at h
  split at h
  · exact qa_ct (ini := false) (by decide) (by decide) (Nat.le_of_ble_eq_true rfl) (qa_lvok rfl) (ks_Sd_maskByte_0 l D E B sc Po) h
  · exact h.elim
theorem kd_Sd_tagOf_0 : decode prog_6_method_6_code 0 = .ok (.aload_n 0, 1) := by decide +kernel
theorem kd_Sd_tagOf_1 : decode prog_6_method_6_code 1 = .ok (.getfield 9, 3) := by decide +kernel
theorem kd_Sd_tagOf_4 : decode prog_6_method_6_code 4 = .ok (.ldc2_w 29, 3) := by decide +kernel
theorem kd_Sd_tagOf_7 : decode prog_6_method_6_code 7 = .ok (.invokestatic 21, 3) := by decide +kernel
theorem kd_Sd_tagOf_10 : decode prog_6_method_6_code 10 = .ok (.aload_n 0, 1) := by decide +kernel
theorem kd_Sd_tagOf_11 : decode prog_6_method_6_code 11 = .ok (.getfield 15, 3) := by decide +kernel
theorem kd_Sd_tagOf_14 : decode prog_6_method_6_code 14 = .ok (.i2l, 1) := by decide +kernel
theorem kd_Sd_tagOf_15 : decode prog_6_method_6_code 15 = .ok (.invokestatic 21, 3) := by decide +kernel
theorem kd_Sd_tagOf_18 : decode prog_6_method_6_code 18 = .ok (.iload_n 2, 1) := by decide +kernel
theorem kd_Sd_tagOf_19 : decode prog_6_method_6_code 19 = .ok (.i2l, 1) := by decide +kernel
theorem kd_Sd_tagOf_20 : decode prog_6_method_6_code 20 = .ok (.invokestatic 21, 3) := by decide +kernel
theorem kd_Sd_tagOf_23 : decode prog_6_method_6_code 23 = .ok (.lstore_n 3, 1) := by decide +kernel
theorem kd_Sd_tagOf_24 : decode prog_6_method_6_code 24 = .ok (.iconst 0, 1) := by decide +kernel
theorem kd_Sd_tagOf_25 : decode prog_6_method_6_code 25 = .ok (.istore 5, 2) := by decide +kernel
theorem kd_Sd_tagOf_27 : decode prog_6_method_6_code 27 = .ok (.iload 5, 2) := by decide +kernel
theorem kd_Sd_tagOf_29 : decode prog_6_method_6_code 29 = .ok (.iload_n 2, 1) := by decide +kernel
theorem kd_Sd_tagOf_30 : decode prog_6_method_6_code 30 = .ok (.if_icmp .ge 19, 3) := by decide +kernel
theorem kd_Sd_tagOf_33 : decode prog_6_method_6_code 33 = .ok (.lload_n 3, 1) := by decide +kernel
theorem kd_Sd_tagOf_34 : decode prog_6_method_6_code 34 = .ok (.aload_n 1, 1) := by decide +kernel
theorem kd_Sd_tagOf_35 : decode prog_6_method_6_code 35 = .ok (.iload 5, 2) := by decide +kernel
theorem kd_Sd_tagOf_37 : decode prog_6_method_6_code 37 = .ok (.iaload, 1) := by decide +kernel
theorem kd_Sd_tagOf_38 : decode prog_6_method_6_code 38 = .ok (.i2l, 1) := by decide +kernel
theorem kd_Sd_tagOf_39 : decode prog_6_method_6_code 39 = .ok (.invokestatic 21, 3) := by decide +kernel
theorem kd_Sd_tagOf_42 : decode prog_6_method_6_code 42 = .ok (.lstore_n 3, 1) := by decide +kernel
theorem kd_Sd_tagOf_43 : decode prog_6_method_6_code 43 = .ok (.iinc 5 1, 3) := by decide +kernel
theorem kd_Sd_tagOf_46 : decode prog_6_method_6_code 46 = .ok (.goto (-19), 3) := by decide +kernel
theorem kd_Sd_tagOf_49 : decode prog_6_method_6_code 49 = .ok (.lload_n 3, 1) := by decide +kernel
theorem kd_Sd_tagOf_50 : decode prog_6_method_6_code 50 = .ok (.lreturn, 1) := by decide +kernel
def kb_Sd_tagOf_27 (Po : Option Value → qa_M → Prop) (k27 : qa_K) : qa_K := (qi_iload 5 (qi_iload 2 (qi_icge (qi_lload 3 (qi_lret (0, 0) Po)) (qi_lload 3 (qi_aload 1 (qi_iload 5 (qi_iald 1032 (qi_i2l (qi_call 2 (0, 0) sp_SR_mix (qi_lstore 3 (qi_iinc 5 (nI 1) k27)))))))))))
def kc_Sd_tagOf_27 (Po : Option Value → qa_M → Prop) : qa_K := qi_loop (kb_Sd_tagOf_27 Po)
def kc_Sd_tagOf_0 (Po : Option Value → qa_M → Prop) : qa_K := (qi_aload 0 (qi_gj 4 97 (qi_lc 2 (qi_call 2 (0, 0) sp_SR_mix (qi_aload 0 (qi_gi 4 98 (qi_i2l (qi_call 2 (0, 0) sp_SR_mix (qi_iload 2 (qi_i2l (qi_call 2 (0, 0) sp_SR_mix (qi_lstore 3 (qi_ic (nI 0) (qi_istore 5 (kc_Sd_tagOf_27 Po)))))))))))))))
abbrev kS_Sd_tagOf (l : Launch) (D : va_G) (E : Nat → ClassId) (B : Nat) (sc : qa_Z) (Po : Option Value → qa_M → Prop) (pc : Nat) (k : qa_K) : Prop := qa_S l "SealedRecords$Side" prog_6_method_6_code 6 (some .long) false D E B rm_Sd_tagOf sc (qa_Qf D E B rm_Sd_tagOf Po) pc k
theorem kt_Sd_tagOf_27 (l : Launch) (D : va_G) (E : Nat → ClassId) (B : Nat) (sc : qa_Z) (Po : Option Value → qa_M → Prop) {k27 : qa_K} (hk27 : kS_Sd_tagOf l D E B sc Po 27 k27) : kS_Sd_tagOf l D E B sc Po 27 (kb_Sd_tagOf_27 Po k27) := (qs_iload kd_Sd_tagOf_27 (qs_iload_n kd_Sd_tagOf_29 rfl (qs_icge (tgt := 49) kd_Sd_tagOf_30 (by decide) (qs_lload_n kd_Sd_tagOf_49 rfl (qs_lret kd_Sd_tagOf_50)) (qs_lload_n kd_Sd_tagOf_33 rfl (qs_aload_n kd_Sd_tagOf_34 rfl (qs_iload kd_Sd_tagOf_35 (qs_iald (κ := 1032) rfl (by decide) kd_Sd_tagOf_37 (qs_i2l kd_Sd_tagOf_38 (qs_calln (ct_SR_mix l sc) ww_67 (by decide) (by decide) ww_106 ww_69 ww_1 yd_SR_mix kd_Sd_tagOf_39 (qs_lstore_n kd_Sd_tagOf_42 rfl (by decide) (qs_iinc kd_Sd_tagOf_43 (by decide) (by decide) (qs_goto (tgt := 27) kd_Sd_tagOf_46 (by decide) hk27))))))))))))
theorem ks_Sd_tagOf_27 (l : Launch) (D : va_G) (E : Nat → ClassId) (B : Nat) (sc : qa_Z) (Po : Option Value → qa_M → Prop) : kS_Sd_tagOf l D E B sc Po 27 (kc_Sd_tagOf_27 Po) := qs_loop fun k27 hk27 => kt_Sd_tagOf_27 l D E B sc Po hk27
theorem ks_Sd_tagOf_0 (l : Launch) (D : va_G) (E : Nat → ClassId) (B : Nat) (sc : qa_Z) (Po : Option Value → qa_M → Prop) : kS_Sd_tagOf l D E B sc Po 0 (kc_Sd_tagOf_0 Po) := (qs_aload_n kd_Sd_tagOf_0 rfl (fg_97 ww_78 kd_Sd_tagOf_1 (qs_ldc2 ww_135 kd_Sd_tagOf_4 (qs_calln (ct_SR_mix l sc) ww_67 (by decide) (by decide) ww_106 ww_69 ww_1 yd_SR_mix kd_Sd_tagOf_7 (qs_aload_n kd_Sd_tagOf_10 rfl (fg_98 ww_79 kd_Sd_tagOf_11 (qs_i2l kd_Sd_tagOf_14 (qs_calln (ct_SR_mix l sc) ww_67 (by decide) (by decide) ww_106 ww_69 ww_1 yd_SR_mix kd_Sd_tagOf_15 (qs_iload_n kd_Sd_tagOf_18 rfl (qs_i2l kd_Sd_tagOf_19 (qs_calln (ct_SR_mix l sc) ww_67 (by decide) (by decide) ww_106 ww_69 ww_1 yd_SR_mix kd_Sd_tagOf_20 (qs_lstore_n kd_Sd_tagOf_23 rfl (by decide) (qs_iconst kd_Sd_tagOf_24 (by decide) (qs_istore kd_Sd_tagOf_25 (by decide) (ks_Sd_tagOf_27 l D E B sc Po)))))))))))))))
def sp_Sd_tagOf : qa_sp := fun args M Po => match args with
  | [.ref a0, .ref a1, .int a2] => kc_Sd_tagOf_0 Po (0, 0) [some (.ref a0), some (.ref a1), some (.int a2), none, none, none] [] M
  | _ => False
theorem ct_Sd_tagOf (l : Launch) (sc : qa_Z) : qa_T l ym_Sd_tagOf (Cond.code ym_Sd_tagOf prog_6_method_6_code 6 (some .long) :: q_W0) rm_Sd_tagOf sc (sp_Sd_tagOf) := by
  intro D E B args M Po h
  unfold sp_Sd_tagOf at h
  split at h
  · exact qa_ct (ini := false) (by decide) (by decide) (Nat.le_of_ble_eq_true rfl) (qa_lvok rfl) (ks_Sd_tagOf_0 l D E B sc Po) h
  · exact h.elim
theorem kd_Sd_tagByte_0 : decode prog_6_method_7_code 0 = .ok (.lload_n 0, 1) := by decide +kernel
theorem kd_Sd_tagByte_1 : decode prog_6_method_7_code 1 = .ok (.bipush 8, 2) := by decide +kernel
theorem kd_Sd_tagByte_3 : decode prog_6_method_7_code 3 = .ok (.bipush 7, 2) := by decide +kernel
theorem kd_Sd_tagByte_5 : decode prog_6_method_7_code 5 = .ok (.iload_n 2, 1) := by decide +kernel
theorem kd_Sd_tagByte_6 : decode prog_6_method_7_code 6 = .ok (.isub, 1) := by decide +kernel
theorem kd_Sd_tagByte_7 : decode prog_6_method_7_code 7 = .ok (.imul, 1) := by decide +kernel
theorem kd_Sd_tagByte_8 : decode prog_6_method_7_code 8 = .ok (.lushr, 1) := by decide +kernel
theorem kd_Sd_tagByte_9 : decode prog_6_method_7_code 9 = .ok (.l2i, 1) := by decide +kernel
theorem kd_Sd_tagByte_10 : decode prog_6_method_7_code 10 = .ok (.sipush 255, 3) := by decide +kernel
theorem kd_Sd_tagByte_13 : decode prog_6_method_7_code 13 = .ok (.iand, 1) := by decide +kernel
theorem kd_Sd_tagByte_14 : decode prog_6_method_7_code 14 = .ok (.ireturn, 1) := by decide +kernel
def kc_Sd_tagByte_0 (Po : Option Value → qa_M → Prop) : qa_K := (qi_lload 0 (qi_ic (nI 8) (qi_ic (nI 7) (qi_iload 2 (qi_isub (qi_imul (qi_lushr (qi_l2i (qi_ic (nI 255) (qi_iand (qi_iret (0, 0) Po)))))))))))
abbrev kS_Sd_tagByte (l : Launch) (D : va_G) (E : Nat → ClassId) (B : Nat) (sc : qa_Z) (Po : Option Value → qa_M → Prop) (pc : Nat) (k : qa_K) : Prop := qa_S l "SealedRecords$Side" prog_6_method_7_code 3 (some .int) false D E B rm_Sd_tagByte sc (qa_Qf D E B rm_Sd_tagByte Po) pc k
theorem ks_Sd_tagByte_0 (l : Launch) (D : va_G) (E : Nat → ClassId) (B : Nat) (sc : qa_Z) (Po : Option Value → qa_M → Prop) : kS_Sd_tagByte l D E B sc Po 0 (kc_Sd_tagByte_0 Po) := (qs_lload_n kd_Sd_tagByte_0 rfl (qs_bipush kd_Sd_tagByte_1 (by decide) (qs_bipush kd_Sd_tagByte_3 (by decide) (qs_iload_n kd_Sd_tagByte_5 rfl (qs_isub kd_Sd_tagByte_6 (qs_imul kd_Sd_tagByte_7 (qs_lushr kd_Sd_tagByte_8 (qs_l2i kd_Sd_tagByte_9 (qs_sipush kd_Sd_tagByte_10 (by decide) (qs_iand kd_Sd_tagByte_13 (qs_iret kd_Sd_tagByte_14)))))))))))
def sp_Sd_tagByte : qa_sp := fun args M Po => match args with
  | [.long a1, .int a2] => kc_Sd_tagByte_0 Po (0, 0) [some (.long a1), none, some (.int a2)] [] M
  | _ => False
theorem ct_Sd_tagByte (l : Launch) (sc : qa_Z) : qa_T l ym_Sd_tagByte (Cond.code ym_Sd_tagByte prog_6_method_7_code 3 (some .int) :: q_W0) rm_Sd_tagByte sc (sp_Sd_tagByte) := by
  intro D E B args M Po h
  unfold sp_Sd_tagByte at h
  split at h
  · exact qa_ct (ini := false) (by decide) (by decide) (Nat.le_of_ble_eq_true rfl) (qa_lvok rfl) (ks_Sd_tagByte_0 l D E B sc Po) h
  · exact h.elim
theorem kd_En_maskAndTag_0 : decode prog_2_method_6_code 0 = .ok (.aload_n 0, 1) := by decide +kernel
theorem kd_En_maskAndTag_1 : decode prog_2_method_6_code 1 = .ok (.getfield 12, 3) := by decide +kernel
theorem kd_En_maskAndTag_4 : decode prog_2_method_6_code 4 = .ok (.invokevirtual 99, 3) := by decide +kernel
theorem kd_En_maskAndTag_7 : decode prog_2_method_6_code 7 = .ok (.lstore_n 2, 1) := by decide +kernel
theorem kd_En_maskAndTag_8 : decode prog_2_method_6_code 8 = .ok (.aload_n 1, 1) := by decide +kernel
theorem kd_En_maskAndTag_9 : decode prog_2_method_6_code 9 = .ok (.getfield 73, 3) := by decide +kernel
theorem kd_En_maskAndTag_12 : decode prog_2_method_6_code 12 = .ok (.istore 4, 2) := by decide +kernel
theorem kd_En_maskAndTag_14 : decode prog_2_method_6_code 14 = .ok (.iconst 0, 1) := by decide +kernel
theorem kd_En_maskAndTag_15 : decode prog_2_method_6_code 15 = .ok (.istore 5, 2) := by decide +kernel
theorem kd_En_maskAndTag_17 : decode prog_2_method_6_code 17 = .ok (.iload 5, 2) := by decide +kernel
theorem kd_En_maskAndTag_19 : decode prog_2_method_6_code 19 = .ok (.iload 4, 2) := by decide +kernel
theorem kd_En_maskAndTag_21 : decode prog_2_method_6_code 21 = .ok (.if_icmp .ge 25, 3) := by decide +kernel
theorem kd_En_maskAndTag_24 : decode prog_2_method_6_code 24 = .ok (.aload_n 1, 1) := by decide +kernel
theorem kd_En_maskAndTag_25 : decode prog_2_method_6_code 25 = .ok (.getfield 103, 3) := by decide +kernel
theorem kd_En_maskAndTag_28 : decode prog_2_method_6_code 28 = .ok (.iload 5, 2) := by decide +kernel
theorem kd_En_maskAndTag_30 : decode prog_2_method_6_code 30 = .ok (.dup2, 1) := by decide +kernel
theorem kd_En_maskAndTag_31 : decode prog_2_method_6_code 31 = .ok (.iaload, 1) := by decide +kernel
theorem kd_En_maskAndTag_32 : decode prog_2_method_6_code 32 = .ok (.lload_n 2, 1) := by decide +kernel
theorem kd_En_maskAndTag_33 : decode prog_2_method_6_code 33 = .ok (.iload 5, 2) := by decide +kernel
theorem kd_En_maskAndTag_35 : decode prog_2_method_6_code 35 = .ok (.invokestatic 107, 3) := by decide +kernel
theorem kd_En_maskAndTag_38 : decode prog_2_method_6_code 38 = .ok (.ixor, 1) := by decide +kernel
theorem kd_En_maskAndTag_39 : decode prog_2_method_6_code 39 = .ok (.iastore, 1) := by decide +kernel
theorem kd_En_maskAndTag_40 : decode prog_2_method_6_code 40 = .ok (.iinc 5 1, 3) := by decide +kernel
theorem kd_En_maskAndTag_43 : decode prog_2_method_6_code 43 = .ok (.goto (-26), 3) := by decide +kernel
theorem kd_En_maskAndTag_46 : decode prog_2_method_6_code 46 = .ok (.aload_n 0, 1) := by decide +kernel
theorem kd_En_maskAndTag_47 : decode prog_2_method_6_code 47 = .ok (.getfield 12, 3) := by decide +kernel
theorem kd_En_maskAndTag_50 : decode prog_2_method_6_code 50 = .ok (.aload_n 1, 1) := by decide +kernel
theorem kd_En_maskAndTag_51 : decode prog_2_method_6_code 51 = .ok (.getfield 103, 3) := by decide +kernel
theorem kd_En_maskAndTag_54 : decode prog_2_method_6_code 54 = .ok (.iload 4, 2) := by decide +kernel
theorem kd_En_maskAndTag_56 : decode prog_2_method_6_code 56 = .ok (.invokevirtual 111, 3) := by decide +kernel
theorem kd_En_maskAndTag_59 : decode prog_2_method_6_code 59 = .ok (.lstore 5, 2) := by decide +kernel
theorem kd_En_maskAndTag_61 : decode prog_2_method_6_code 61 = .ok (.iconst 0, 1) := by decide +kernel
theorem kd_En_maskAndTag_62 : decode prog_2_method_6_code 62 = .ok (.istore 7, 2) := by decide +kernel
theorem kd_En_maskAndTag_64 : decode prog_2_method_6_code 64 = .ok (.iload 7, 2) := by decide +kernel
theorem kd_En_maskAndTag_66 : decode prog_2_method_6_code 66 = .ok (.bipush 8, 2) := by decide +kernel
theorem kd_En_maskAndTag_68 : decode prog_2_method_6_code 68 = .ok (.if_icmp .ge 20, 3) := by decide +kernel
theorem kd_En_maskAndTag_71 : decode prog_2_method_6_code 71 = .ok (.aload_n 1, 1) := by decide +kernel
theorem kd_En_maskAndTag_72 : decode prog_2_method_6_code 72 = .ok (.lload 5, 2) := by decide +kernel
theorem kd_En_maskAndTag_74 : decode prog_2_method_6_code 74 = .ok (.iload 7, 2) := by decide +kernel
theorem kd_En_maskAndTag_76 : decode prog_2_method_6_code 76 = .ok (.invokestatic 115, 3) := by decide +kernel
theorem kd_En_maskAndTag_79 : decode prog_2_method_6_code 79 = .ok (.invokevirtual 83, 3) := by decide +kernel
theorem kd_En_maskAndTag_82 : decode prog_2_method_6_code 82 = .ok (.iinc 7 1, 3) := by decide +kernel
theorem kd_En_maskAndTag_85 : decode prog_2_method_6_code 85 = .ok (.goto (-21), 3) := by decide +kernel
theorem kd_En_maskAndTag_88 : decode prog_2_method_6_code 88 = .ok (.return_, 1) := by decide +kernel
def kb_En_maskAndTag_64 (Po : Option Value → qa_M → Prop) (k64 : qa_K) : qa_K := (qi_iload 7 (qi_ic (nI 8) (qi_icge (qi_vret (0, 0) Po) (qi_aload 1 (qi_lload 5 (qi_iload 7 (qi_call 2 (0, 0) sp_Sd_tagByte (qi_callv 2 2 (0, 0) sp_Pk_append (qi_iinc 7 (nI 1) k64)))))))))
def kc_En_maskAndTag_64 (Po : Option Value → qa_M → Prop) : qa_K := qi_loop (kb_En_maskAndTag_64 Po)
def kb_En_maskAndTag_17 (Po : Option Value → qa_M → Prop) (k17 : qa_K) : qa_K := (qi_iload 5 (qi_iload 4 (qi_icge (qi_aload 0 (qi_gp 6 161 (qi_aload 1 (qi_gp 2 32 (qi_iload 4 (qi_callv 3 4 (0, 0) sp_Sd_tagOf (qi_lstore 5 (qi_ic (nI 0) (qi_istore 7 (kc_En_maskAndTag_64 Po)))))))))) (qi_aload 1 (qi_gp 2 32 (qi_iload 5 (qi_dup2 (qi_iald 1032 (qi_lload 2 (qi_iload 5 (qi_call 2 (0, 0) sp_Sd_maskByte (qi_ixor (qi_iast 1032 (qi_iinc 5 (nI 1) k17))))))))))))))
def kc_En_maskAndTag_17 (Po : Option Value → qa_M → Prop) : qa_K := qi_loop (kb_En_maskAndTag_17 Po)
def kc_En_maskAndTag_0 (Po : Option Value → qa_M → Prop) : qa_K := (qi_aload 0 (qi_gp 6 161 (qi_callv 1 4 (0, 0) sp_Sd_maskSeed (qi_lstore 2 (qi_aload 1 (qi_gi 2 34 (qi_istore 4 (qi_ic (nI 0) (qi_istore 5 (kc_En_maskAndTag_17 Po))))))))))
abbrev kS_En_maskAndTag (l : Launch) (D : va_G) (E : Nat → ClassId) (B : Nat) (sc : qa_Z) (Po : Option Value → qa_M → Prop) (pc : Nat) (k : qa_K) : Prop := qa_S l "SealedRecords$End" prog_2_method_6_code 8 none false D E B rm_En_maskAndTag sc (qa_Qf D E B rm_En_maskAndTag Po) pc k
theorem kt_En_maskAndTag_64 (l : Launch) (D : va_G) (E : Nat → ClassId) (B : Nat) (sc : qa_Z) (Po : Option Value → qa_M → Prop) {k64 : qa_K} (hk64 : kS_En_maskAndTag l D E B sc Po 64 k64) : kS_En_maskAndTag l D E B sc Po 64 (kb_En_maskAndTag_64 Po k64) := (qs_iload kd_En_maskAndTag_64 (qs_bipush kd_En_maskAndTag_66 (by decide) (qs_icge (tgt := 88) kd_En_maskAndTag_68 (by decide) (qs_vret kd_En_maskAndTag_88) (qs_aload_n kd_En_maskAndTag_71 rfl (qs_lload kd_En_maskAndTag_72 (qs_iload kd_En_maskAndTag_74 (qs_calls (ct_Sd_tagByte l sc) ww_136 (by decide) (by decide) ww_137 ww_138 ww_7 yd_Sd_tagByte kd_En_maskAndTag_76 (qs_callv (ci := 1) (ct_Pk_append l sc) ww_122 (by decide) rfl (by decide) ww_139 ww_124 ww_125 ww_3 yd_Pk_append kd_En_maskAndTag_79 (qs_iinc kd_En_maskAndTag_82 (by decide) (by decide) (qs_goto (tgt := 64) kd_En_maskAndTag_85 (by decide) hk64))))))))))
theorem ks_En_maskAndTag_64 (l : Launch) (D : va_G) (E : Nat → ClassId) (B : Nat) (sc : qa_Z) (Po : Option Value → qa_M → Prop) : kS_En_maskAndTag l D E B sc Po 64 (kc_En_maskAndTag_64 Po) := qs_loop fun k64 hk64 => kt_En_maskAndTag_64 l D E B sc Po hk64
theorem kt_En_maskAndTag_17 (l : Launch) (D : va_G) (E : Nat → ClassId) (B : Nat) (sc : qa_Z) (Po : Option Value → qa_M → Prop) {k17 : qa_K} (hk17 : kS_En_maskAndTag l D E B sc Po 17 k17) : kS_En_maskAndTag l D E B sc Po 17 (kb_En_maskAndTag_17 Po k17) := (qs_iload kd_En_maskAndTag_17 (qs_iload kd_En_maskAndTag_19 (qs_icge (tgt := 46) kd_En_maskAndTag_21 (by decide) (qs_aload_n kd_En_maskAndTag_46 rfl (fg_161 ww_32 kd_En_maskAndTag_47 (qs_aload_n kd_En_maskAndTag_50 rfl (fg_32 ww_140 kd_En_maskAndTag_51 (qs_iload kd_En_maskAndTag_54 (qs_callv (ci := 3) (ct_Sd_tagOf l sc) ww_141 (by decide) rfl (by decide) ww_142 ww_143 ww_144 ww_7 yd_Sd_tagOf kd_En_maskAndTag_56 (qs_lstore kd_En_maskAndTag_59 (by decide) (qs_iconst kd_En_maskAndTag_61 (by decide) (qs_istore kd_En_maskAndTag_62 (by decide) (ks_En_maskAndTag_64 l D E B sc Po)))))))))) (qs_aload_n kd_En_maskAndTag_24 rfl (fg_32 ww_140 kd_En_maskAndTag_25 (qs_iload kd_En_maskAndTag_28 (qs_dup2 kd_En_maskAndTag_30 (qs_iald (κ := 1032) rfl (by decide) kd_En_maskAndTag_31 (qs_lload_n kd_En_maskAndTag_32 rfl (qs_iload kd_En_maskAndTag_33 (qs_calls (ct_Sd_maskByte l sc) ww_145 (by decide) (by decide) ww_146 ww_147 ww_7 yd_Sd_maskByte kd_En_maskAndTag_35 (qs_ixor kd_En_maskAndTag_38 (qs_iast (κ := 1032) rfl (by decide) kd_En_maskAndTag_39 (qs_iinc kd_En_maskAndTag_40 (by decide) (by decide) (qs_goto (tgt := 17) kd_En_maskAndTag_43 (by decide) hk17)))))))))))))))
theorem ks_En_maskAndTag_17 (l : Launch) (D : va_G) (E : Nat → ClassId) (B : Nat) (sc : qa_Z) (Po : Option Value → qa_M → Prop) : kS_En_maskAndTag l D E B sc Po 17 (kc_En_maskAndTag_17 Po) := qs_loop fun k17 hk17 => kt_En_maskAndTag_17 l D E B sc Po hk17
theorem ks_En_maskAndTag_0 (l : Launch) (D : va_G) (E : Nat → ClassId) (B : Nat) (sc : qa_Z) (Po : Option Value → qa_M → Prop) : kS_En_maskAndTag l D E B sc Po 0 (kc_En_maskAndTag_0 Po) := (qs_aload_n kd_En_maskAndTag_0 rfl (fg_161 ww_32 kd_En_maskAndTag_1 (qs_callv (ci := 3) (ct_Sd_maskSeed l sc) ww_148 (by decide) rfl (by decide) ww_149 ww_150 ww_151 ww_7 yd_Sd_maskSeed kd_En_maskAndTag_4 (qs_lstore_n kd_En_maskAndTag_7 rfl (by decide) (qs_aload_n kd_En_maskAndTag_8 rfl (fg_34 ww_127 kd_En_maskAndTag_9 (qs_istore kd_En_maskAndTag_12 (by decide) (qs_iconst kd_En_maskAndTag_14 (by decide) (qs_istore kd_En_maskAndTag_15 (by decide) (ks_En_maskAndTag_17 l D E B sc Po))))))))))
def sp_En_maskAndTag : qa_sp := fun args M Po => match args with
  | [.ref a0, .ref a1] => kc_En_maskAndTag_0 Po (0, 0) [some (.ref a0), some (.ref a1), none, none, none, none, none, none] [] M
  | _ => False
theorem ct_En_maskAndTag (l : Launch) (sc : qa_Z) : qa_T l ym_En_maskAndTag (Cond.code ym_En_maskAndTag prog_2_method_6_code 8 none :: q_W0) rm_En_maskAndTag sc (sp_En_maskAndTag) := by
  intro D E B args M Po h
  unfold sp_En_maskAndTag at h
  split at h
  · exact qa_ct (ini := false) (by decide) (by decide) (Nat.le_of_ble_eq_true rfl) (qa_lvok rfl) (ks_En_maskAndTag_0 l D E B sc Po) h
  · exact h.elim
theorem kd_En_sealDraft_0 : decode prog_2_method_5_code 0 = .ok (.aload_n 3, 1) := by decide +kernel
theorem kd_En_sealDraft_1 : decode prog_2_method_5_code 1 = .ok (.aload_n 0, 1) := by decide +kernel
theorem kd_En_sealDraft_2 : decode prog_2_method_5_code 2 = .ok (.getfield 26, 3) := by decide +kernel
theorem kd_En_sealDraft_5 : decode prog_2_method_5_code 5 = .ok (.invokevirtual 76, 3) := by decide +kernel
theorem kd_En_sealDraft_8 : decode prog_2_method_5_code 8 = .ok (.aload_n 0, 1) := by decide +kernel
theorem kd_En_sealDraft_9 : decode prog_2_method_5_code 9 = .ok (.getfield 12, 3) := by decide +kernel
theorem kd_En_sealDraft_12 : decode prog_2_method_5_code 12 = .ok (.getfield 70, 3) := by decide +kernel
theorem kd_En_sealDraft_15 : decode prog_2_method_5_code 15 = .ok (.ifCond .ne 11, 3) := by decide +kernel
theorem kd_En_sealDraft_18 : decode prog_2_method_5_code 18 = .ok (.aload_n 3, 1) := by decide +kernel
theorem kd_En_sealDraft_19 : decode prog_2_method_5_code 19 = .ok (.iload_n 1, 1) := by decide +kernel
theorem kd_En_sealDraft_20 : decode prog_2_method_5_code 20 = .ok (.putfield 80, 3) := by decide +kernel
theorem kd_En_sealDraft_23 : decode prog_2_method_5_code 23 = .ok (.goto 39, 3) := by decide +kernel
theorem kd_En_sealDraft_26 : decode prog_2_method_5_code 26 = .ok (.aload_n 3, 1) := by decide +kernel
theorem kd_En_sealDraft_27 : decode prog_2_method_5_code 27 = .ok (.bipush 23, 2) := by decide +kernel
theorem kd_En_sealDraft_29 : decode prog_2_method_5_code 29 = .ok (.putfield 80, 3) := by decide +kernel
theorem kd_En_sealDraft_32 : decode prog_2_method_5_code 32 = .ok (.aload_n 3, 1) := by decide +kernel
theorem kd_En_sealDraft_33 : decode prog_2_method_5_code 33 = .ok (.iload_n 1, 1) := by decide +kernel
theorem kd_En_sealDraft_34 : decode prog_2_method_5_code 34 = .ok (.invokevirtual 83, 3) := by decide +kernel
theorem kd_En_sealDraft_37 : decode prog_2_method_5_code 37 = .ok (.iconst 0, 1) := by decide +kernel
theorem kd_En_sealDraft_38 : decode prog_2_method_5_code 38 = .ok (.istore 4, 2) := by decide +kernel
theorem kd_En_sealDraft_40 : decode prog_2_method_5_code 40 = .ok (.iload 4, 2) := by decide +kernel
theorem kd_En_sealDraft_42 : decode prog_2_method_5_code 42 = .ok (.iload_n 2, 1) := by decide +kernel
theorem kd_En_sealDraft_43 : decode prog_2_method_5_code 43 = .ok (.if_icmp .ge 14, 3) := by decide +kernel
theorem kd_En_sealDraft_46 : decode prog_2_method_5_code 46 = .ok (.aload_n 3, 1) := by decide +kernel
theorem kd_En_sealDraft_47 : decode prog_2_method_5_code 47 = .ok (.iconst 0, 1) := by decide +kernel
theorem kd_En_sealDraft_48 : decode prog_2_method_5_code 48 = .ok (.invokevirtual 83, 3) := by decide +kernel
theorem kd_En_sealDraft_51 : decode prog_2_method_5_code 51 = .ok (.iinc 4 1, 3) := by decide +kernel
theorem kd_En_sealDraft_54 : decode prog_2_method_5_code 54 = .ok (.goto (-14), 3) := by decide +kernel
theorem kd_En_sealDraft_57 : decode prog_2_method_5_code 57 = .ok (.aload_n 0, 1) := by decide +kernel
theorem kd_En_sealDraft_58 : decode prog_2_method_5_code 58 = .ok (.aload_n 3, 1) := by decide +kernel
theorem kd_En_sealDraft_59 : decode prog_2_method_5_code 59 = .ok (.invokevirtual 86, 3) := by decide +kernel
theorem kd_En_sealDraft_62 : decode prog_2_method_5_code 62 = .ok (.aload_n 0, 1) := by decide +kernel
theorem kd_En_sealDraft_63 : decode prog_2_method_5_code 63 = .ok (.getfield 26, 3) := by decide +kernel
theorem kd_En_sealDraft_66 : decode prog_2_method_5_code 66 = .ok (.iconst 0, 1) := by decide +kernel
theorem kd_En_sealDraft_67 : decode prog_2_method_5_code 67 = .ok (.invokevirtual 89, 3) := by decide +kernel
theorem kd_En_sealDraft_70 : decode prog_2_method_5_code 70 = .ok (.aload_n 0, 1) := by decide +kernel
theorem kd_En_sealDraft_71 : decode prog_2_method_5_code 71 = .ok (.getfield 12, 3) := by decide +kernel
theorem kd_En_sealDraft_74 : decode prog_2_method_5_code 74 = .ok (.dup, 1) := by decide +kernel
theorem kd_En_sealDraft_75 : decode prog_2_method_5_code 75 = .ok (.getfield 92, 3) := by decide +kernel
theorem kd_En_sealDraft_78 : decode prog_2_method_5_code 78 = .ok (.iconst 1, 1) := by decide +kernel
theorem kd_En_sealDraft_79 : decode prog_2_method_5_code 79 = .ok (.iadd, 1) := by decide +kernel
theorem kd_En_sealDraft_80 : decode prog_2_method_5_code 80 = .ok (.putfield 92, 3) := by decide +kernel
theorem kd_En_sealDraft_83 : decode prog_2_method_5_code 83 = .ok (.iload_n 1, 1) := by decide +kernel
theorem kd_En_sealDraft_84 : decode prog_2_method_5_code 84 = .ok (.bipush 21, 2) := by decide +kernel
theorem kd_En_sealDraft_86 : decode prog_2_method_5_code 86 = .ok (.if_icmp .ne 11, 3) := by decide +kernel
theorem kd_En_sealDraft_89 : decode prog_2_method_5_code 89 = .ok (.aload_n 0, 1) := by decide +kernel
theorem kd_En_sealDraft_90 : decode prog_2_method_5_code 90 = .ok (.getfield 12, 3) := by decide +kernel
theorem kd_En_sealDraft_93 : decode prog_2_method_5_code 93 = .ok (.iconst 1, 1) := by decide +kernel
theorem kd_En_sealDraft_94 : decode prog_2_method_5_code 94 = .ok (.putfield 95, 3) := by decide +kernel
theorem kd_En_sealDraft_97 : decode prog_2_method_5_code 97 = .ok (.return_, 1) := by decide +kernel
def kc_En_sealDraft_97 (Po : Option Value → qa_M → Prop) : qa_K := (qi_vret (0, 0) Po)
def kc_En_sealDraft_62 (Po : Option Value → qa_M → Prop) : qa_K := (qi_aload 0 (qi_gp 6 163 (qi_ic (nI 0) (qi_callv 2 2 (0, 0) sp_Pk_restart (qi_aload 0 (qi_gp 6 161 (qi_dup (qi_gi 4 98 (qi_ic (nI 1) (qi_iadd (qi_pi 4 98 (qi_iload 1 (qi_ic (nI 21) (qi_icne (kc_En_sealDraft_97 Po) (qi_aload 0 (qi_gp 6 161 (qi_ic (nI 1) (qi_pz 4 99 (kc_En_sealDraft_97 Po)))))))))))))))))))
def kb_En_sealDraft_40 (Po : Option Value → qa_M → Prop) (k40 : qa_K) : qa_K := (qi_iload 4 (qi_iload 2 (qi_icge (qi_aload 0 (qi_aload 3 (qi_callv 2 6 (0, 0) sp_En_maskAndTag (kc_En_sealDraft_62 Po)))) (qi_aload 3 (qi_ic (nI 0) (qi_callv 2 2 (0, 0) sp_Pk_append (qi_iinc 4 (nI 1) k40)))))))
def kc_En_sealDraft_40 (Po : Option Value → qa_M → Prop) : qa_K := qi_loop (kb_En_sealDraft_40 Po)
def kc_En_sealDraft_0 (Po : Option Value → qa_M → Prop) : qa_K := (qi_aload 3 (qi_aload 0 (qi_gp 6 163 (qi_callv 2 2 (0, 0) sp_Pk_becomeLike (qi_aload 0 (qi_gp 6 161 (qi_gi 4 96 (qi_ifne (qi_aload 3 (qi_ic (nI 23) (qi_pi 2 33 (qi_aload 3 (qi_iload 1 (qi_callv 2 2 (0, 0) sp_Pk_append (qi_ic (nI 0) (qi_istore 4 (kc_En_sealDraft_40 Po))))))))) (qi_aload 3 (qi_iload 1 (qi_pi 2 33 (kc_En_sealDraft_62 Po))))))))))))
abbrev kS_En_sealDraft (l : Launch) (D : va_G) (E : Nat → ClassId) (B : Nat) (sc : qa_Z) (Po : Option Value → qa_M → Prop) (pc : Nat) (k : qa_K) : Prop := qa_S l "SealedRecords$End" prog_2_method_5_code 5 none false D E B rm_En_sealDraft sc (qa_Qf D E B rm_En_sealDraft Po) pc k
theorem ks_En_sealDraft_97 (l : Launch) (D : va_G) (E : Nat → ClassId) (B : Nat) (sc : qa_Z) (Po : Option Value → qa_M → Prop) : kS_En_sealDraft l D E B sc Po 97 (kc_En_sealDraft_97 Po) := (qs_vret kd_En_sealDraft_97)
theorem ks_En_sealDraft_62 (l : Launch) (D : va_G) (E : Nat → ClassId) (B : Nat) (sc : qa_Z) (Po : Option Value → qa_M → Prop) : kS_En_sealDraft l D E B sc Po 62 (kc_En_sealDraft_62 Po) := (qs_aload_n kd_En_sealDraft_62 rfl (fg_163 ww_36 kd_En_sealDraft_63 (qs_iconst kd_En_sealDraft_66 (by decide) (qs_callv (ci := 1) (ct_Pk_restart l sc) ww_131 (by decide) rfl (by decide) ww_152 ww_133 ww_134 ww_3 yd_Pk_restart kd_En_sealDraft_67 (qs_aload_n kd_En_sealDraft_70 rfl (fg_161 ww_32 kd_En_sealDraft_71 (qs_dup kd_En_sealDraft_74 (fg_98 ww_153 kd_En_sealDraft_75 (qs_iconst kd_En_sealDraft_78 (by decide) (qs_iadd kd_En_sealDraft_79 (fp_98 ww_153 kd_En_sealDraft_80 (qs_iload_n kd_En_sealDraft_83 rfl (qs_bipush kd_En_sealDraft_84 (by decide) (qs_icne (tgt := 97) kd_En_sealDraft_86 (by decide) (ks_En_sealDraft_97 l D E B sc Po) (qs_aload_n kd_En_sealDraft_89 rfl (fg_161 ww_32 kd_En_sealDraft_90 (qs_iconst kd_En_sealDraft_93 (by decide) (fp_99 ww_71 kd_En_sealDraft_94 (ks_En_sealDraft_97 l D E B sc Po)))))))))))))))))))
theorem kt_En_sealDraft_40 (l : Launch) (D : va_G) (E : Nat → ClassId) (B : Nat) (sc : qa_Z) (Po : Option Value → qa_M → Prop) {k40 : qa_K} (hk40 : kS_En_sealDraft l D E B sc Po 40 k40) : kS_En_sealDraft l D E B sc Po 40 (kb_En_sealDraft_40 Po k40) := (qs_iload kd_En_sealDraft_40 (qs_iload_n kd_En_sealDraft_42 rfl (qs_icge (tgt := 57) kd_En_sealDraft_43 (by decide) (qs_aload_n kd_En_sealDraft_57 rfl (qs_aload_n kd_En_sealDraft_58 rfl (qs_callv (ci := 5) (ct_En_maskAndTag l sc) ww_154 (by decide) rfl (by decide) ww_155 ww_156 ww_157 ww_11 yd_En_maskAndTag kd_En_sealDraft_59 (ks_En_sealDraft_62 l D E B sc Po)))) (qs_aload_n kd_En_sealDraft_46 rfl (qs_iconst kd_En_sealDraft_47 (by decide) (qs_callv (ci := 1) (ct_Pk_append l sc) ww_122 (by decide) rfl (by decide) ww_139 ww_124 ww_125 ww_3 yd_Pk_append kd_En_sealDraft_48 (qs_iinc kd_En_sealDraft_51 (by decide) (by decide) (qs_goto (tgt := 40) kd_En_sealDraft_54 (by decide) hk40))))))))
theorem ks_En_sealDraft_40 (l : Launch) (D : va_G) (E : Nat → ClassId) (B : Nat) (sc : qa_Z) (Po : Option Value → qa_M → Prop) : kS_En_sealDraft l D E B sc Po 40 (kc_En_sealDraft_40 Po) := qs_loop fun k40 hk40 => kt_En_sealDraft_40 l D E B sc Po hk40
theorem ks_En_sealDraft_0 (l : Launch) (D : va_G) (E : Nat → ClassId) (B : Nat) (sc : qa_Z) (Po : Option Value → qa_M → Prop) : kS_En_sealDraft l D E B sc Po 0 (kc_En_sealDraft_0 Po) := (qs_aload_n kd_En_sealDraft_0 rfl (qs_aload_n kd_En_sealDraft_1 rfl (fg_163 ww_36 kd_En_sealDraft_2 (qs_callv (ci := 1) (ct_Pk_becomeLike l sc) ww_158 (by decide) rfl (by decide) ww_159 ww_160 ww_161 ww_3 yd_Pk_becomeLike kd_En_sealDraft_5 (qs_aload_n kd_En_sealDraft_8 rfl (fg_161 ww_32 kd_En_sealDraft_9 (fg_96 ww_126 kd_En_sealDraft_12 (qs_ifne (tgt := 26) kd_En_sealDraft_15 (by decide) (qs_aload_n kd_En_sealDraft_26 rfl (qs_bipush kd_En_sealDraft_27 (by decide) (fp_33 ww_162 kd_En_sealDraft_29 (qs_aload_n kd_En_sealDraft_32 rfl (qs_iload_n kd_En_sealDraft_33 rfl (qs_callv (ci := 1) (ct_Pk_append l sc) ww_122 (by decide) rfl (by decide) ww_139 ww_124 ww_125 ww_3 yd_Pk_append kd_En_sealDraft_34 (qs_iconst kd_En_sealDraft_37 (by decide) (qs_istore kd_En_sealDraft_38 (by decide) (ks_En_sealDraft_40 l D E B sc Po))))))))) (qs_aload_n kd_En_sealDraft_18 rfl (qs_iload_n kd_En_sealDraft_19 rfl (fp_33 ww_162 kd_En_sealDraft_20 (qs_goto (tgt := 62) kd_En_sealDraft_23 (by decide) (ks_En_sealDraft_62 l D E B sc Po)))))))))))))
def sp_En_sealDraft : qa_sp := fun args M Po => match args with
  | [.ref a0, .int a1, .int a2, .ref a3] => kc_En_sealDraft_0 Po (0, 0) [some (.ref a0), some (.int a1), some (.int a2), some (.ref a3), none] [] M
  | _ => False
theorem ct_En_sealDraft (l : Launch) (sc : qa_Z) : qa_T l ym_En_sealDraft (Cond.code ym_En_sealDraft prog_2_method_5_code 5 none :: q_W0) rm_En_sealDraft sc (sp_En_sealDraft) := by
  intro D E B args M Po h
  unfold sp_En_sealDraft at h
  split at h
  · exact qa_ct (ini := false) (by decide) (by decide) (Nat.le_of_ble_eq_true rfl) (qa_lvok rfl) (ks_En_sealDraft_0 l D E B sc Po) h
  · exact h.elim
theorem kd_SR_seal_0 : decode prog_1_method_6_code 0 = .ok (.iload_n 1, 1) := by decide +kernel
theorem kd_SR_seal_1 : decode prog_1_method_6_code 1 = .ok (.invokestatic 22, 3) := by decide +kernel
theorem kd_SR_seal_4 : decode prog_1_method_6_code 4 = .ok (.ifCond .ne 5, 3) := by decide +kernel
theorem kd_SR_seal_7 : decode prog_1_method_6_code 7 = .ok (.iconst (-1), 1) := by decide +kernel
theorem kd_SR_seal_8 : decode prog_1_method_6_code 8 = .ok (.ireturn, 1) := by decide +kernel
theorem kd_SR_seal_9 : decode prog_1_method_6_code 9 = .ok (.aload_n 0, 1) := by decide +kernel
theorem kd_SR_seal_10 : decode prog_1_method_6_code 10 = .ok (.getfield 18, 3) := by decide +kernel
theorem kd_SR_seal_13 : decode prog_1_method_6_code 13 = .ok (.iload_n 1, 1) := by decide +kernel
theorem kd_SR_seal_14 : decode prog_1_method_6_code 14 = .ok (.aaload, 1) := by decide +kernel
theorem kd_SR_seal_15 : decode prog_1_method_6_code 15 = .ok (.astore 4, 2) := by decide +kernel
theorem kd_SR_seal_17 : decode prog_1_method_6_code 17 = .ok (.aload 4, 2) := by decide +kernel
theorem kd_SR_seal_19 : decode prog_1_method_6_code 19 = .ok (.getfield 39, 3) := by decide +kernel
theorem kd_SR_seal_22 : decode prog_1_method_6_code 22 = .ok (.getfield 46, 3) := by decide +kernel
theorem kd_SR_seal_25 : decode prog_1_method_6_code 25 = .ok (.ifCond .eq 6, 3) := by decide +kernel
theorem kd_SR_seal_28 : decode prog_1_method_6_code 28 = .ok (.bipush (-2), 2) := by decide +kernel
theorem kd_SR_seal_30 : decode prog_1_method_6_code 30 = .ok (.ireturn, 1) := by decide +kernel
theorem kd_SR_seal_31 : decode prog_1_method_6_code 31 = .ok (.iload_n 2, 1) := by decide +kernel
theorem kd_SR_seal_32 : decode prog_1_method_6_code 32 = .ok (.invokestatic 86, 3) := by decide +kernel
theorem kd_SR_seal_35 : decode prog_1_method_6_code 35 = .ok (.ifCond .eq 12, 3) := by decide +kernel
theorem kd_SR_seal_38 : decode prog_1_method_6_code 38 = .ok (.aload 4, 2) := by decide +kernel
theorem kd_SR_seal_40 : decode prog_1_method_6_code 40 = .ok (.iload_n 3, 1) := by decide +kernel
theorem kd_SR_seal_41 : decode prog_1_method_6_code 41 = .ok (.invokevirtual 101, 3) := by decide +kernel
theorem kd_SR_seal_44 : decode prog_1_method_6_code 44 = .ok (.ifCond .ne 6, 3) := by decide +kernel
theorem kd_SR_seal_47 : decode prog_1_method_6_code 47 = .ok (.bipush (-4), 2) := by decide +kernel
theorem kd_SR_seal_49 : decode prog_1_method_6_code 49 = .ok (.ireturn, 1) := by decide +kernel
theorem kd_SR_seal_50 : decode prog_1_method_6_code 50 = .ok (.aload 4, 2) := by decide +kernel
theorem kd_SR_seal_52 : decode prog_1_method_6_code 52 = .ok (.getfield 39, 3) := by decide +kernel
theorem kd_SR_seal_55 : decode prog_1_method_6_code 55 = .ok (.getfield 104, 3) := by decide +kernel
theorem kd_SR_seal_58 : decode prog_1_method_6_code 58 = .ok (.aload_n 0, 1) := by decide +kernel
theorem kd_SR_seal_59 : decode prog_1_method_6_code 59 = .ok (.getfield 9, 3) := by decide +kernel
theorem kd_SR_seal_62 : decode prog_1_method_6_code 62 = .ok (.if_icmp .ne 6, 3) := by decide +kernel
theorem kd_SR_seal_65 : decode prog_1_method_6_code 65 = .ok (.bipush (-5), 2) := by decide +kernel
theorem kd_SR_seal_67 : decode prog_1_method_6_code 67 = .ok (.ireturn, 1) := by decide +kernel
theorem kd_SR_seal_68 : decode prog_1_method_6_code 68 = .ok (.aload_n 0, 1) := by decide +kernel
theorem kd_SR_seal_69 : decode prog_1_method_6_code 69 = .ok (.getfield 18, 3) := by decide +kernel
theorem kd_SR_seal_72 : decode prog_1_method_6_code 72 = .ok (.iconst 1, 1) := by decide +kernel
theorem kd_SR_seal_73 : decode prog_1_method_6_code 73 = .ok (.iload_n 1, 1) := by decide +kernel
theorem kd_SR_seal_74 : decode prog_1_method_6_code 74 = .ok (.isub, 1) := by decide +kernel
theorem kd_SR_seal_75 : decode prog_1_method_6_code 75 = .ok (.aaload, 1) := by decide +kernel
theorem kd_SR_seal_76 : decode prog_1_method_6_code 76 = .ok (.getfield 107, 3) := by decide +kernel
theorem kd_SR_seal_79 : decode prog_1_method_6_code 79 = .ok (.astore 5, 2) := by decide +kernel
theorem kd_SR_seal_81 : decode prog_1_method_6_code 81 = .ok (.aload 5, 2) := by decide +kernel
theorem kd_SR_seal_83 : decode prog_1_method_6_code 83 = .ok (.invokevirtual 111, 3) := by decide +kernel
theorem kd_SR_seal_86 : decode prog_1_method_6_code 86 = .ok (.ifCond .eq 6, 3) := by decide +kernel
theorem kd_SR_seal_89 : decode prog_1_method_6_code 89 = .ok (.bipush (-3), 2) := by decide +kernel
theorem kd_SR_seal_91 : decode prog_1_method_6_code 91 = .ok (.ireturn, 1) := by decide +kernel
theorem kd_SR_seal_92 : decode prog_1_method_6_code 92 = .ok (.aload 5, 2) := by decide +kernel
theorem kd_SR_seal_94 : decode prog_1_method_6_code 94 = .ok (.invokevirtual 114, 3) := by decide +kernel
theorem kd_SR_seal_97 : decode prog_1_method_6_code 97 = .ok (.astore 6, 2) := by decide +kernel
theorem kd_SR_seal_99 : decode prog_1_method_6_code 99 = .ok (.aload 4, 2) := by decide +kernel
theorem kd_SR_seal_101 : decode prog_1_method_6_code 101 = .ok (.iload_n 2, 1) := by decide +kernel
theorem kd_SR_seal_102 : decode prog_1_method_6_code 102 = .ok (.iload_n 3, 1) := by decide +kernel
theorem kd_SR_seal_103 : decode prog_1_method_6_code 103 = .ok (.aload 6, 2) := by decide +kernel
theorem kd_SR_seal_105 : decode prog_1_method_6_code 105 = .ok (.invokevirtual 118, 3) := by decide +kernel
theorem kd_SR_seal_108 : decode prog_1_method_6_code 108 = .ok (.aload 6, 2) := by decide +kernel
theorem kd_SR_seal_110 : decode prog_1_method_6_code 110 = .ok (.getfield 122, 3) := by decide +kernel
theorem kd_SR_seal_113 : decode prog_1_method_6_code 113 = .ok (.ireturn, 1) := by decide +kernel
def kc_SR_seal_47 (Po : Option Value → qa_M → Prop) : qa_K := (qi_ic (-4) (qi_iret (0, 0) Po))
def kc_SR_seal_0 (Po : Option Value → qa_M → Prop) : qa_K := (qi_iload 1 (qi_call 1 (0, 0) sp_SR_isEnd (qi_ifne (qi_aload 0 (qi_gp 1 1 (qi_iload 1 (qi_aald 1001 (qi_astore 4 (qi_aload 4 (qi_gp 6 161 (qi_gi 4 99 (qi_ifeq (qi_iload 2 (qi_call 1 (0, 0) sp_SR_isByte (qi_ifeq (kc_SR_seal_47 Po) (qi_aload 4 (qi_iload 3 (qi_callv 2 6 (0, 0) sp_En_allowsPadding (qi_ifne (qi_aload 4 (qi_gp 6 161 (qi_gi 4 98 (qi_aload 0 (qi_gi 1 0 (qi_icne (qi_aload 0 (qi_gp 1 1 (qi_ic (nI 1) (qi_iload 1 (qi_isub (qi_aald 1001 (qi_gp 6 164 (qi_astore 5 (qi_aload 5 (qi_callv 1 3 (0, 0) sp_Rw_isFull (qi_ifeq (qi_aload 5 (qi_callv 1 3 (0, 0) sp_Rw_addNewest (qi_astore 6 (qi_aload 4 (qi_iload 2 (qi_iload 3 (qi_aload 6 (qi_callv 4 6 (0, 0) sp_En_sealDraft (qi_aload 6 (qi_gi 2 34 (qi_iret (0, 0) Po))))))))))) (qi_ic (-3) (qi_iret (0, 0) Po))))))))))))) (qi_ic (-5) (qi_iret (0, 0) Po)))))))) (kc_SR_seal_47 Po)))))))) (qi_ic (-2) (qi_iret (0, 0) Po))))))))))) (qi_ic (-1) (qi_iret (0, 0) Po)))))
abbrev kS_SR_seal (l : Launch) (D : va_G) (E : Nat → ClassId) (B : Nat) (sc : qa_Z) (Po : Option Value → qa_M → Prop) (pc : Nat) (k : qa_K) : Prop := qa_S l "SealedRecords" prog_1_method_6_code 7 (some .int) false D E B rm_SR_seal sc (qa_Qf D E B rm_SR_seal Po) pc k
theorem ks_SR_seal_47 (l : Launch) (D : va_G) (E : Nat → ClassId) (B : Nat) (sc : qa_Z) (Po : Option Value → qa_M → Prop) : kS_SR_seal l D E B sc Po 47 (kc_SR_seal_47 Po) := (qs_bipush kd_SR_seal_47 (by decide) (qs_iret kd_SR_seal_49))
theorem ks_SR_seal_0 (l : Launch) (D : va_G) (E : Nat → ClassId) (B : Nat) (sc : qa_Z) (Po : Option Value → qa_M → Prop) : kS_SR_seal l D E B sc Po 0 (kc_SR_seal_0 Po) := (qs_iload_n kd_SR_seal_0 rfl (qs_calls (ct_SR_isEnd l sc) ww_61 (by decide) (by decide) ww_62 ww_63 ww_1 yd_SR_isEnd kd_SR_seal_1 (qs_ifne (tgt := 9) kd_SR_seal_4 (by decide) (qs_aload_n kd_SR_seal_9 rfl (fg_1 ww_57 kd_SR_seal_10 (qs_iload_n kd_SR_seal_13 rfl (qs_aald (κ := 1001) (t := 0) rfl (fun _ => rfl) (by decide) kd_SR_seal_14 (qs_astore kd_SR_seal_15 (by decide) (qs_aload kd_SR_seal_17 (fg_161 ww_104 kd_SR_seal_19 (fg_99 ww_93 kd_SR_seal_22 (qs_ifeq (tgt := 31) kd_SR_seal_25 (by decide) (qs_iload_n kd_SR_seal_31 rfl (qs_calls (ct_SR_isByte l sc) ww_114 (by decide) (by decide) ww_115 ww_116 ww_1 yd_SR_isByte kd_SR_seal_32 (qs_ifeq (tgt := 47) kd_SR_seal_35 (by decide) (ks_SR_seal_47 l D E B sc Po) (qs_aload kd_SR_seal_38 (qs_iload_n kd_SR_seal_40 rfl (qs_callv (ci := 5) (ct_En_allowsPadding l sc) ww_163 (by decide) rfl (by decide) ww_164 ww_165 ww_166 ww_11 yd_En_allowsPadding kd_SR_seal_41 (qs_ifne (tgt := 50) kd_SR_seal_44 (by decide) (qs_aload kd_SR_seal_50 (fg_161 ww_104 kd_SR_seal_52 (fg_98 ww_167 kd_SR_seal_55 (qs_aload_n kd_SR_seal_58 rfl (fg_0 ww_52 kd_SR_seal_59 (qs_icne (tgt := 68) kd_SR_seal_62 (by decide) (qs_aload_n kd_SR_seal_68 rfl (fg_1 ww_57 kd_SR_seal_69 (qs_iconst kd_SR_seal_72 (by decide) (qs_iload_n kd_SR_seal_73 rfl (qs_isub kd_SR_seal_74 (qs_aald (κ := 1001) (t := 0) rfl (fun _ => rfl) (by decide) kd_SR_seal_75 (fg_164 ww_168 kd_SR_seal_76 (qs_astore kd_SR_seal_79 (by decide) (qs_aload kd_SR_seal_81 (qs_callv (ci := 2) (ct_Rw_isFull l sc) ww_169 (by decide) rfl (by decide) ww_170 ww_171 ww_172 ww_5 yd_Rw_isFull kd_SR_seal_83 (qs_ifeq (tgt := 92) kd_SR_seal_86 (by decide) (qs_aload kd_SR_seal_92 (qs_callv (ci := 2) (ct_Rw_addNewest l sc) ww_173 (by decide) rfl (by decide) ww_174 ww_175 ww_176 ww_5 yd_Rw_addNewest kd_SR_seal_94 (qs_astore kd_SR_seal_97 (by decide) (qs_aload kd_SR_seal_99 (qs_iload_n kd_SR_seal_101 rfl (qs_iload_n kd_SR_seal_102 rfl (qs_aload kd_SR_seal_103 (qs_callv (ci := 5) (ct_En_sealDraft l sc) ww_177 (by decide) rfl (by decide) ww_178 ww_179 ww_180 ww_11 yd_En_sealDraft kd_SR_seal_105 (qs_aload kd_SR_seal_108 (fg_34 ww_181 kd_SR_seal_110 (qs_iret kd_SR_seal_113))))))))))) (qs_bipush kd_SR_seal_89 (by decide) (qs_iret kd_SR_seal_91))))))))))))) (qs_bipush kd_SR_seal_65 (by decide) (qs_iret kd_SR_seal_67)))))))) (ks_SR_seal_47 l D E B sc Po)))))))) (qs_bipush kd_SR_seal_28 (by decide) (qs_iret kd_SR_seal_30))))))))))) (qs_iconst kd_SR_seal_7 (by decide) (qs_iret kd_SR_seal_8)))))
def sp_SR_seal : qa_sp := fun args M Po => match args with
  | [.ref a0, .int a1, .int a2, .int a3] => kc_SR_seal_0 Po (0, 0) [some (.ref a0), some (.int a1), some (.int a2), some (.int a3), none, none, none] [] M
  | _ => False
theorem ct_SR_seal (l : Launch) (sc : qa_Z) : qa_T l ym_SR_seal (Cond.code ym_SR_seal prog_1_method_6_code 7 (some .int) :: q_W0) rm_SR_seal sc (sp_SR_seal) := by
  intro D E B args M Po h
  unfold sp_SR_seal at h
  split at h
  · exact qa_ct (ini := false) (by decide) (by decide) (Nat.le_of_ble_eq_true rfl) (qa_lvok rfl) (ks_SR_seal_0 l D E B sc Po) h
  · exact h.elim
theorem kd_Rw_has_0 : decode prog_5_method_3_code 0 = .ok (.iload_n 1, 1) := by decide +kernel
theorem kd_Rw_has_1 : decode prog_5_method_3_code 1 = .ok (.ifCond .lt 15, 3) := by decide +kernel
theorem kd_Rw_has_4 : decode prog_5_method_3_code 4 = .ok (.iload_n 1, 1) := by decide +kernel
theorem kd_Rw_has_5 : decode prog_5_method_3_code 5 = .ok (.aload_n 0, 1) := by decide +kernel
theorem kd_Rw_has_6 : decode prog_5_method_3_code 6 = .ok (.getfield 18, 3) := by decide +kernel
theorem kd_Rw_has_9 : decode prog_5_method_3_code 9 = .ok (.if_icmp .ge 7, 3) := by decide +kernel
theorem kd_Rw_has_12 : decode prog_5_method_3_code 12 = .ok (.iconst 1, 1) := by decide +kernel
theorem kd_Rw_has_13 : decode prog_5_method_3_code 13 = .ok (.goto 4, 3) := by decide +kernel
theorem kd_Rw_has_16 : decode prog_5_method_3_code 16 = .ok (.iconst 0, 1) := by decide +kernel
theorem kd_Rw_has_17 : decode prog_5_method_3_code 17 = .ok (.ireturn, 1) := by decide +kernel
def kc_Rw_has_17 (Po : Option Value → qa_M → Prop) : qa_K := (qi_zret (0, 0) Po)
def kc_Rw_has_16 (Po : Option Value → qa_M → Prop) : qa_K := (qi_ic (nI 0) (kc_Rw_has_17 Po))
def kc_Rw_has_0 (Po : Option Value → qa_M → Prop) : qa_K := (qi_iload 1 (qi_iflt (kc_Rw_has_16 Po) (qi_iload 1 (qi_aload 0 (qi_gi 3 65 (qi_icge (kc_Rw_has_16 Po) (qi_ic (nI 1) (kc_Rw_has_17 Po))))))))
abbrev kS_Rw_has (l : Launch) (D : va_G) (E : Nat → ClassId) (B : Nat) (sc : qa_Z) (Po : Option Value → qa_M → Prop) (pc : Nat) (k : qa_K) : Prop := qa_S l "SealedRecords$Row" prog_5_method_3_code 2 (some .boolean) false D E B rm_Rw_has sc (qa_Qf D E B rm_Rw_has Po) pc k
theorem ks_Rw_has_17 (l : Launch) (D : va_G) (E : Nat → ClassId) (B : Nat) (sc : qa_Z) (Po : Option Value → qa_M → Prop) : kS_Rw_has l D E B sc Po 17 (kc_Rw_has_17 Po) := (qs_zret kd_Rw_has_17)
theorem ks_Rw_has_16 (l : Launch) (D : va_G) (E : Nat → ClassId) (B : Nat) (sc : qa_Z) (Po : Option Value → qa_M → Prop) : kS_Rw_has l D E B sc Po 16 (kc_Rw_has_16 Po) := (qs_iconst kd_Rw_has_16 (by decide) (ks_Rw_has_17 l D E B sc Po))
theorem ks_Rw_has_0 (l : Launch) (D : va_G) (E : Nat → ClassId) (B : Nat) (sc : qa_Z) (Po : Option Value → qa_M → Prop) : kS_Rw_has l D E B sc Po 0 (kc_Rw_has_0 Po) := (qs_iload_n kd_Rw_has_0 rfl (qs_iflt (tgt := 16) kd_Rw_has_1 (by decide) (ks_Rw_has_16 l D E B sc Po) (qs_iload_n kd_Rw_has_4 rfl (qs_aload_n kd_Rw_has_5 rfl (fg_65 ww_128 kd_Rw_has_6 (qs_icge (tgt := 16) kd_Rw_has_9 (by decide) (ks_Rw_has_16 l D E B sc Po) (qs_iconst kd_Rw_has_12 (by decide) (qs_goto (tgt := 17) kd_Rw_has_13 (by decide) (ks_Rw_has_17 l D E B sc Po)))))))))
def sp_Rw_has : qa_sp := fun args M Po => match args with
  | [.ref a0, .int a1] => kc_Rw_has_0 Po (0, 0) [some (.ref a0), some (.int a1)] [] M
  | _ => False
theorem ct_Rw_has (l : Launch) (sc : qa_Z) : qa_T l ym_Rw_has (Cond.code ym_Rw_has prog_5_method_3_code 2 (some .boolean) :: q_W0) rm_Rw_has sc (sp_Rw_has) := by
  intro D E B args M Po h
  unfold sp_Rw_has at h
  split at h
  · exact qa_ct (ini := false) (by decide) (by decide) (Nat.le_of_ble_eq_true rfl) (qa_lvok rfl) (ks_Rw_has_0 l D E B sc Po) h
  · exact h.elim
