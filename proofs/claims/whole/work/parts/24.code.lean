theorem kd_Rw_remove_0 : decode prog_5_method_5_code 0 = .ok (.aload_n 0, 1) := by decide +kernel
theorem kd_Rw_remove_1 : decode prog_5_method_5_code 1 = .ok (.getfield 9, 3) := by decide +kernel
theorem kd_Rw_remove_4 : decode prog_5_method_5_code 4 = .ok (.iload_n 1, 1) := by decide +kernel
theorem kd_Rw_remove_5 : decode prog_5_method_5_code 5 = .ok (.aaload, 1) := by decide +kernel
theorem kd_Rw_remove_6 : decode prog_5_method_5_code 6 = .ok (.astore_n 2, 1) := by decide +kernel
theorem kd_Rw_remove_7 : decode prog_5_method_5_code 7 = .ok (.aload_n 0, 1) := by decide +kernel
theorem kd_Rw_remove_8 : decode prog_5_method_5_code 8 = .ok (.dup, 1) := by decide +kernel
theorem kd_Rw_remove_9 : decode prog_5_method_5_code 9 = .ok (.getfield 18, 3) := by decide +kernel
theorem kd_Rw_remove_12 : decode prog_5_method_5_code 12 = .ok (.iconst 1, 1) := by decide +kernel
theorem kd_Rw_remove_13 : decode prog_5_method_5_code 13 = .ok (.isub, 1) := by decide +kernel
theorem kd_Rw_remove_14 : decode prog_5_method_5_code 14 = .ok (.putfield 18, 3) := by decide +kernel
theorem kd_Rw_remove_17 : decode prog_5_method_5_code 17 = .ok (.iload_n 1, 1) := by decide +kernel
theorem kd_Rw_remove_18 : decode prog_5_method_5_code 18 = .ok (.istore_n 3, 1) := by decide +kernel
theorem kd_Rw_remove_19 : decode prog_5_method_5_code 19 = .ok (.iload_n 3, 1) := by decide +kernel
theorem kd_Rw_remove_20 : decode prog_5_method_5_code 20 = .ok (.aload_n 0, 1) := by decide +kernel
theorem kd_Rw_remove_21 : decode prog_5_method_5_code 21 = .ok (.getfield 18, 3) := by decide +kernel
theorem kd_Rw_remove_24 : decode prog_5_method_5_code 24 = .ok (.if_icmp .ge 23, 3) := by decide +kernel
theorem kd_Rw_remove_27 : decode prog_5_method_5_code 27 = .ok (.aload_n 0, 1) := by decide +kernel
theorem kd_Rw_remove_28 : decode prog_5_method_5_code 28 = .ok (.getfield 9, 3) := by decide +kernel
theorem kd_Rw_remove_31 : decode prog_5_method_5_code 31 = .ok (.iload_n 3, 1) := by decide +kernel
theorem kd_Rw_remove_32 : decode prog_5_method_5_code 32 = .ok (.aload_n 0, 1) := by decide +kernel
theorem kd_Rw_remove_33 : decode prog_5_method_5_code 33 = .ok (.getfield 9, 3) := by decide +kernel
theorem kd_Rw_remove_36 : decode prog_5_method_5_code 36 = .ok (.iload_n 3, 1) := by decide +kernel
theorem kd_Rw_remove_37 : decode prog_5_method_5_code 37 = .ok (.iconst 1, 1) := by decide +kernel
theorem kd_Rw_remove_38 : decode prog_5_method_5_code 38 = .ok (.iadd, 1) := by decide +kernel
theorem kd_Rw_remove_39 : decode prog_5_method_5_code 39 = .ok (.aaload, 1) := by decide +kernel
theorem kd_Rw_remove_40 : decode prog_5_method_5_code 40 = .ok (.aastore, 1) := by decide +kernel
theorem kd_Rw_remove_41 : decode prog_5_method_5_code 41 = .ok (.iinc 3 1, 3) := by decide +kernel
theorem kd_Rw_remove_44 : decode prog_5_method_5_code 44 = .ok (.goto (-25), 3) := by decide +kernel
theorem kd_Rw_remove_47 : decode prog_5_method_5_code 47 = .ok (.aload_n 0, 1) := by decide +kernel
theorem kd_Rw_remove_48 : decode prog_5_method_5_code 48 = .ok (.getfield 9, 3) := by decide +kernel
theorem kd_Rw_remove_51 : decode prog_5_method_5_code 51 = .ok (.aload_n 0, 1) := by decide +kernel
theorem kd_Rw_remove_52 : decode prog_5_method_5_code 52 = .ok (.getfield 18, 3) := by decide +kernel
theorem kd_Rw_remove_55 : decode prog_5_method_5_code 55 = .ok (.aload_n 2, 1) := by decide +kernel
theorem kd_Rw_remove_56 : decode prog_5_method_5_code 56 = .ok (.aastore, 1) := by decide +kernel
theorem kd_Rw_remove_57 : decode prog_5_method_5_code 57 = .ok (.aload_n 2, 1) := by decide +kernel
theorem kd_Rw_remove_58 : decode prog_5_method_5_code 58 = .ok (.areturn, 1) := by decide +kernel
def kb_Rw_remove_19 (Po : Option Value → qa_M → Prop) (k19 : qa_K) : qa_K := (qi_iload 3 (qi_aload 0 (qi_gi 3 65 (qi_icge (qi_aload 0 (qi_gp 3 64 (qi_aload 0 (qi_gi 3 65 (qi_aload 2 (qi_aast 1064 2 (qi_aload 2 (qi_aret (0, 0) Po)))))))) (qi_aload 0 (qi_gp 3 64 (qi_iload 3 (qi_aload 0 (qi_gp 3 64 (qi_iload 3 (qi_ic (nI 1) (qi_iadd (qi_aald 1064 (qi_aast 1064 2 (qi_iinc 3 (nI 1) k19)))))))))))))))
def kc_Rw_remove_19 (Po : Option Value → qa_M → Prop) : qa_K := qi_loop (kb_Rw_remove_19 Po)
def kc_Rw_remove_0 (Po : Option Value → qa_M → Prop) : qa_K := (qi_aload 0 (qi_gp 3 64 (qi_iload 1 (qi_aald 1064 (qi_astore 2 (qi_aload 0 (qi_dup (qi_gi 3 65 (qi_ic (nI 1) (qi_isub (qi_pi 3 65 (qi_iload 1 (qi_istore 3 (kc_Rw_remove_19 Po))))))))))))))
abbrev kS_Rw_remove (l : Launch) (D : va_G) (E : Nat → ClassId) (B : Nat) (sc : qa_Z) (Po : Option Value → qa_M → Prop) (pc : Nat) (k : qa_K) : Prop := qa_S l "SealedRecords$Row" prog_5_method_5_code 4 (some (.object "SealedRecords$Packet")) false D E B rm_Rw_remove sc (qa_Qf D E B rm_Rw_remove Po) pc k
theorem kt_Rw_remove_19 (l : Launch) (D : va_G) (E : Nat → ClassId) (B : Nat) (sc : qa_Z) (Po : Option Value → qa_M → Prop) {k19 : qa_K} (hk19 : kS_Rw_remove l D E B sc Po 19 k19) : kS_Rw_remove l D E B sc Po 19 (kb_Rw_remove_19 Po k19) := (qs_iload_n kd_Rw_remove_19 rfl (qs_aload_n kd_Rw_remove_20 rfl (fg_65 ww_128 kd_Rw_remove_21 (qs_icge (tgt := 47) kd_Rw_remove_24 (by decide) (qs_aload_n kd_Rw_remove_47 rfl (fg_64 ww_20 kd_Rw_remove_48 (qs_aload_n kd_Rw_remove_51 rfl (fg_65 ww_128 kd_Rw_remove_52 (qs_aload_n kd_Rw_remove_55 rfl (qs_aast (κ := 1064) (t := 1) (ci := 1) rfl rfl (fun _ => rfl) (by decide) kd_Rw_remove_56 (qs_aload_n kd_Rw_remove_57 rfl (qs_aret kd_Rw_remove_58)))))))) (qs_aload_n kd_Rw_remove_27 rfl (fg_64 ww_20 kd_Rw_remove_28 (qs_iload_n kd_Rw_remove_31 rfl (qs_aload_n kd_Rw_remove_32 rfl (fg_64 ww_20 kd_Rw_remove_33 (qs_iload_n kd_Rw_remove_36 rfl (qs_iconst kd_Rw_remove_37 (by decide) (qs_iadd kd_Rw_remove_38 (qs_aald (κ := 1064) (t := 1) rfl (fun _ => rfl) (by decide) kd_Rw_remove_39 (qs_aast (κ := 1064) (t := 1) (ci := 1) rfl rfl (fun _ => rfl) (by decide) kd_Rw_remove_40 (qs_iinc kd_Rw_remove_41 (by decide) (by decide) (qs_goto (tgt := 19) kd_Rw_remove_44 (by decide) hk19))))))))))))))))
theorem ks_Rw_remove_19 (l : Launch) (D : va_G) (E : Nat → ClassId) (B : Nat) (sc : qa_Z) (Po : Option Value → qa_M → Prop) : kS_Rw_remove l D E B sc Po 19 (kc_Rw_remove_19 Po) := qs_loop fun k19 hk19 => kt_Rw_remove_19 l D E B sc Po hk19
theorem ks_Rw_remove_0 (l : Launch) (D : va_G) (E : Nat → ClassId) (B : Nat) (sc : qa_Z) (Po : Option Value → qa_M → Prop) : kS_Rw_remove l D E B sc Po 0 (kc_Rw_remove_0 Po) := (qs_aload_n kd_Rw_remove_0 rfl (fg_64 ww_20 kd_Rw_remove_1 (qs_iload_n kd_Rw_remove_4 rfl (qs_aald (κ := 1064) (t := 1) rfl (fun _ => rfl) (by decide) kd_Rw_remove_5 (qs_astore_n kd_Rw_remove_6 rfl (by decide) (qs_aload_n kd_Rw_remove_7 rfl (qs_dup kd_Rw_remove_8 (fg_65 ww_128 kd_Rw_remove_9 (qs_iconst kd_Rw_remove_12 (by decide) (qs_isub kd_Rw_remove_13 (fp_65 ww_128 kd_Rw_remove_14 (qs_iload_n kd_Rw_remove_17 rfl (qs_istore_n kd_Rw_remove_18 rfl (by decide) (ks_Rw_remove_19 l D E B sc Po))))))))))))))
def sp_Rw_remove : qa_sp := fun args M Po => match args with
  | [.ref a0, .int a1] => kc_Rw_remove_0 Po (0, 0) [some (.ref a0), some (.int a1), none, none] [] M
  | _ => False
theorem ct_Rw_remove (l : Launch) (sc : qa_Z) : qa_T l ym_Rw_remove (Cond.code ym_Rw_remove prog_5_method_5_code 4 (some (.object "SealedRecords$Packet")) :: q_W0) rm_Rw_remove sc (sp_Rw_remove) := by
  intro D E B args M Po h
  unfold sp_Rw_remove at h
  split at h
  · exact qa_ct (ini := false) (by decide) (by decide) (Nat.le_of_ble_eq_true rfl) (qa_lvok rfl) (ks_Rw_remove_0 l D E B sc Po) h
  · exact h.elim
theorem kd_En_isIgnored_0 : decode prog_2_method_11_code 0 = .ok (.aload_n 1, 1) := by decide +kernel
theorem kd_En_isIgnored_1 : decode prog_2_method_11_code 1 = .ok (.getfield 73, 3) := by decide +kernel
theorem kd_En_isIgnored_4 : decode prog_2_method_11_code 4 = .ok (.iconst 1, 1) := by decide +kernel
theorem kd_En_isIgnored_5 : decode prog_2_method_11_code 5 = .ok (.if_icmp .ne 28, 3) := by decide +kernel
theorem kd_En_isIgnored_8 : decode prog_2_method_11_code 8 = .ok (.aload_n 1, 1) := by decide +kernel
theorem kd_En_isIgnored_9 : decode prog_2_method_11_code 9 = .ok (.getfield 103, 3) := by decide +kernel
theorem kd_En_isIgnored_12 : decode prog_2_method_11_code 12 = .ok (.iconst 0, 1) := by decide +kernel
theorem kd_En_isIgnored_13 : decode prog_2_method_11_code 13 = .ok (.iaload, 1) := by decide +kernel
theorem kd_En_isIgnored_14 : decode prog_2_method_11_code 14 = .ok (.iconst 1, 1) := by decide +kernel
theorem kd_En_isIgnored_15 : decode prog_2_method_11_code 15 = .ok (.if_icmp .ne 18, 3) := by decide +kernel
theorem kd_En_isIgnored_18 : decode prog_2_method_11_code 18 = .ok (.aload_n 0, 1) := by decide +kernel
theorem kd_En_isIgnored_19 : decode prog_2_method_11_code 19 = .ok (.getfield 18, 3) := by decide +kernel
theorem kd_En_isIgnored_22 : decode prog_2_method_11_code 22 = .ok (.getfield 70, 3) := by decide +kernel
theorem kd_En_isIgnored_25 : decode prog_2_method_11_code 25 = .ok (.iconst 2, 1) := by decide +kernel
theorem kd_En_isIgnored_26 : decode prog_2_method_11_code 26 = .ok (.if_icmp .ge 7, 3) := by decide +kernel
theorem kd_En_isIgnored_29 : decode prog_2_method_11_code 29 = .ok (.iconst 1, 1) := by decide +kernel
theorem kd_En_isIgnored_30 : decode prog_2_method_11_code 30 = .ok (.goto 4, 3) := by decide +kernel
theorem kd_En_isIgnored_33 : decode prog_2_method_11_code 33 = .ok (.iconst 0, 1) := by decide +kernel
theorem kd_En_isIgnored_34 : decode prog_2_method_11_code 34 = .ok (.ireturn, 1) := by decide +kernel
def kc_En_isIgnored_34 (Po : Option Value → qa_M → Prop) : qa_K := (qi_zret (0, 0) Po)
def kc_En_isIgnored_33 (Po : Option Value → qa_M → Prop) : qa_K := (qi_ic (nI 0) (kc_En_isIgnored_34 Po))
def kc_En_isIgnored_0 (Po : Option Value → qa_M → Prop) : qa_K := (qi_aload 1 (qi_gi 2 34 (qi_ic (nI 1) (qi_icne (kc_En_isIgnored_33 Po) (qi_aload 1 (qi_gp 2 32 (qi_ic (nI 0) (qi_iald 1032 (qi_ic (nI 1) (qi_icne (kc_En_isIgnored_33 Po) (qi_aload 0 (qi_gp 6 162 (qi_gi 4 96 (qi_ic (nI 2) (qi_icge (kc_En_isIgnored_33 Po) (qi_ic (nI 1) (kc_En_isIgnored_34 Po)))))))))))))))))
abbrev kS_En_isIgnored (l : Launch) (D : va_G) (E : Nat → ClassId) (B : Nat) (sc : qa_Z) (Po : Option Value → qa_M → Prop) (pc : Nat) (k : qa_K) : Prop := qa_S l "SealedRecords$End" prog_2_method_11_code 2 (some .boolean) false D E B rm_En_isIgnored sc (qa_Qf D E B rm_En_isIgnored Po) pc k
theorem ks_En_isIgnored_34 (l : Launch) (D : va_G) (E : Nat → ClassId) (B : Nat) (sc : qa_Z) (Po : Option Value → qa_M → Prop) : kS_En_isIgnored l D E B sc Po 34 (kc_En_isIgnored_34 Po) := (qs_zret kd_En_isIgnored_34)
theorem ks_En_isIgnored_33 (l : Launch) (D : va_G) (E : Nat → ClassId) (B : Nat) (sc : qa_Z) (Po : Option Value → qa_M → Prop) : kS_En_isIgnored l D E B sc Po 33 (kc_En_isIgnored_33 Po) := (qs_iconst kd_En_isIgnored_33 (by decide) (ks_En_isIgnored_34 l D E B sc Po))
theorem ks_En_isIgnored_0 (l : Launch) (D : va_G) (E : Nat → ClassId) (B : Nat) (sc : qa_Z) (Po : Option Value → qa_M → Prop) : kS_En_isIgnored l D E B sc Po 0 (kc_En_isIgnored_0 Po) := (qs_aload_n kd_En_isIgnored_0 rfl (fg_34 ww_127 kd_En_isIgnored_1 (qs_iconst kd_En_isIgnored_4 (by decide) (qs_icne (tgt := 33) kd_En_isIgnored_5 (by decide) (ks_En_isIgnored_33 l D E B sc Po) (qs_aload_n kd_En_isIgnored_8 rfl (fg_32 ww_140 kd_En_isIgnored_9 (qs_iconst kd_En_isIgnored_12 (by decide) (qs_iald (κ := 1032) rfl (by decide) kd_En_isIgnored_13 (qs_iconst kd_En_isIgnored_14 (by decide) (qs_icne (tgt := 33) kd_En_isIgnored_15 (by decide) (ks_En_isIgnored_33 l D E B sc Po) (qs_aload_n kd_En_isIgnored_18 rfl (fg_162 ww_33 kd_En_isIgnored_19 (fg_96 ww_126 kd_En_isIgnored_22 (qs_iconst kd_En_isIgnored_25 (by decide) (qs_icge (tgt := 33) kd_En_isIgnored_26 (by decide) (ks_En_isIgnored_33 l D E B sc Po) (qs_iconst kd_En_isIgnored_29 (by decide) (qs_goto (tgt := 34) kd_En_isIgnored_30 (by decide) (ks_En_isIgnored_34 l D E B sc Po))))))))))))))))))
def sp_En_isIgnored : qa_sp := fun args M Po => match args with
  | [.ref a0, .ref a1] => kc_En_isIgnored_0 Po (0, 0) [some (.ref a0), some (.ref a1)] [] M
  | _ => False
theorem ct_En_isIgnored (l : Launch) (sc : qa_Z) : qa_T l ym_En_isIgnored (Cond.code ym_En_isIgnored prog_2_method_11_code 2 (some .boolean) :: q_W0) rm_En_isIgnored sc (sp_En_isIgnored) := by
  intro D E B args M Po h
  unfold sp_En_isIgnored at h
  split at h
  · exact qa_ct (ini := false) (by decide) (by decide) (Nat.le_of_ble_eq_true rfl) (qa_lvok rfl) (ks_En_isIgnored_0 l D E B sc Po) h
  · exact h.elim
theorem kd_En_openPlain_0 : decode prog_2_method_12_code 0 = .ok (.aload_n 1, 1) := by decide +kernel
theorem kd_En_openPlain_1 : decode prog_2_method_12_code 1 = .ok (.getfield 73, 3) := by decide +kernel
theorem kd_En_openPlain_4 : decode prog_2_method_12_code 4 = .ok (.bipush 16, 2) := by decide +kernel
theorem kd_En_openPlain_6 : decode prog_2_method_12_code 6 = .ok (.if_icmp .le 6, 3) := by decide +kernel
theorem kd_En_openPlain_9 : decode prog_2_method_12_code 9 = .ok (.bipush 22, 2) := by decide +kernel
theorem kd_En_openPlain_11 : decode prog_2_method_12_code 11 = .ok (.ireturn, 1) := by decide +kernel
theorem kd_En_openPlain_12 : decode prog_2_method_12_code 12 = .ok (.aload_n 0, 1) := by decide +kernel
theorem kd_En_openPlain_13 : decode prog_2_method_12_code 13 = .ok (.getfield 52, 3) := by decide +kernel
theorem kd_En_openPlain_16 : decode prog_2_method_12_code 16 = .ok (.aload_n 1, 1) := by decide +kernel
theorem kd_En_openPlain_17 : decode prog_2_method_12_code 17 = .ok (.invokevirtual 76, 3) := by decide +kernel
theorem kd_En_openPlain_20 : decode prog_2_method_12_code 20 = .ok (.iconst 0, 1) := by decide +kernel
theorem kd_En_openPlain_21 : decode prog_2_method_12_code 21 = .ok (.ireturn, 1) := by decide +kernel
def kc_En_openPlain_0 (Po : Option Value → qa_M → Prop) : qa_K := (qi_aload 1 (qi_gi 2 34 (qi_ic (nI 16) (qi_icle (qi_aload 0 (qi_gp 6 168 (qi_aload 1 (qi_callv 2 2 (0, 0) sp_Pk_becomeLike (qi_ic (nI 0) (qi_iret (0, 0) Po)))))) (qi_ic (nI 22) (qi_iret (0, 0) Po))))))
abbrev kS_En_openPlain (l : Launch) (D : va_G) (E : Nat → ClassId) (B : Nat) (sc : qa_Z) (Po : Option Value → qa_M → Prop) (pc : Nat) (k : qa_K) : Prop := qa_S l "SealedRecords$End" prog_2_method_12_code 2 (some .int) false D E B rm_En_openPlain sc (qa_Qf D E B rm_En_openPlain Po) pc k
theorem ks_En_openPlain_0 (l : Launch) (D : va_G) (E : Nat → ClassId) (B : Nat) (sc : qa_Z) (Po : Option Value → qa_M → Prop) : kS_En_openPlain l D E B sc Po 0 (kc_En_openPlain_0 Po) := (qs_aload_n kd_En_openPlain_0 rfl (fg_34 ww_127 kd_En_openPlain_1 (qs_bipush kd_En_openPlain_4 (by decide) (qs_icle (tgt := 12) kd_En_openPlain_6 (by decide) (qs_aload_n kd_En_openPlain_12 rfl (fg_168 ww_49 kd_En_openPlain_13 (qs_aload_n kd_En_openPlain_16 rfl (qs_callv (ci := 1) (ct_Pk_becomeLike l sc) ww_158 (by decide) rfl (by decide) ww_159 ww_160 ww_161 ww_3 yd_Pk_becomeLike kd_En_openPlain_17 (qs_iconst kd_En_openPlain_20 (by decide) (qs_iret kd_En_openPlain_21)))))) (qs_bipush kd_En_openPlain_9 (by decide) (qs_iret kd_En_openPlain_11))))))
def sp_En_openPlain : qa_sp := fun args M Po => match args with
  | [.ref a0, .ref a1] => kc_En_openPlain_0 Po (0, 0) [some (.ref a0), some (.ref a1)] [] M
  | _ => False
theorem ct_En_openPlain (l : Launch) (sc : qa_Z) : qa_T l ym_En_openPlain (Cond.code ym_En_openPlain prog_2_method_12_code 2 (some .int) :: q_W0) rm_En_openPlain sc (sp_En_openPlain) := by
  intro D E B args M Po h
  unfold sp_En_openPlain at h
  split at h
  · exact qa_ct (ini := false) (by decide) (by decide) (Nat.le_of_ble_eq_true rfl) (qa_lvok rfl) (ks_En_openPlain_0 l D E B sc Po) h
  · exact h.elim
theorem kd_Sd_endsWithTag_0 : decode prog_6_method_8_code 0 = .ok (.aload_n 1, 1) := by decide +kernel
theorem kd_Sd_endsWithTag_1 : decode prog_6_method_8_code 1 = .ok (.getfield 31, 3) := by decide +kernel
theorem kd_Sd_endsWithTag_4 : decode prog_6_method_8_code 4 = .ok (.bipush 8, 2) := by decide +kernel
theorem kd_Sd_endsWithTag_6 : decode prog_6_method_8_code 6 = .ok (.isub, 1) := by decide +kernel
theorem kd_Sd_endsWithTag_7 : decode prog_6_method_8_code 7 = .ok (.istore_n 2, 1) := by decide +kernel
theorem kd_Sd_endsWithTag_8 : decode prog_6_method_8_code 8 = .ok (.iload_n 2, 1) := by decide +kernel
theorem kd_Sd_endsWithTag_9 : decode prog_6_method_8_code 9 = .ok (.ifCond .ge 5, 3) := by decide +kernel
theorem kd_Sd_endsWithTag_12 : decode prog_6_method_8_code 12 = .ok (.iconst 0, 1) := by decide +kernel
theorem kd_Sd_endsWithTag_13 : decode prog_6_method_8_code 13 = .ok (.ireturn, 1) := by decide +kernel
theorem kd_Sd_endsWithTag_14 : decode prog_6_method_8_code 14 = .ok (.aload_n 0, 1) := by decide +kernel
theorem kd_Sd_endsWithTag_15 : decode prog_6_method_8_code 15 = .ok (.aload_n 1, 1) := by decide +kernel
theorem kd_Sd_endsWithTag_16 : decode prog_6_method_8_code 16 = .ok (.getfield 36, 3) := by decide +kernel
theorem kd_Sd_endsWithTag_19 : decode prog_6_method_8_code 19 = .ok (.iload_n 2, 1) := by decide +kernel
theorem kd_Sd_endsWithTag_20 : decode prog_6_method_8_code 20 = .ok (.invokevirtual 40, 3) := by decide +kernel
theorem kd_Sd_endsWithTag_23 : decode prog_6_method_8_code 23 = .ok (.lstore_n 3, 1) := by decide +kernel
theorem kd_Sd_endsWithTag_24 : decode prog_6_method_8_code 24 = .ok (.iconst 0, 1) := by decide +kernel
theorem kd_Sd_endsWithTag_25 : decode prog_6_method_8_code 25 = .ok (.istore 5, 2) := by decide +kernel
theorem kd_Sd_endsWithTag_27 : decode prog_6_method_8_code 27 = .ok (.iload 5, 2) := by decide +kernel
theorem kd_Sd_endsWithTag_29 : decode prog_6_method_8_code 29 = .ok (.bipush 8, 2) := by decide +kernel
theorem kd_Sd_endsWithTag_31 : decode prog_6_method_8_code 31 = .ok (.if_icmp .ge 29, 3) := by decide +kernel
theorem kd_Sd_endsWithTag_34 : decode prog_6_method_8_code 34 = .ok (.aload_n 1, 1) := by decide +kernel
theorem kd_Sd_endsWithTag_35 : decode prog_6_method_8_code 35 = .ok (.getfield 36, 3) := by decide +kernel
theorem kd_Sd_endsWithTag_38 : decode prog_6_method_8_code 38 = .ok (.iload_n 2, 1) := by decide +kernel
theorem kd_Sd_endsWithTag_39 : decode prog_6_method_8_code 39 = .ok (.iload 5, 2) := by decide +kernel
theorem kd_Sd_endsWithTag_41 : decode prog_6_method_8_code 41 = .ok (.iadd, 1) := by decide +kernel
theorem kd_Sd_endsWithTag_42 : decode prog_6_method_8_code 42 = .ok (.iaload, 1) := by decide +kernel
theorem kd_Sd_endsWithTag_43 : decode prog_6_method_8_code 43 = .ok (.lload_n 3, 1) := by decide +kernel
theorem kd_Sd_endsWithTag_44 : decode prog_6_method_8_code 44 = .ok (.iload 5, 2) := by decide +kernel
theorem kd_Sd_endsWithTag_46 : decode prog_6_method_8_code 46 = .ok (.invokestatic 44, 3) := by decide +kernel
theorem kd_Sd_endsWithTag_49 : decode prog_6_method_8_code 49 = .ok (.if_icmp .eq 5, 3) := by decide +kernel
theorem kd_Sd_endsWithTag_52 : decode prog_6_method_8_code 52 = .ok (.iconst 0, 1) := by decide +kernel
theorem kd_Sd_endsWithTag_53 : decode prog_6_method_8_code 53 = .ok (.ireturn, 1) := by decide +kernel
theorem kd_Sd_endsWithTag_54 : decode prog_6_method_8_code 54 = .ok (.iinc 5 1, 3) := by decide +kernel
theorem kd_Sd_endsWithTag_57 : decode prog_6_method_8_code 57 = .ok (.goto (-30), 3) := by decide +kernel
theorem kd_Sd_endsWithTag_60 : decode prog_6_method_8_code 60 = .ok (.iconst 1, 1) := by decide +kernel
theorem kd_Sd_endsWithTag_61 : decode prog_6_method_8_code 61 = .ok (.ireturn, 1) := by decide +kernel
def kb_Sd_endsWithTag_27 (Po : Option Value → qa_M → Prop) (k27 : qa_K) : qa_K := (qi_iload 5 (qi_ic (nI 8) (qi_icge (qi_ic (nI 1) (qi_zret (0, 0) Po)) (qi_aload 1 (qi_gp 2 32 (qi_iload 2 (qi_iload 5 (qi_iadd (qi_iald 1032 (qi_lload 3 (qi_iload 5 (qi_call 2 (0, 0) sp_Sd_tagByte (qi_iceq (qi_iinc 5 (nI 1) k27) (qi_ic (nI 0) (qi_zret (0, 0) Po)))))))))))))))
def kc_Sd_endsWithTag_27 (Po : Option Value → qa_M → Prop) : qa_K := qi_loop (kb_Sd_endsWithTag_27 Po)
def kc_Sd_endsWithTag_0 (Po : Option Value → qa_M → Prop) : qa_K := (qi_aload 1 (qi_gi 2 34 (qi_ic (nI 8) (qi_isub (qi_istore 2 (qi_iload 2 (qi_ifge (qi_aload 0 (qi_aload 1 (qi_gp 2 32 (qi_iload 2 (qi_callv 3 4 (0, 0) sp_Sd_tagOf (qi_lstore 3 (qi_ic (nI 0) (qi_istore 5 (kc_Sd_endsWithTag_27 Po))))))))) (qi_ic (nI 0) (qi_zret (0, 0) Po)))))))))
abbrev kS_Sd_endsWithTag (l : Launch) (D : va_G) (E : Nat → ClassId) (B : Nat) (sc : qa_Z) (Po : Option Value → qa_M → Prop) (pc : Nat) (k : qa_K) : Prop := qa_S l "SealedRecords$Side" prog_6_method_8_code 6 (some .boolean) false D E B rm_Sd_endsWithTag sc (qa_Qf D E B rm_Sd_endsWithTag Po) pc k
theorem kt_Sd_endsWithTag_27 (l : Launch) (D : va_G) (E : Nat → ClassId) (B : Nat) (sc : qa_Z) (Po : Option Value → qa_M → Prop) {k27 : qa_K} (hk27 : kS_Sd_endsWithTag l D E B sc Po 27 k27) : kS_Sd_endsWithTag l D E B sc Po 27 (kb_Sd_endsWithTag_27 Po k27) := (qs_iload kd_Sd_endsWithTag_27 (qs_bipush kd_Sd_endsWithTag_29 (by decide) (qs_icge (tgt := 60) kd_Sd_endsWithTag_31 (by decide) (qs_iconst kd_Sd_endsWithTag_60 (by decide) (qs_zret kd_Sd_endsWithTag_61)) (qs_aload_n kd_Sd_endsWithTag_34 rfl (fg_32 ww_182 kd_Sd_endsWithTag_35 (qs_iload_n kd_Sd_endsWithTag_38 rfl (qs_iload kd_Sd_endsWithTag_39 (qs_iadd kd_Sd_endsWithTag_41 (qs_iald (κ := 1032) rfl (by decide) kd_Sd_endsWithTag_42 (qs_lload_n kd_Sd_endsWithTag_43 rfl (qs_iload kd_Sd_endsWithTag_44 (qs_calls (ct_Sd_tagByte l sc) ww_136 (by decide) (by decide) ww_183 ww_138 ww_7 yd_Sd_tagByte kd_Sd_endsWithTag_46 (qs_iceq (tgt := 54) kd_Sd_endsWithTag_49 (by decide) (qs_iinc kd_Sd_endsWithTag_54 (by decide) (by decide) (qs_goto (tgt := 27) kd_Sd_endsWithTag_57 (by decide) hk27)) (qs_iconst kd_Sd_endsWithTag_52 (by decide) (qs_zret kd_Sd_endsWithTag_53)))))))))))))))
theorem ks_Sd_endsWithTag_27 (l : Launch) (D : va_G) (E : Nat → ClassId) (B : Nat) (sc : qa_Z) (Po : Option Value → qa_M → Prop) : kS_Sd_endsWithTag l D E B sc Po 27 (kc_Sd_endsWithTag_27 Po) := qs_loop fun k27 hk27 => kt_Sd_endsWithTag_27 l D E B sc Po hk27
theorem ks_Sd_endsWithTag_0 (l : Launch) (D : va_G) (E : Nat → ClassId) (B : Nat) (sc : qa_Z) (Po : Option Value → qa_M → Prop) : kS_Sd_endsWithTag l D E B sc Po 0 (kc_Sd_endsWithTag_0 Po) := (qs_aload_n kd_Sd_endsWithTag_0 rfl (fg_34 ww_184 kd_Sd_endsWithTag_1 (qs_bipush kd_Sd_endsWithTag_4 (by decide) (qs_isub kd_Sd_endsWithTag_6 (qs_istore_n kd_Sd_endsWithTag_7 rfl (by decide) (qs_iload_n kd_Sd_endsWithTag_8 rfl (qs_ifge (tgt := 14) kd_Sd_endsWithTag_9 (by decide) (qs_aload_n kd_Sd_endsWithTag_14 rfl (qs_aload_n kd_Sd_endsWithTag_15 rfl (fg_32 ww_182 kd_Sd_endsWithTag_16 (qs_iload_n kd_Sd_endsWithTag_19 rfl (qs_callv (ci := 3) (ct_Sd_tagOf l sc) ww_141 (by decide) rfl (by decide) ww_185 ww_143 ww_144 ww_7 yd_Sd_tagOf kd_Sd_endsWithTag_20 (qs_lstore_n kd_Sd_endsWithTag_23 rfl (by decide) (qs_iconst kd_Sd_endsWithTag_24 (by decide) (qs_istore kd_Sd_endsWithTag_25 (by decide) (ks_Sd_endsWithTag_27 l D E B sc Po))))))))) (qs_iconst kd_Sd_endsWithTag_12 (by decide) (qs_zret kd_Sd_endsWithTag_13)))))))))
def sp_Sd_endsWithTag : qa_sp := fun args M Po => match args with
  | [.ref a0, .ref a1] => kc_Sd_endsWithTag_0 Po (0, 0) [some (.ref a0), some (.ref a1), none, none, none, none] [] M
  | _ => False
theorem ct_Sd_endsWithTag (l : Launch) (sc : qa_Z) : qa_T l ym_Sd_endsWithTag (Cond.code ym_Sd_endsWithTag prog_6_method_8_code 6 (some .boolean) :: q_W0) rm_Sd_endsWithTag sc (sp_Sd_endsWithTag) := by
  intro D E B args M Po h
  unfold sp_Sd_endsWithTag at h
  split at h
  · exact qa_ct (ini := false) (by decide) (by decide) (Nat.le_of_ble_eq_true rfl) (qa_lvok rfl) (ks_Sd_endsWithTag_0 l D E B sc Po) h
  · exact h.elim
theorem kd_En_openSealed_0 : decode prog_2_method_13_code 0 = .ok (.aload_n 0, 1) := by decide +kernel
theorem kd_En_openSealed_1 : decode prog_2_method_13_code 1 = .ok (.getfield 18, 3) := by decide +kernel
theorem kd_En_openSealed_4 : decode prog_2_method_13_code 4 = .ok (.invokevirtual 99, 3) := by decide +kernel
theorem kd_En_openSealed_7 : decode prog_2_method_13_code 7 = .ok (.lstore_n 2, 1) := by decide +kernel
theorem kd_En_openSealed_8 : decode prog_2_method_13_code 8 = .ok (.aload_n 0, 1) := by decide +kernel
theorem kd_En_openSealed_9 : decode prog_2_method_13_code 9 = .ok (.getfield 18, 3) := by decide +kernel
theorem kd_En_openSealed_12 : decode prog_2_method_13_code 12 = .ok (.dup, 1) := by decide +kernel
theorem kd_En_openSealed_13 : decode prog_2_method_13_code 13 = .ok (.getfield 92, 3) := by decide +kernel
theorem kd_En_openSealed_16 : decode prog_2_method_13_code 16 = .ok (.iconst 1, 1) := by decide +kernel
theorem kd_En_openSealed_17 : decode prog_2_method_13_code 17 = .ok (.iadd, 1) := by decide +kernel
theorem kd_En_openSealed_18 : decode prog_2_method_13_code 18 = .ok (.putfield 92, 3) := by decide +kernel
theorem kd_En_openSealed_21 : decode prog_2_method_13_code 21 = .ok (.aload_n 1, 1) := by decide +kernel
theorem kd_En_openSealed_22 : decode prog_2_method_13_code 22 = .ok (.getfield 73, 3) := by decide +kernel
theorem kd_En_openSealed_25 : decode prog_2_method_13_code 25 = .ok (.bipush 8, 2) := by decide +kernel
theorem kd_En_openSealed_27 : decode prog_2_method_13_code 27 = .ok (.isub, 1) := by decide +kernel
theorem kd_En_openSealed_28 : decode prog_2_method_13_code 28 = .ok (.istore 4, 2) := by decide +kernel
theorem kd_En_openSealed_30 : decode prog_2_method_13_code 30 = .ok (.iconst (-1), 1) := by decide +kernel
theorem kd_En_openSealed_31 : decode prog_2_method_13_code 31 = .ok (.istore 5, 2) := by decide +kernel
theorem kd_En_openSealed_33 : decode prog_2_method_13_code 33 = .ok (.aload_n 0, 1) := by decide +kernel
theorem kd_En_openSealed_34 : decode prog_2_method_13_code 34 = .ok (.getfield 52, 3) := by decide +kernel
theorem kd_En_openSealed_37 : decode prog_2_method_13_code 37 = .ok (.iconst 0, 1) := by decide +kernel
theorem kd_En_openSealed_38 : decode prog_2_method_13_code 38 = .ok (.invokevirtual 89, 3) := by decide +kernel
theorem kd_En_openSealed_41 : decode prog_2_method_13_code 41 = .ok (.iconst 0, 1) := by decide +kernel
theorem kd_En_openSealed_42 : decode prog_2_method_13_code 42 = .ok (.istore 6, 2) := by decide +kernel
theorem kd_En_openSealed_44 : decode prog_2_method_13_code 44 = .ok (.iload 6, 2) := by decide +kernel
theorem kd_En_openSealed_46 : decode prog_2_method_13_code 46 = .ok (.iload 4, 2) := by decide +kernel
theorem kd_En_openSealed_48 : decode prog_2_method_13_code 48 = .ok (.if_icmp .ge 43, 3) := by decide +kernel
theorem kd_En_openSealed_51 : decode prog_2_method_13_code 51 = .ok (.aload_n 1, 1) := by decide +kernel
theorem kd_En_openSealed_52 : decode prog_2_method_13_code 52 = .ok (.getfield 103, 3) := by decide +kernel
theorem kd_En_openSealed_55 : decode prog_2_method_13_code 55 = .ok (.iload 6, 2) := by decide +kernel
theorem kd_En_openSealed_57 : decode prog_2_method_13_code 57 = .ok (.iaload, 1) := by decide +kernel
theorem kd_En_openSealed_58 : decode prog_2_method_13_code 58 = .ok (.lload_n 2, 1) := by decide +kernel
theorem kd_En_openSealed_59 : decode prog_2_method_13_code 59 = .ok (.iload 6, 2) := by decide +kernel
theorem kd_En_openSealed_61 : decode prog_2_method_13_code 61 = .ok (.invokestatic 107, 3) := by decide +kernel
theorem kd_En_openSealed_64 : decode prog_2_method_13_code 64 = .ok (.ixor, 1) := by decide +kernel
theorem kd_En_openSealed_65 : decode prog_2_method_13_code 65 = .ok (.istore 7, 2) := by decide +kernel
theorem kd_En_openSealed_67 : decode prog_2_method_13_code 67 = .ok (.aload_n 0, 1) := by decide +kernel
theorem kd_En_openSealed_68 : decode prog_2_method_13_code 68 = .ok (.getfield 52, 3) := by decide +kernel
theorem kd_En_openSealed_71 : decode prog_2_method_13_code 71 = .ok (.iload 7, 2) := by decide +kernel
theorem kd_En_openSealed_73 : decode prog_2_method_13_code 73 = .ok (.invokevirtual 83, 3) := by decide +kernel
theorem kd_En_openSealed_76 : decode prog_2_method_13_code 76 = .ok (.iload 7, 2) := by decide +kernel
theorem kd_En_openSealed_78 : decode prog_2_method_13_code 78 = .ok (.ifCond .eq 7, 3) := by decide +kernel
theorem kd_En_openSealed_81 : decode prog_2_method_13_code 81 = .ok (.iload 6, 2) := by decide +kernel
theorem kd_En_openSealed_83 : decode prog_2_method_13_code 83 = .ok (.istore 5, 2) := by decide +kernel
theorem kd_En_openSealed_85 : decode prog_2_method_13_code 85 = .ok (.iinc 6 1, 3) := by decide +kernel
theorem kd_En_openSealed_88 : decode prog_2_method_13_code 88 = .ok (.goto (-44), 3) := by decide +kernel
theorem kd_En_openSealed_91 : decode prog_2_method_13_code 91 = .ok (.iload 5, 2) := by decide +kernel
theorem kd_En_openSealed_93 : decode prog_2_method_13_code 93 = .ok (.iconst (-1), 1) := by decide +kernel
theorem kd_En_openSealed_94 : decode prog_2_method_13_code 94 = .ok (.if_icmp .ne 6, 3) := by decide +kernel
theorem kd_En_openSealed_97 : decode prog_2_method_13_code 97 = .ok (.bipush 10, 2) := by decide +kernel
theorem kd_En_openSealed_99 : decode prog_2_method_13_code 99 = .ok (.ireturn, 1) := by decide +kernel
theorem kd_En_openSealed_100 : decode prog_2_method_13_code 100 = .ok (.aload_n 0, 1) := by decide +kernel
theorem kd_En_openSealed_101 : decode prog_2_method_13_code 101 = .ok (.getfield 52, 3) := by decide +kernel
theorem kd_En_openSealed_104 : decode prog_2_method_13_code 104 = .ok (.aload_n 0, 1) := by decide +kernel
theorem kd_En_openSealed_105 : decode prog_2_method_13_code 105 = .ok (.getfield 52, 3) := by decide +kernel
theorem kd_En_openSealed_108 : decode prog_2_method_13_code 108 = .ok (.getfield 103, 3) := by decide +kernel
theorem kd_En_openSealed_111 : decode prog_2_method_13_code 111 = .ok (.iload 5, 2) := by decide +kernel
theorem kd_En_openSealed_113 : decode prog_2_method_13_code 113 = .ok (.iaload, 1) := by decide +kernel
theorem kd_En_openSealed_114 : decode prog_2_method_13_code 114 = .ok (.putfield 80, 3) := by decide +kernel
theorem kd_En_openSealed_117 : decode prog_2_method_13_code 117 = .ok (.aload_n 0, 1) := by decide +kernel
theorem kd_En_openSealed_118 : decode prog_2_method_13_code 118 = .ok (.getfield 52, 3) := by decide +kernel
theorem kd_En_openSealed_121 : decode prog_2_method_13_code 121 = .ok (.iload 5, 2) := by decide +kernel
theorem kd_En_openSealed_123 : decode prog_2_method_13_code 123 = .ok (.putfield 73, 3) := by decide +kernel
theorem kd_En_openSealed_126 : decode prog_2_method_13_code 126 = .ok (.iconst 0, 1) := by decide +kernel
theorem kd_En_openSealed_127 : decode prog_2_method_13_code 127 = .ok (.ireturn, 1) := by decide +kernel
def kc_En_openSealed_85 (Po : Option Value → qa_M → Prop) (k44 : qa_K) : qa_K := (qi_iinc 6 (nI 1) k44)
def kb_En_openSealed_44 (Po : Option Value → qa_M → Prop) (k44 : qa_K) : qa_K := (qi_iload 6 (qi_iload 4 (qi_icge (qi_iload 5 (qi_ic (-1) (qi_icne (qi_aload 0 (qi_gp 6 168 (qi_aload 0 (qi_gp 6 168 (qi_gp 2 32 (qi_iload 5 (qi_iald 1032 (qi_pi 2 33 (qi_aload 0 (qi_gp 6 168 (qi_iload 5 (qi_pi 2 34 (qi_ic (nI 0) (qi_iret (0, 0) Po)))))))))))))) (qi_ic (nI 10) (qi_iret (0, 0) Po))))) (qi_aload 1 (qi_gp 2 32 (qi_iload 6 (qi_iald 1032 (qi_lload 2 (qi_iload 6 (qi_call 2 (0, 0) sp_Sd_maskByte (qi_ixor (qi_istore 7 (qi_aload 0 (qi_gp 6 168 (qi_iload 7 (qi_callv 2 2 (0, 0) sp_Pk_append (qi_iload 7 (qi_ifeq (kc_En_openSealed_85 Po k44) (qi_iload 6 (qi_istore 5 (kc_En_openSealed_85 Po k44)))))))))))))))))))))
def kc_En_openSealed_44 (Po : Option Value → qa_M → Prop) : qa_K := qi_loop (kb_En_openSealed_44 Po)
def kc_En_openSealed_0 (Po : Option Value → qa_M → Prop) : qa_K := (qi_aload 0 (qi_gp 6 162 (qi_callv 1 4 (0, 0) sp_Sd_maskSeed (qi_lstore 2 (qi_aload 0 (qi_gp 6 162 (qi_dup (qi_gi 4 98 (qi_ic (nI 1) (qi_iadd (qi_pi 4 98 (qi_aload 1 (qi_gi 2 34 (qi_ic (nI 8) (qi_isub (qi_istore 4 (qi_ic (-1) (qi_istore 5 (qi_aload 0 (qi_gp 6 168 (qi_ic (nI 0) (qi_callv 2 2 (0, 0) sp_Pk_restart (qi_ic (nI 0) (qi_istore 6 (kc_En_openSealed_44 Po)))))))))))))))))))))))))
abbrev kS_En_openSealed (l : Launch) (D : va_G) (E : Nat → ClassId) (B : Nat) (sc : qa_Z) (Po : Option Value → qa_M → Prop) (pc : Nat) (k : qa_K) : Prop := qa_S l "SealedRecords$End" prog_2_method_13_code 8 (some .int) false D E B rm_En_openSealed sc (qa_Qf D E B rm_En_openSealed Po) pc k
theorem ks_En_openSealed_85 (l : Launch) (D : va_G) (E : Nat → ClassId) (B : Nat) (sc : qa_Z) (Po : Option Value → qa_M → Prop) {k44 : qa_K} (hk44 : kS_En_openSealed l D E B sc Po 44 k44) : kS_En_openSealed l D E B sc Po 85 (kc_En_openSealed_85 Po k44) := (qs_iinc kd_En_openSealed_85 (by decide) (by decide) (qs_goto (tgt := 44) kd_En_openSealed_88 (by decide) hk44))
theorem kt_En_openSealed_44 (l : Launch) (D : va_G) (E : Nat → ClassId) (B : Nat) (sc : qa_Z) (Po : Option Value → qa_M → Prop) {k44 : qa_K} (hk44 : kS_En_openSealed l D E B sc Po 44 k44) : kS_En_openSealed l D E B sc Po 44 (kb_En_openSealed_44 Po k44) := (qs_iload kd_En_openSealed_44 (qs_iload kd_En_openSealed_46 (qs_icge (tgt := 91) kd_En_openSealed_48 (by decide) (qs_iload kd_En_openSealed_91 (qs_iconst kd_En_openSealed_93 (by decide) (qs_icne (tgt := 100) kd_En_openSealed_94 (by decide) (qs_aload_n kd_En_openSealed_100 rfl (fg_168 ww_49 kd_En_openSealed_101 (qs_aload_n kd_En_openSealed_104 rfl (fg_168 ww_49 kd_En_openSealed_105 (fg_32 ww_140 kd_En_openSealed_108 (qs_iload kd_En_openSealed_111 (qs_iald (κ := 1032) rfl (by decide) kd_En_openSealed_113 (fp_33 ww_162 kd_En_openSealed_114 (qs_aload_n kd_En_openSealed_117 rfl (fg_168 ww_49 kd_En_openSealed_118 (qs_iload kd_En_openSealed_121 (fp_34 ww_127 kd_En_openSealed_123 (qs_iconst kd_En_openSealed_126 (by decide) (qs_iret kd_En_openSealed_127)))))))))))))) (qs_bipush kd_En_openSealed_97 (by decide) (qs_iret kd_En_openSealed_99))))) (qs_aload_n kd_En_openSealed_51 rfl (fg_32 ww_140 kd_En_openSealed_52 (qs_iload kd_En_openSealed_55 (qs_iald (κ := 1032) rfl (by decide) kd_En_openSealed_57 (qs_lload_n kd_En_openSealed_58 rfl (qs_iload kd_En_openSealed_59 (qs_calls (ct_Sd_maskByte l sc) ww_145 (by decide) (by decide) ww_146 ww_147 ww_7 yd_Sd_maskByte kd_En_openSealed_61 (qs_ixor kd_En_openSealed_64 (qs_istore kd_En_openSealed_65 (by decide) (qs_aload_n kd_En_openSealed_67 rfl (fg_168 ww_49 kd_En_openSealed_68 (qs_iload kd_En_openSealed_71 (qs_callv (ci := 1) (ct_Pk_append l sc) ww_122 (by decide) rfl (by decide) ww_139 ww_124 ww_125 ww_3 yd_Pk_append kd_En_openSealed_73 (qs_iload kd_En_openSealed_76 (qs_ifeq (tgt := 85) kd_En_openSealed_78 (by decide) (ks_En_openSealed_85 l D E B sc Po hk44) (qs_iload kd_En_openSealed_81 (qs_istore kd_En_openSealed_83 (by decide) (ks_En_openSealed_85 l D E B sc Po hk44)))))))))))))))))))))
theorem ks_En_openSealed_44 (l : Launch) (D : va_G) (E : Nat → ClassId) (B : Nat) (sc : qa_Z) (Po : Option Value → qa_M → Prop) : kS_En_openSealed l D E B sc Po 44 (kc_En_openSealed_44 Po) := qs_loop fun k44 hk44 => kt_En_openSealed_44 l D E B sc Po hk44
theorem ks_En_openSealed_0 (l : Launch) (D : va_G) (E : Nat → ClassId) (B : Nat) (sc : qa_Z) (Po : Option Value → qa_M → Prop) : kS_En_openSealed l D E B sc Po 0 (kc_En_openSealed_0 Po) := (qs_aload_n kd_En_openSealed_0 rfl (fg_162 ww_33 kd_En_openSealed_1 (qs_callv (ci := 3) (ct_Sd_maskSeed l sc) ww_148 (by decide) rfl (by decide) ww_149 ww_150 ww_151 ww_7 yd_Sd_maskSeed kd_En_openSealed_4 (qs_lstore_n kd_En_openSealed_7 rfl (by decide) (qs_aload_n kd_En_openSealed_8 rfl (fg_162 ww_33 kd_En_openSealed_9 (qs_dup kd_En_openSealed_12 (fg_98 ww_153 kd_En_openSealed_13 (qs_iconst kd_En_openSealed_16 (by decide) (qs_iadd kd_En_openSealed_17 (fp_98 ww_153 kd_En_openSealed_18 (qs_aload_n kd_En_openSealed_21 rfl (fg_34 ww_127 kd_En_openSealed_22 (qs_bipush kd_En_openSealed_25 (by decide) (qs_isub kd_En_openSealed_27 (qs_istore kd_En_openSealed_28 (by decide) (qs_iconst kd_En_openSealed_30 (by decide) (qs_istore kd_En_openSealed_31 (by decide) (qs_aload_n kd_En_openSealed_33 rfl (fg_168 ww_49 kd_En_openSealed_34 (qs_iconst kd_En_openSealed_37 (by decide) (qs_callv (ci := 1) (ct_Pk_restart l sc) ww_131 (by decide) rfl (by decide) ww_152 ww_133 ww_134 ww_3 yd_Pk_restart kd_En_openSealed_38 (qs_iconst kd_En_openSealed_41 (by decide) (qs_istore kd_En_openSealed_42 (by decide) (ks_En_openSealed_44 l D E B sc Po)))))))))))))))))))))))))
def sp_En_openSealed : qa_sp := fun args M Po => match args with
  | [.ref a0, .ref a1] => kc_En_openSealed_0 Po (0, 0) [some (.ref a0), some (.ref a1), none, none, none, none, none, none] [] M
  | _ => False
theorem ct_En_openSealed (l : Launch) (sc : qa_Z) : qa_T l ym_En_openSealed (Cond.code ym_En_openSealed prog_2_method_13_code 8 (some .int) :: q_W0) rm_En_openSealed sc (sp_En_openSealed) := by
  intro D E B args M Po h
  unfold sp_En_openSealed at h
  split at h
  · exact qa_ct (ini := false) (by decide) (by decide) (Nat.le_of_ble_eq_true rfl) (qa_lvok rfl) (ks_En_openSealed_0 l D E B sc Po) h
  · exact h.elim
theorem kd_En_open_0 : decode prog_2_method_10_code 0 = .ok (.aload_n 1, 1) := by decide +kernel
theorem kd_En_open_1 : decode prog_2_method_10_code 1 = .ok (.getfield 80, 3) := by decide +kernel
theorem kd_En_open_4 : decode prog_2_method_10_code 4 = .ok (.bipush 20, 2) := by decide +kernel
theorem kd_En_open_6 : decode prog_2_method_10_code 6 = .ok (.if_icmp .ne 19, 3) := by decide +kernel
theorem kd_En_open_9 : decode prog_2_method_10_code 9 = .ok (.aload_n 0, 1) := by decide +kernel
theorem kd_En_open_10 : decode prog_2_method_10_code 10 = .ok (.aload_n 1, 1) := by decide +kernel
theorem kd_En_open_11 : decode prog_2_method_10_code 11 = .ok (.invokevirtual 136, 3) := by decide +kernel
theorem kd_En_open_14 : decode prog_2_method_10_code 14 = .ok (.ifCond .eq 8, 3) := by decide +kernel
theorem kd_En_open_17 : decode prog_2_method_10_code 17 = .ok (.bipush 100, 2) := by decide +kernel
theorem kd_En_open_19 : decode prog_2_method_10_code 19 = .ok (.goto 5, 3) := by decide +kernel
theorem kd_En_open_22 : decode prog_2_method_10_code 22 = .ok (.bipush 10, 2) := by decide +kernel
theorem kd_En_open_24 : decode prog_2_method_10_code 24 = .ok (.ireturn, 1) := by decide +kernel
theorem kd_En_open_25 : decode prog_2_method_10_code 25 = .ok (.aload_n 0, 1) := by decide +kernel
theorem kd_En_open_26 : decode prog_2_method_10_code 26 = .ok (.getfield 18, 3) := by decide +kernel
theorem kd_En_open_29 : decode prog_2_method_10_code 29 = .ok (.getfield 70, 3) := by decide +kernel
theorem kd_En_open_32 : decode prog_2_method_10_code 32 = .ok (.ifCond .ne 9, 3) := by decide +kernel
theorem kd_En_open_35 : decode prog_2_method_10_code 35 = .ok (.aload_n 0, 1) := by decide +kernel
theorem kd_En_open_36 : decode prog_2_method_10_code 36 = .ok (.aload_n 1, 1) := by decide +kernel
theorem kd_En_open_37 : decode prog_2_method_10_code 37 = .ok (.invokevirtual 140, 3) := by decide +kernel
theorem kd_En_open_40 : decode prog_2_method_10_code 40 = .ok (.ireturn, 1) := by decide +kernel
theorem kd_En_open_41 : decode prog_2_method_10_code 41 = .ok (.aload_n 1, 1) := by decide +kernel
theorem kd_En_open_42 : decode prog_2_method_10_code 42 = .ok (.getfield 80, 3) := by decide +kernel
theorem kd_En_open_45 : decode prog_2_method_10_code 45 = .ok (.bipush 23, 2) := by decide +kernel
theorem kd_En_open_47 : decode prog_2_method_10_code 47 = .ok (.if_icmp .eq 6, 3) := by decide +kernel
theorem kd_En_open_50 : decode prog_2_method_10_code 50 = .ok (.bipush 10, 2) := by decide +kernel
theorem kd_En_open_52 : decode prog_2_method_10_code 52 = .ok (.ireturn, 1) := by decide +kernel
theorem kd_En_open_53 : decode prog_2_method_10_code 53 = .ok (.aload_n 1, 1) := by decide +kernel
theorem kd_En_open_54 : decode prog_2_method_10_code 54 = .ok (.getfield 73, 3) := by decide +kernel
theorem kd_En_open_57 : decode prog_2_method_10_code 57 = .ok (.bipush 25, 2) := by decide +kernel
theorem kd_En_open_59 : decode prog_2_method_10_code 59 = .ok (.if_icmp .le 6, 3) := by decide +kernel
theorem kd_En_open_62 : decode prog_2_method_10_code 62 = .ok (.bipush 22, 2) := by decide +kernel
theorem kd_En_open_64 : decode prog_2_method_10_code 64 = .ok (.ireturn, 1) := by decide +kernel
theorem kd_En_open_65 : decode prog_2_method_10_code 65 = .ok (.aload_n 0, 1) := by decide +kernel
theorem kd_En_open_66 : decode prog_2_method_10_code 66 = .ok (.getfield 18, 3) := by decide +kernel
theorem kd_En_open_69 : decode prog_2_method_10_code 69 = .ok (.aload_n 1, 1) := by decide +kernel
theorem kd_En_open_70 : decode prog_2_method_10_code 70 = .ok (.invokevirtual 143, 3) := by decide +kernel
theorem kd_En_open_73 : decode prog_2_method_10_code 73 = .ok (.ifCond .ne 6, 3) := by decide +kernel
theorem kd_En_open_76 : decode prog_2_method_10_code 76 = .ok (.bipush 20, 2) := by decide +kernel
theorem kd_En_open_78 : decode prog_2_method_10_code 78 = .ok (.ireturn, 1) := by decide +kernel
theorem kd_En_open_79 : decode prog_2_method_10_code 79 = .ok (.aload_n 0, 1) := by decide +kernel
theorem kd_En_open_80 : decode prog_2_method_10_code 80 = .ok (.aload_n 1, 1) := by decide +kernel
theorem kd_En_open_81 : decode prog_2_method_10_code 81 = .ok (.invokevirtual 146, 3) := by decide +kernel
theorem kd_En_open_84 : decode prog_2_method_10_code 84 = .ok (.ireturn, 1) := by decide +kernel
def kc_En_open_24 (Po : Option Value → qa_M → Prop) : qa_K := (qi_iret (0, 0) Po)
def kc_En_open_0 (Po : Option Value → qa_M → Prop) : qa_K := (qi_aload 1 (qi_gi 2 33 (qi_ic (nI 20) (qi_icne (qi_aload 0 (qi_gp 6 162 (qi_gi 4 96 (qi_ifne (qi_aload 1 (qi_gi 2 33 (qi_ic (nI 23) (qi_iceq (qi_aload 1 (qi_gi 2 34 (qi_ic (nI 25) (qi_icle (qi_aload 0 (qi_gp 6 162 (qi_aload 1 (qi_callv 2 4 (0, 0) sp_Sd_endsWithTag (qi_ifne (qi_aload 0 (qi_aload 1 (qi_callv 2 6 (0, 0) sp_En_openSealed (qi_iret (0, 0) Po)))) (qi_ic (nI 20) (qi_iret (0, 0) Po))))))) (qi_ic (nI 22) (qi_iret (0, 0) Po)))))) (qi_ic (nI 10) (qi_iret (0, 0) Po)))))) (qi_aload 0 (qi_aload 1 (qi_callv 2 6 (0, 0) sp_En_openPlain (qi_iret (0, 0) Po)))))))) (qi_aload 0 (qi_aload 1 (qi_callv 2 6 (0, 0) sp_En_isIgnored (qi_ifeq (qi_ic (nI 10) (kc_En_open_24 Po)) (qi_ic (nI 100) (kc_En_open_24 Po))))))))))
abbrev kS_En_open (l : Launch) (D : va_G) (E : Nat → ClassId) (B : Nat) (sc : qa_Z) (Po : Option Value → qa_M → Prop) (pc : Nat) (k : qa_K) : Prop := qa_S l "SealedRecords$End" prog_2_method_10_code 2 (some .int) false D E B rm_En_open sc (qa_Qf D E B rm_En_open Po) pc k
theorem ks_En_open_24 (l : Launch) (D : va_G) (E : Nat → ClassId) (B : Nat) (sc : qa_Z) (Po : Option Value → qa_M → Prop) : kS_En_open l D E B sc Po 24 (kc_En_open_24 Po) := (qs_iret kd_En_open_24)
theorem ks_En_open_0 (l : Launch) (D : va_G) (E : Nat → ClassId) (B : Nat) (sc : qa_Z) (Po : Option Value → qa_M → Prop) : kS_En_open l D E B sc Po 0 (kc_En_open_0 Po) := (qs_aload_n kd_En_open_0 rfl (fg_33 ww_162 kd_En_open_1 (qs_bipush kd_En_open_4 (by decide) (qs_icne (tgt := 25) kd_En_open_6 (by decide) (qs_aload_n kd_En_open_25 rfl (fg_162 ww_33 kd_En_open_26 (fg_96 ww_126 kd_En_open_29 (qs_ifne (tgt := 41) kd_En_open_32 (by decide) (qs_aload_n kd_En_open_41 rfl (fg_33 ww_162 kd_En_open_42 (qs_bipush kd_En_open_45 (by decide) (qs_iceq (tgt := 53) kd_En_open_47 (by decide) (qs_aload_n kd_En_open_53 rfl (fg_34 ww_127 kd_En_open_54 (qs_bipush kd_En_open_57 (by decide) (qs_icle (tgt := 65) kd_En_open_59 (by decide) (qs_aload_n kd_En_open_65 rfl (fg_162 ww_33 kd_En_open_66 (qs_aload_n kd_En_open_69 rfl (qs_callv (ci := 3) (ct_Sd_endsWithTag l sc) ww_186 (by decide) rfl (by decide) ww_187 ww_188 ww_189 ww_7 yd_Sd_endsWithTag kd_En_open_70 (qs_ifne (tgt := 79) kd_En_open_73 (by decide) (qs_aload_n kd_En_open_79 rfl (qs_aload_n kd_En_open_80 rfl (qs_callv (ci := 5) (ct_En_openSealed l sc) ww_190 (by decide) rfl (by decide) ww_191 ww_192 ww_193 ww_11 yd_En_openSealed kd_En_open_81 (qs_iret kd_En_open_84)))) (qs_bipush kd_En_open_76 (by decide) (qs_iret kd_En_open_78))))))) (qs_bipush kd_En_open_62 (by decide) (qs_iret kd_En_open_64)))))) (qs_bipush kd_En_open_50 (by decide) (qs_iret kd_En_open_52)))))) (qs_aload_n kd_En_open_35 rfl (qs_aload_n kd_En_open_36 rfl (qs_callv (ci := 5) (ct_En_openPlain l sc) ww_194 (by decide) rfl (by decide) ww_195 ww_196 ww_197 ww_11 yd_En_openPlain kd_En_open_37 (qs_iret kd_En_open_40)))))))) (qs_aload_n kd_En_open_9 rfl (qs_aload_n kd_En_open_10 rfl (qs_callv (ci := 5) (ct_En_isIgnored l sc) ww_198 (by decide) rfl (by decide) ww_199 ww_200 ww_201 ww_11 yd_En_isIgnored kd_En_open_11 (qs_ifeq (tgt := 22) kd_En_open_14 (by decide) (qs_bipush kd_En_open_22 (by decide) (ks_En_open_24 l D E B sc Po)) (qs_bipush kd_En_open_17 (by decide) (qs_goto (tgt := 24) kd_En_open_19 (by decide) (ks_En_open_24 l D E B sc Po)))))))))))
def sp_En_open : qa_sp := fun args M Po => match args with
  | [.ref a0, .ref a1] => kc_En_open_0 Po (0, 0) [some (.ref a0), some (.ref a1)] [] M
  | _ => False
theorem ct_En_open (l : Launch) (sc : qa_Z) : qa_T l ym_En_open (Cond.code ym_En_open prog_2_method_10_code 2 (some .int) :: q_W0) rm_En_open sc (sp_En_open) := by
  intro D E B args M Po h
  unfold sp_En_open at h
  split at h
  · exact qa_ct (ini := false) (by decide) (by decide) (Nat.le_of_ble_eq_true rfl) (qa_lvok rfl) (ks_En_open_0 l D E B sc Po) h
  · exact h.elim
theorem kd_Ms_becomeLike_0 : decode prog_3_method_3_code 0 = .ok (.aload_n 0, 1) := by decide +kernel
theorem kd_Ms_becomeLike_1 : decode prog_3_method_3_code 1 = .ok (.aload_n 1, 1) := by decide +kernel
theorem kd_Ms_becomeLike_2 : decode prog_3_method_3_code 2 = .ok (.getfield 13, 3) := by decide +kernel
theorem kd_Ms_becomeLike_5 : decode prog_3_method_3_code 5 = .ok (.putfield 13, 3) := by decide +kernel
theorem kd_Ms_becomeLike_8 : decode prog_3_method_3_code 8 = .ok (.aload_n 0, 1) := by decide +kernel
theorem kd_Ms_becomeLike_9 : decode prog_3_method_3_code 9 = .ok (.aload_n 1, 1) := by decide +kernel
theorem kd_Ms_becomeLike_10 : decode prog_3_method_3_code 10 = .ok (.getfield 16, 3) := by decide +kernel
theorem kd_Ms_becomeLike_13 : decode prog_3_method_3_code 13 = .ok (.putfield 16, 3) := by decide +kernel
theorem kd_Ms_becomeLike_16 : decode prog_3_method_3_code 16 = .ok (.aload_n 0, 1) := by decide +kernel
theorem kd_Ms_becomeLike_17 : decode prog_3_method_3_code 17 = .ok (.aload_n 1, 1) := by decide +kernel
theorem kd_Ms_becomeLike_18 : decode prog_3_method_3_code 18 = .ok (.getfield 7, 3) := by decide +kernel
theorem kd_Ms_becomeLike_21 : decode prog_3_method_3_code 21 = .ok (.putfield 7, 3) := by decide +kernel
theorem kd_Ms_becomeLike_24 : decode prog_3_method_3_code 24 = .ok (.return_, 1) := by decide +kernel
def kc_Ms_becomeLike_0 (Po : Option Value → qa_M → Prop) : qa_K := (qi_aload 0 (qi_aload 1 (qi_gi 5 128 (qi_pi 5 128 (qi_aload 0 (qi_aload 1 (qi_gi 5 129 (qi_pi 5 129 (qi_aload 0 (qi_aload 1 (qi_gi 5 130 (qi_pi 5 130 (qi_vret (0, 0) Po)))))))))))))
abbrev kS_Ms_becomeLike (l : Launch) (D : va_G) (E : Nat → ClassId) (B : Nat) (sc : qa_Z) (Po : Option Value → qa_M → Prop) (pc : Nat) (k : qa_K) : Prop := qa_S l "SealedRecords$Messages" prog_3_method_3_code 2 none false D E B rm_Ms_becomeLike sc (qa_Qf D E B rm_Ms_becomeLike Po) pc k
theorem ks_Ms_becomeLike_0 (l : Launch) (D : va_G) (E : Nat → ClassId) (B : Nat) (sc : qa_Z) (Po : Option Value → qa_M → Prop) : kS_Ms_becomeLike l D E B sc Po 0 (kc_Ms_becomeLike_0 Po) := (qs_aload_n kd_Ms_becomeLike_0 rfl (qs_aload_n kd_Ms_becomeLike_1 rfl (fg_128 ww_202 kd_Ms_becomeLike_2 (fp_128 ww_202 kd_Ms_becomeLike_5 (qs_aload_n kd_Ms_becomeLike_8 rfl (qs_aload_n kd_Ms_becomeLike_9 rfl (fg_129 ww_203 kd_Ms_becomeLike_10 (fp_129 ww_203 kd_Ms_becomeLike_13 (qs_aload_n kd_Ms_becomeLike_16 rfl (qs_aload_n kd_Ms_becomeLike_17 rfl (fg_130 ww_70 kd_Ms_becomeLike_18 (fp_130 ww_70 kd_Ms_becomeLike_21 (qs_vret kd_Ms_becomeLike_24)))))))))))))
def sp_Ms_becomeLike : qa_sp := fun args M Po => match args with
  | [.ref a0, .ref a1] => kc_Ms_becomeLike_0 Po (0, 0) [some (.ref a0), some (.ref a1)] [] M
  | _ => False
theorem ct_Ms_becomeLike (l : Launch) (sc : qa_Z) : qa_T l ym_Ms_becomeLike (Cond.code ym_Ms_becomeLike prog_3_method_3_code 2 none :: q_W0) rm_Ms_becomeLike sc (sp_Ms_becomeLike) := by
  intro D E B args M Po h
  unfold sp_Ms_becomeLike at h
  split at h
  · exact qa_ct (ini := false) (by decide) (by decide) (Nat.le_of_ble_eq_true rfl) (qa_lvok rfl) (ks_Ms_becomeLike_0 l D E B sc Po) h
  · exact h.elim
theorem kd_Ms_completesWith_0 : decode prog_3_method_4_code 0 = .ok (.aload_n 0, 1) := by decide +kernel
theorem kd_Ms_completesWith_1 : decode prog_3_method_4_code 1 = .ok (.dup, 1) := by decide +kernel
theorem kd_Ms_completesWith_2 : decode prog_3_method_4_code 2 = .ok (.getfield 7, 3) := by decide +kernel
theorem kd_Ms_completesWith_5 : decode prog_3_method_4_code 5 = .ok (.iconst 1, 1) := by decide +kernel
theorem kd_Ms_completesWith_6 : decode prog_3_method_4_code 6 = .ok (.iadd, 1) := by decide +kernel
theorem kd_Ms_completesWith_7 : decode prog_3_method_4_code 7 = .ok (.putfield 7, 3) := by decide +kernel
theorem kd_Ms_completesWith_10 : decode prog_3_method_4_code 10 = .ok (.aload_n 0, 1) := by decide +kernel
theorem kd_Ms_completesWith_11 : decode prog_3_method_4_code 11 = .ok (.getfield 7, 3) := by decide +kernel
theorem kd_Ms_completesWith_14 : decode prog_3_method_4_code 14 = .ok (.iconst 1, 1) := by decide +kernel
theorem kd_Ms_completesWith_15 : decode prog_3_method_4_code 15 = .ok (.if_icmp .ne 10, 3) := by decide +kernel
theorem kd_Ms_completesWith_18 : decode prog_3_method_4_code 18 = .ok (.aload_n 0, 1) := by decide +kernel
theorem kd_Ms_completesWith_19 : decode prog_3_method_4_code 19 = .ok (.iload_n 1, 1) := by decide +kernel
theorem kd_Ms_completesWith_20 : decode prog_3_method_4_code 20 = .ok (.putfield 13, 3) := by decide +kernel
theorem kd_Ms_completesWith_23 : decode prog_3_method_4_code 23 = .ok (.iconst 0, 1) := by decide +kernel
theorem kd_Ms_completesWith_24 : decode prog_3_method_4_code 24 = .ok (.ireturn, 1) := by decide +kernel
theorem kd_Ms_completesWith_25 : decode prog_3_method_4_code 25 = .ok (.aload_n 0, 1) := by decide +kernel
theorem kd_Ms_completesWith_26 : decode prog_3_method_4_code 26 = .ok (.getfield 7, 3) := by decide +kernel
theorem kd_Ms_completesWith_29 : decode prog_3_method_4_code 29 = .ok (.iconst 2, 1) := by decide +kernel
theorem kd_Ms_completesWith_30 : decode prog_3_method_4_code 30 = .ok (.if_icmp .ne 8, 3) := by decide +kernel
theorem kd_Ms_completesWith_33 : decode prog_3_method_4_code 33 = .ok (.aload_n 0, 1) := by decide +kernel
theorem kd_Ms_completesWith_34 : decode prog_3_method_4_code 34 = .ok (.iload_n 1, 1) := by decide +kernel
theorem kd_Ms_completesWith_35 : decode prog_3_method_4_code 35 = .ok (.putfield 16, 3) := by decide +kernel
theorem kd_Ms_completesWith_38 : decode prog_3_method_4_code 38 = .ok (.aload_n 0, 1) := by decide +kernel
theorem kd_Ms_completesWith_39 : decode prog_3_method_4_code 39 = .ok (.getfield 7, 3) := by decide +kernel
theorem kd_Ms_completesWith_42 : decode prog_3_method_4_code 42 = .ok (.iconst 2, 1) := by decide +kernel
theorem kd_Ms_completesWith_43 : decode prog_3_method_4_code 43 = .ok (.aload_n 0, 1) := by decide +kernel
theorem kd_Ms_completesWith_44 : decode prog_3_method_4_code 44 = .ok (.getfield 16, 3) := by decide +kernel
theorem kd_Ms_completesWith_47 : decode prog_3_method_4_code 47 = .ok (.iadd, 1) := by decide +kernel
theorem kd_Ms_completesWith_48 : decode prog_3_method_4_code 48 = .ok (.if_icmp .ge 5, 3) := by decide +kernel
theorem kd_Ms_completesWith_51 : decode prog_3_method_4_code 51 = .ok (.iconst 0, 1) := by decide +kernel
theorem kd_Ms_completesWith_52 : decode prog_3_method_4_code 52 = .ok (.ireturn, 1) := by decide +kernel
theorem kd_Ms_completesWith_53 : decode prog_3_method_4_code 53 = .ok (.aload_n 0, 1) := by decide +kernel
theorem kd_Ms_completesWith_54 : decode prog_3_method_4_code 54 = .ok (.iconst 0, 1) := by decide +kernel
theorem kd_Ms_completesWith_55 : decode prog_3_method_4_code 55 = .ok (.putfield 7, 3) := by decide +kernel
theorem kd_Ms_completesWith_58 : decode prog_3_method_4_code 58 = .ok (.iconst 1, 1) := by decide +kernel
theorem kd_Ms_completesWith_59 : decode prog_3_method_4_code 59 = .ok (.ireturn, 1) := by decide +kernel
def kc_Ms_completesWith_38 (Po : Option Value → qa_M → Prop) : qa_K := (qi_aload 0 (qi_gi 5 130 (qi_ic (nI 2) (qi_aload 0 (qi_gi 5 129 (qi_iadd (qi_icge (qi_aload 0 (qi_ic (nI 0) (qi_pi 5 130 (qi_ic (nI 1) (qi_zret (0, 0) Po))))) (qi_ic (nI 0) (qi_zret (0, 0) Po)))))))))
def kc_Ms_completesWith_0 (Po : Option Value → qa_M → Prop) : qa_K := (qi_aload 0 (qi_dup (qi_gi 5 130 (qi_ic (nI 1) (qi_iadd (qi_pi 5 130 (qi_aload 0 (qi_gi 5 130 (qi_ic (nI 1) (qi_icne (qi_aload 0 (qi_gi 5 130 (qi_ic (nI 2) (qi_icne (kc_Ms_completesWith_38 Po) (qi_aload 0 (qi_iload 1 (qi_pi 5 129 (kc_Ms_completesWith_38 Po)))))))) (qi_aload 0 (qi_iload 1 (qi_pi 5 128 (qi_ic (nI 0) (qi_zret (0, 0) Po)))))))))))))))
abbrev kS_Ms_completesWith (l : Launch) (D : va_G) (E : Nat → ClassId) (B : Nat) (sc : qa_Z) (Po : Option Value → qa_M → Prop) (pc : Nat) (k : qa_K) : Prop := qa_S l "SealedRecords$Messages" prog_3_method_4_code 2 (some .boolean) false D E B rm_Ms_completesWith sc (qa_Qf D E B rm_Ms_completesWith Po) pc k
theorem ks_Ms_completesWith_38 (l : Launch) (D : va_G) (E : Nat → ClassId) (B : Nat) (sc : qa_Z) (Po : Option Value → qa_M → Prop) : kS_Ms_completesWith l D E B sc Po 38 (kc_Ms_completesWith_38 Po) := (qs_aload_n kd_Ms_completesWith_38 rfl (fg_130 ww_70 kd_Ms_completesWith_39 (qs_iconst kd_Ms_completesWith_42 (by decide) (qs_aload_n kd_Ms_completesWith_43 rfl (fg_129 ww_203 kd_Ms_completesWith_44 (qs_iadd kd_Ms_completesWith_47 (qs_icge (tgt := 53) kd_Ms_completesWith_48 (by decide) (qs_aload_n kd_Ms_completesWith_53 rfl (qs_iconst kd_Ms_completesWith_54 (by decide) (fp_130 ww_70 kd_Ms_completesWith_55 (qs_iconst kd_Ms_completesWith_58 (by decide) (qs_zret kd_Ms_completesWith_59))))) (qs_iconst kd_Ms_completesWith_51 (by decide) (qs_zret kd_Ms_completesWith_52)))))))))
theorem ks_Ms_completesWith_0 (l : Launch) (D : va_G) (E : Nat → ClassId) (B : Nat) (sc : qa_Z) (Po : Option Value → qa_M → Prop) : kS_Ms_completesWith l D E B sc Po 0 (kc_Ms_completesWith_0 Po) := (qs_aload_n kd_Ms_completesWith_0 rfl (qs_dup kd_Ms_completesWith_1 (fg_130 ww_70 kd_Ms_completesWith_2 (qs_iconst kd_Ms_completesWith_5 (by decide) (qs_iadd kd_Ms_completesWith_6 (fp_130 ww_70 kd_Ms_completesWith_7 (qs_aload_n kd_Ms_completesWith_10 rfl (fg_130 ww_70 kd_Ms_completesWith_11 (qs_iconst kd_Ms_completesWith_14 (by decide) (qs_icne (tgt := 25) kd_Ms_completesWith_15 (by decide) (qs_aload_n kd_Ms_completesWith_25 rfl (fg_130 ww_70 kd_Ms_completesWith_26 (qs_iconst kd_Ms_completesWith_29 (by decide) (qs_icne (tgt := 38) kd_Ms_completesWith_30 (by decide) (ks_Ms_completesWith_38 l D E B sc Po) (qs_aload_n kd_Ms_completesWith_33 rfl (qs_iload_n kd_Ms_completesWith_34 rfl (fp_129 ww_203 kd_Ms_completesWith_35 (ks_Ms_completesWith_38 l D E B sc Po)))))))) (qs_aload_n kd_Ms_completesWith_18 rfl (qs_iload_n kd_Ms_completesWith_19 rfl (fp_128 ww_202 kd_Ms_completesWith_20 (qs_iconst kd_Ms_completesWith_23 (by decide) (qs_zret kd_Ms_completesWith_24)))))))))))))))
def sp_Ms_completesWith : qa_sp := fun args M Po => match args with
  | [.ref a0, .int a1] => kc_Ms_completesWith_0 Po (0, 0) [some (.ref a0), some (.int a1)] [] M
  | _ => False
theorem ct_Ms_completesWith (l : Launch) (sc : qa_Z) : qa_T l ym_Ms_completesWith (Cond.code ym_Ms_completesWith prog_3_method_4_code 2 (some .boolean) :: q_W0) rm_Ms_completesWith sc (sp_Ms_completesWith) := by
  intro D E B args M Po h
  unfold sp_Ms_completesWith at h
  split at h
  · exact qa_ct (ini := false) (by decide) (by decide) (Nat.le_of_ble_eq_true rfl) (qa_lvok rfl) (ks_Ms_completesWith_0 l D E B sc Po) h
  · exact h.elim
theorem kd_En_judgeKeyChange_0 : decode prog_2_method_16_code 0 = .ok (.aload_n 0, 1) := by decide +kernel
theorem kd_En_judgeKeyChange_1 : decode prog_2_method_16_code 1 = .ok (.getfield 18, 3) := by decide +kernel
theorem kd_En_judgeKeyChange_4 : decode prog_2_method_16_code 4 = .ok (.getfield 70, 3) := by decide +kernel
theorem kd_En_judgeKeyChange_7 : decode prog_2_method_16_code 7 = .ok (.iconst 2, 1) := by decide +kernel
theorem kd_En_judgeKeyChange_8 : decode prog_2_method_16_code 8 = .ok (.if_icmp .eq 6, 3) := by decide +kernel
theorem kd_En_judgeKeyChange_11 : decode prog_2_method_16_code 11 = .ok (.bipush 10, 2) := by decide +kernel
theorem kd_En_judgeKeyChange_13 : decode prog_2_method_16_code 13 = .ok (.ireturn, 1) := by decide +kernel
theorem kd_En_judgeKeyChange_14 : decode prog_2_method_16_code 14 = .ok (.iload_n 1, 1) := by decide +kernel
theorem kd_En_judgeKeyChange_15 : decode prog_2_method_16_code 15 = .ok (.iconst 1, 1) := by decide +kernel
theorem kd_En_judgeKeyChange_16 : decode prog_2_method_16_code 16 = .ok (.if_icmp .eq 6, 3) := by decide +kernel
theorem kd_En_judgeKeyChange_19 : decode prog_2_method_16_code 19 = .ok (.bipush 50, 2) := by decide +kernel
theorem kd_En_judgeKeyChange_21 : decode prog_2_method_16_code 21 = .ok (.ireturn, 1) := by decide +kernel
theorem kd_En_judgeKeyChange_22 : decode prog_2_method_16_code 22 = .ok (.aload_n 0, 1) := by decide +kernel
theorem kd_En_judgeKeyChange_23 : decode prog_2_method_16_code 23 = .ok (.getfield 52, 3) := by decide +kernel
theorem kd_En_judgeKeyChange_26 : decode prog_2_method_16_code 26 = .ok (.getfield 103, 3) := by decide +kernel
theorem kd_En_judgeKeyChange_29 : decode prog_2_method_16_code 29 = .ok (.iload_n 2, 1) := by decide +kernel
theorem kd_En_judgeKeyChange_30 : decode prog_2_method_16_code 30 = .ok (.iaload, 1) := by decide +kernel
theorem kd_En_judgeKeyChange_31 : decode prog_2_method_16_code 31 = .ok (.iconst 1, 1) := by decide +kernel
theorem kd_En_judgeKeyChange_32 : decode prog_2_method_16_code 32 = .ok (.if_icmp .le 6, 3) := by decide +kernel
theorem kd_En_judgeKeyChange_35 : decode prog_2_method_16_code 35 = .ok (.bipush 47, 2) := by decide +kernel
theorem kd_En_judgeKeyChange_37 : decode prog_2_method_16_code 37 = .ok (.ireturn, 1) := by decide +kernel
theorem kd_En_judgeKeyChange_38 : decode prog_2_method_16_code 38 = .ok (.iload_n 2, 1) := by decide +kernel
theorem kd_En_judgeKeyChange_39 : decode prog_2_method_16_code 39 = .ok (.aload_n 0, 1) := by decide +kernel
theorem kd_En_judgeKeyChange_40 : decode prog_2_method_16_code 40 = .ok (.getfield 52, 3) := by decide +kernel
theorem kd_En_judgeKeyChange_43 : decode prog_2_method_16_code 43 = .ok (.getfield 73, 3) := by decide +kernel
theorem kd_En_judgeKeyChange_46 : decode prog_2_method_16_code 46 = .ok (.iconst 1, 1) := by decide +kernel
theorem kd_En_judgeKeyChange_47 : decode prog_2_method_16_code 47 = .ok (.isub, 1) := by decide +kernel
theorem kd_En_judgeKeyChange_48 : decode prog_2_method_16_code 48 = .ok (.if_icmp .ne 7, 3) := by decide +kernel
theorem kd_En_judgeKeyChange_51 : decode prog_2_method_16_code 51 = .ok (.iconst 0, 1) := by decide +kernel
theorem kd_En_judgeKeyChange_52 : decode prog_2_method_16_code 52 = .ok (.goto 5, 3) := by decide +kernel
theorem kd_En_judgeKeyChange_55 : decode prog_2_method_16_code 55 = .ok (.bipush 10, 2) := by decide +kernel
theorem kd_En_judgeKeyChange_57 : decode prog_2_method_16_code 57 = .ok (.ireturn, 1) := by decide +kernel
def kc_En_judgeKeyChange_57 (Po : Option Value → qa_M → Prop) : qa_K := (qi_iret (0, 0) Po)
def kc_En_judgeKeyChange_0 (Po : Option Value → qa_M → Prop) : qa_K := (qi_aload 0 (qi_gp 6 162 (qi_gi 4 96 (qi_ic (nI 2) (qi_iceq (qi_iload 1 (qi_ic (nI 1) (qi_iceq (qi_aload 0 (qi_gp 6 168 (qi_gp 2 32 (qi_iload 2 (qi_iald 1032 (qi_ic (nI 1) (qi_icle (qi_iload 2 (qi_aload 0 (qi_gp 6 168 (qi_gi 2 34 (qi_ic (nI 1) (qi_isub (qi_icne (qi_ic (nI 10) (kc_En_judgeKeyChange_57 Po)) (qi_ic (nI 0) (kc_En_judgeKeyChange_57 Po))))))))) (qi_ic (nI 47) (qi_iret (0, 0) Po))))))))) (qi_ic (nI 50) (qi_iret (0, 0) Po))))) (qi_ic (nI 10) (qi_iret (0, 0) Po)))))))
abbrev kS_En_judgeKeyChange (l : Launch) (D : va_G) (E : Nat → ClassId) (B : Nat) (sc : qa_Z) (Po : Option Value → qa_M → Prop) (pc : Nat) (k : qa_K) : Prop := qa_S l "SealedRecords$End" prog_2_method_16_code 3 (some .int) false D E B rm_En_judgeKeyChange sc (qa_Qf D E B rm_En_judgeKeyChange Po) pc k
theorem ks_En_judgeKeyChange_57 (l : Launch) (D : va_G) (E : Nat → ClassId) (B : Nat) (sc : qa_Z) (Po : Option Value → qa_M → Prop) : kS_En_judgeKeyChange l D E B sc Po 57 (kc_En_judgeKeyChange_57 Po) := (qs_iret kd_En_judgeKeyChange_57)
theorem ks_En_judgeKeyChange_0 (l : Launch) (D : va_G) (E : Nat → ClassId) (B : Nat) (sc : qa_Z) (Po : Option Value → qa_M → Prop) : kS_En_judgeKeyChange l D E B sc Po 0 (kc_En_judgeKeyChange_0 Po) := (qs_aload_n kd_En_judgeKeyChange_0 rfl (fg_162 ww_33 kd_En_judgeKeyChange_1 (fg_96 ww_126 kd_En_judgeKeyChange_4 (qs_iconst kd_En_judgeKeyChange_7 (by decide) (qs_iceq (tgt := 14) kd_En_judgeKeyChange_8 (by decide) (qs_iload_n kd_En_judgeKeyChange_14 rfl (qs_iconst kd_En_judgeKeyChange_15 (by decide) (qs_iceq (tgt := 22) kd_En_judgeKeyChange_16 (by decide) (qs_aload_n kd_En_judgeKeyChange_22 rfl (fg_168 ww_49 kd_En_judgeKeyChange_23 (fg_32 ww_140 kd_En_judgeKeyChange_26 (qs_iload_n kd_En_judgeKeyChange_29 rfl (qs_iald (κ := 1032) rfl (by decide) kd_En_judgeKeyChange_30 (qs_iconst kd_En_judgeKeyChange_31 (by decide) (qs_icle (tgt := 38) kd_En_judgeKeyChange_32 (by decide) (qs_iload_n kd_En_judgeKeyChange_38 rfl (qs_aload_n kd_En_judgeKeyChange_39 rfl (fg_168 ww_49 kd_En_judgeKeyChange_40 (fg_34 ww_127 kd_En_judgeKeyChange_43 (qs_iconst kd_En_judgeKeyChange_46 (by decide) (qs_isub kd_En_judgeKeyChange_47 (qs_icne (tgt := 55) kd_En_judgeKeyChange_48 (by decide) (qs_bipush kd_En_judgeKeyChange_55 (by decide) (ks_En_judgeKeyChange_57 l D E B sc Po)) (qs_iconst kd_En_judgeKeyChange_51 (by decide) (qs_goto (tgt := 57) kd_En_judgeKeyChange_52 (by decide) (ks_En_judgeKeyChange_57 l D E B sc Po)))))))))) (qs_bipush kd_En_judgeKeyChange_35 (by decide) (qs_iret kd_En_judgeKeyChange_37))))))))) (qs_bipush kd_En_judgeKeyChange_19 (by decide) (qs_iret kd_En_judgeKeyChange_21))))) (qs_bipush kd_En_judgeKeyChange_11 (by decide) (qs_iret kd_En_judgeKeyChange_13)))))))
def sp_En_judgeKeyChange : qa_sp := fun args M Po => match args with
  | [.ref a0, .int a1, .int a2] => kc_En_judgeKeyChange_0 Po (0, 0) [some (.ref a0), some (.int a1), some (.int a2)] [] M
  | _ => False
theorem ct_En_judgeKeyChange (l : Launch) (sc : qa_Z) : qa_T l ym_En_judgeKeyChange (Cond.code ym_En_judgeKeyChange prog_2_method_16_code 3 (some .int) :: q_W0) rm_En_judgeKeyChange sc (sp_En_judgeKeyChange) := by
  intro D E B args M Po h
  unfold sp_En_judgeKeyChange at h
  split at h
  · exact qa_ct (ini := false) (by decide) (by decide) (Nat.le_of_ble_eq_true rfl) (qa_lvok rfl) (ks_En_judgeKeyChange_0 l D E B sc Po) h
  · exact h.elim
theorem kd_En_judgeMessages_0 : decode prog_2_method_15_code 0 = .ok (.aload_n 0, 1) := by decide +kernel
theorem kd_En_judgeMessages_1 : decode prog_2_method_15_code 1 = .ok (.getfield 52, 3) := by decide +kernel
theorem kd_En_judgeMessages_4 : decode prog_2_method_15_code 4 = .ok (.getfield 73, 3) := by decide +kernel
theorem kd_En_judgeMessages_7 : decode prog_2_method_15_code 7 = .ok (.ifCond .ne 6, 3) := by decide +kernel
theorem kd_En_judgeMessages_10 : decode prog_2_method_15_code 10 = .ok (.bipush 10, 2) := by decide +kernel
theorem kd_En_judgeMessages_12 : decode prog_2_method_15_code 12 = .ok (.ireturn, 1) := by decide +kernel
theorem kd_En_judgeMessages_13 : decode prog_2_method_15_code 13 = .ok (.aload_n 0, 1) := by decide +kernel
theorem kd_En_judgeMessages_14 : decode prog_2_method_15_code 14 = .ok (.getfield 49, 3) := by decide +kernel
theorem kd_En_judgeMessages_17 : decode prog_2_method_15_code 17 = .ok (.aload_n 0, 1) := by decide +kernel
theorem kd_En_judgeMessages_18 : decode prog_2_method_15_code 18 = .ok (.getfield 45, 3) := by decide +kernel
theorem kd_En_judgeMessages_21 : decode prog_2_method_15_code 21 = .ok (.invokevirtual 156, 3) := by decide +kernel
theorem kd_En_judgeMessages_24 : decode prog_2_method_15_code 24 = .ok (.iconst 0, 1) := by decide +kernel
theorem kd_En_judgeMessages_25 : decode prog_2_method_15_code 25 = .ok (.istore_n 1, 1) := by decide +kernel
theorem kd_En_judgeMessages_26 : decode prog_2_method_15_code 26 = .ok (.iload_n 1, 1) := by decide +kernel
theorem kd_En_judgeMessages_27 : decode prog_2_method_15_code 27 = .ok (.aload_n 0, 1) := by decide +kernel
theorem kd_En_judgeMessages_28 : decode prog_2_method_15_code 28 = .ok (.getfield 52, 3) := by decide +kernel
theorem kd_En_judgeMessages_31 : decode prog_2_method_15_code 31 = .ok (.getfield 73, 3) := by decide +kernel
theorem kd_En_judgeMessages_34 : decode prog_2_method_15_code 34 = .ok (.if_icmp .ge 53, 3) := by decide +kernel
theorem kd_En_judgeMessages_37 : decode prog_2_method_15_code 37 = .ok (.aload_n 0, 1) := by decide +kernel
theorem kd_En_judgeMessages_38 : decode prog_2_method_15_code 38 = .ok (.getfield 49, 3) := by decide +kernel
theorem kd_En_judgeMessages_41 : decode prog_2_method_15_code 41 = .ok (.aload_n 0, 1) := by decide +kernel
theorem kd_En_judgeMessages_42 : decode prog_2_method_15_code 42 = .ok (.getfield 52, 3) := by decide +kernel
theorem kd_En_judgeMessages_45 : decode prog_2_method_15_code 45 = .ok (.getfield 103, 3) := by decide +kernel
theorem kd_En_judgeMessages_48 : decode prog_2_method_15_code 48 = .ok (.iload_n 1, 1) := by decide +kernel
theorem kd_En_judgeMessages_49 : decode prog_2_method_15_code 49 = .ok (.iaload, 1) := by decide +kernel
theorem kd_En_judgeMessages_50 : decode prog_2_method_15_code 50 = .ok (.invokevirtual 159, 3) := by decide +kernel
theorem kd_En_judgeMessages_53 : decode prog_2_method_15_code 53 = .ok (.ifCond .eq 28, 3) := by decide +kernel
theorem kd_En_judgeMessages_56 : decode prog_2_method_15_code 56 = .ok (.aload_n 0, 1) := by decide +kernel
theorem kd_En_judgeMessages_57 : decode prog_2_method_15_code 57 = .ok (.getfield 49, 3) := by decide +kernel
theorem kd_En_judgeMessages_60 : decode prog_2_method_15_code 60 = .ok (.getfield 163, 3) := by decide +kernel
theorem kd_En_judgeMessages_63 : decode prog_2_method_15_code 63 = .ok (.bipush 24, 2) := by decide +kernel
theorem kd_En_judgeMessages_65 : decode prog_2_method_15_code 65 = .ok (.if_icmp .ne 16, 3) := by decide +kernel
theorem kd_En_judgeMessages_68 : decode prog_2_method_15_code 68 = .ok (.aload_n 0, 1) := by decide +kernel
theorem kd_En_judgeMessages_69 : decode prog_2_method_15_code 69 = .ok (.aload_n 0, 1) := by decide +kernel
theorem kd_En_judgeMessages_70 : decode prog_2_method_15_code 70 = .ok (.getfield 49, 3) := by decide +kernel
theorem kd_En_judgeMessages_73 : decode prog_2_method_15_code 73 = .ok (.getfield 166, 3) := by decide +kernel
theorem kd_En_judgeMessages_76 : decode prog_2_method_15_code 76 = .ok (.iload_n 1, 1) := by decide +kernel
theorem kd_En_judgeMessages_77 : decode prog_2_method_15_code 77 = .ok (.invokevirtual 169, 3) := by decide +kernel
theorem kd_En_judgeMessages_80 : decode prog_2_method_15_code 80 = .ok (.ireturn, 1) := by decide +kernel
theorem kd_En_judgeMessages_81 : decode prog_2_method_15_code 81 = .ok (.iinc 1 1, 3) := by decide +kernel
theorem kd_En_judgeMessages_84 : decode prog_2_method_15_code 84 = .ok (.goto (-58), 3) := by decide +kernel
theorem kd_En_judgeMessages_87 : decode prog_2_method_15_code 87 = .ok (.iconst 0, 1) := by decide +kernel
theorem kd_En_judgeMessages_88 : decode prog_2_method_15_code 88 = .ok (.ireturn, 1) := by decide +kernel
def kc_En_judgeMessages_81 (Po : Option Value → qa_M → Prop) (k26 : qa_K) : qa_K := (qi_iinc 1 (nI 1) k26)
def kb_En_judgeMessages_26 (Po : Option Value → qa_M → Prop) (k26 : qa_K) : qa_K := (qi_iload 1 (qi_aload 0 (qi_gp 6 168 (qi_gi 2 34 (qi_icge (qi_ic (nI 0) (qi_iret (0, 0) Po)) (qi_aload 0 (qi_gp 6 167 (qi_aload 0 (qi_gp 6 168 (qi_gp 2 32 (qi_iload 1 (qi_iald 1032 (qi_callv 2 5 (0, 0) sp_Ms_completesWith (qi_ifeq (kc_En_judgeMessages_81 Po k26) (qi_aload 0 (qi_gp 6 167 (qi_gi 5 128 (qi_ic (nI 24) (qi_icne (kc_En_judgeMessages_81 Po k26) (qi_aload 0 (qi_aload 0 (qi_gp 6 167 (qi_gi 5 129 (qi_iload 1 (qi_callv 3 6 (0, 0) sp_En_judgeKeyChange (qi_iret (0, 0) Po))))))))))))))))))))))))))
def kc_En_judgeMessages_26 (Po : Option Value → qa_M → Prop) : qa_K := qi_loop (kb_En_judgeMessages_26 Po)
def kc_En_judgeMessages_0 (Po : Option Value → qa_M → Prop) : qa_K := (qi_aload 0 (qi_gp 6 168 (qi_gi 2 34 (qi_ifne (qi_aload 0 (qi_gp 6 167 (qi_aload 0 (qi_gp 6 166 (qi_callv 2 5 (0, 0) sp_Ms_becomeLike (qi_ic (nI 0) (qi_istore 1 (kc_En_judgeMessages_26 Po)))))))) (qi_ic (nI 10) (qi_iret (0, 0) Po))))))
abbrev kS_En_judgeMessages (l : Launch) (D : va_G) (E : Nat → ClassId) (B : Nat) (sc : qa_Z) (Po : Option Value → qa_M → Prop) (pc : Nat) (k : qa_K) : Prop := qa_S l "SealedRecords$End" prog_2_method_15_code 2 (some .int) false D E B rm_En_judgeMessages sc (qa_Qf D E B rm_En_judgeMessages Po) pc k
theorem ks_En_judgeMessages_81 (l : Launch) (D : va_G) (E : Nat → ClassId) (B : Nat) (sc : qa_Z) (Po : Option Value → qa_M → Prop) {k26 : qa_K} (hk26 : kS_En_judgeMessages l D E B sc Po 26 k26) : kS_En_judgeMessages l D E B sc Po 81 (kc_En_judgeMessages_81 Po k26) := (qs_iinc kd_En_judgeMessages_81 (by decide) (by decide) (qs_goto (tgt := 26) kd_En_judgeMessages_84 (by decide) hk26))
theorem kt_En_judgeMessages_26 (l : Launch) (D : va_G) (E : Nat → ClassId) (B : Nat) (sc : qa_Z) (Po : Option Value → qa_M → Prop) {k26 : qa_K} (hk26 : kS_En_judgeMessages l D E B sc Po 26 k26) : kS_En_judgeMessages l D E B sc Po 26 (kb_En_judgeMessages_26 Po k26) := (qs_iload_n kd_En_judgeMessages_26 rfl (qs_aload_n kd_En_judgeMessages_27 rfl (fg_168 ww_49 kd_En_judgeMessages_28 (fg_34 ww_127 kd_En_judgeMessages_31 (qs_icge (tgt := 87) kd_En_judgeMessages_34 (by decide) (qs_iconst kd_En_judgeMessages_87 (by decide) (qs_iret kd_En_judgeMessages_88)) (qs_aload_n kd_En_judgeMessages_37 rfl (fg_167 ww_48 kd_En_judgeMessages_38 (qs_aload_n kd_En_judgeMessages_41 rfl (fg_168 ww_49 kd_En_judgeMessages_42 (fg_32 ww_140 kd_En_judgeMessages_45 (qs_iload_n kd_En_judgeMessages_48 rfl (qs_iald (κ := 1032) rfl (by decide) kd_En_judgeMessages_49 (qs_callv (ci := 4) (ct_Ms_completesWith l sc) ww_204 (by decide) rfl (by decide) ww_205 ww_206 ww_207 ww_9 yd_Ms_completesWith kd_En_judgeMessages_50 (qs_ifeq (tgt := 81) kd_En_judgeMessages_53 (by decide) (ks_En_judgeMessages_81 l D E B sc Po hk26) (qs_aload_n kd_En_judgeMessages_56 rfl (fg_167 ww_48 kd_En_judgeMessages_57 (fg_128 ww_208 kd_En_judgeMessages_60 (qs_bipush kd_En_judgeMessages_63 (by decide) (qs_icne (tgt := 81) kd_En_judgeMessages_65 (by decide) (ks_En_judgeMessages_81 l D E B sc Po hk26) (qs_aload_n kd_En_judgeMessages_68 rfl (qs_aload_n kd_En_judgeMessages_69 rfl (fg_167 ww_48 kd_En_judgeMessages_70 (fg_129 ww_209 kd_En_judgeMessages_73 (qs_iload_n kd_En_judgeMessages_76 rfl (qs_callv (ci := 5) (ct_En_judgeKeyChange l sc) ww_210 (by decide) rfl (by decide) ww_211 ww_212 ww_213 ww_11 yd_En_judgeKeyChange kd_En_judgeMessages_77 (qs_iret kd_En_judgeMessages_80))))))))))))))))))))))))))
theorem ks_En_judgeMessages_26 (l : Launch) (D : va_G) (E : Nat → ClassId) (B : Nat) (sc : qa_Z) (Po : Option Value → qa_M → Prop) : kS_En_judgeMessages l D E B sc Po 26 (kc_En_judgeMessages_26 Po) := qs_loop fun k26 hk26 => kt_En_judgeMessages_26 l D E B sc Po hk26
theorem ks_En_judgeMessages_0 (l : Launch) (D : va_G) (E : Nat → ClassId) (B : Nat) (sc : qa_Z) (Po : Option Value → qa_M → Prop) : kS_En_judgeMessages l D E B sc Po 0 (kc_En_judgeMessages_0 Po) := (qs_aload_n kd_En_judgeMessages_0 rfl (fg_168 ww_49 kd_En_judgeMessages_1 (fg_34 ww_127 kd_En_judgeMessages_4 (qs_ifne (tgt := 13) kd_En_judgeMessages_7 (by decide) (qs_aload_n kd_En_judgeMessages_13 rfl (fg_167 ww_48 kd_En_judgeMessages_14 (qs_aload_n kd_En_judgeMessages_17 rfl (fg_166 ww_47 kd_En_judgeMessages_18 (qs_callv (ci := 4) (ct_Ms_becomeLike l sc) ww_214 (by decide) rfl (by decide) ww_215 ww_216 ww_217 ww_9 yd_Ms_becomeLike kd_En_judgeMessages_21 (qs_iconst kd_En_judgeMessages_24 (by decide) (qs_istore_n kd_En_judgeMessages_25 rfl (by decide) (ks_En_judgeMessages_26 l D E B sc Po)))))))) (qs_bipush kd_En_judgeMessages_10 (by decide) (qs_iret kd_En_judgeMessages_12))))))
def sp_En_judgeMessages : qa_sp := fun args M Po => match args with
  | [.ref a0] => kc_En_judgeMessages_0 Po (0, 0) [some (.ref a0), none] [] M
  | _ => False
theorem ct_En_judgeMessages (l : Launch) (sc : qa_Z) : qa_T l ym_En_judgeMessages (Cond.code ym_En_judgeMessages prog_2_method_15_code 2 (some .int) :: q_W0) rm_En_judgeMessages sc (sp_En_judgeMessages) := by
  intro D E B args M Po h
  unfold sp_En_judgeMessages at h
  split at h
  · exact qa_ct (ini := false) (by decide) (by decide) (Nat.le_of_ble_eq_true rfl) (qa_lvok rfl) (ks_En_judgeMessages_0 l D E B sc Po) h
  · exact h.elim
