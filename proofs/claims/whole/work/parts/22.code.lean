theorem kd_Sd_init_0 : decode prog_6_method_1_code 0 = .ok (.aload_n 0, 1) := by decide +kernel
theorem kd_Sd_init_1 : decode prog_6_method_1_code 1 = .ok (.invokespecial 3, 3) := by decide +kernel
theorem kd_Sd_init_4 : decode prog_6_method_1_code 4 = .ok (.return_, 1) := by decide +kernel
def kc_Sd_init_0 (Po : Option Value → qa_M → Prop) : qa_K := (qi_aload 0 (qi_oinit (qi_vret (0, 0) Po)))
abbrev kS_Sd_init (l : Launch) (D : va_G) (E : Nat → ClassId) (B : Nat) (sc : qa_Z) (Po : Option Value → qa_M → Prop) (pc : Nat) (k : qa_K) : Prop := qa_S l "SealedRecords$Side" prog_6_method_1_code 1 none true D E B rm_Sd_init sc (qa_Qf D E B rm_Sd_init Po) pc k
theorem ks_Sd_init_0 (l : Launch) (D : va_G) (E : Nat → ClassId) (B : Nat) (sc : qa_Z) (Po : Option Value → qa_M → Prop) : kS_Sd_init l D E B sc Po 0 (kc_Sd_init_0 Po) := (qs_aload_n kd_Sd_init_0 rfl (qs_oinit ww_14 ww_15 ww_16 (by decide) (by decide) kd_Sd_init_1 (qs_vret kd_Sd_init_4)))
def sp_Sd_init : qa_sp := fun args M Po => match args with
  | [.ref a0] => kc_Sd_init_0 Po (0, 0) [some (.ref a0)] [] M
  | _ => False
theorem ct_Sd_init (l : Launch) (sc : qa_Z) : qa_T l ym_Sd_init (Cond.code ym_Sd_init prog_6_method_1_code 1 none :: q_W0) rm_Sd_init sc (sp_Sd_init) := by
  intro D E B args M Po h
  unfold sp_Sd_init at h
  split at h
  · exact qa_ct (ini := true) (by decide) (by decide) (Nat.le_of_ble_eq_true rfl) (qa_lvok rfl) (ks_Sd_init_0 l D E B sc Po) h
  · exact h.elim
theorem kd_Pk_init_0 : decode prog_4_method_1_code 0 = .ok (.aload_n 0, 1) := by decide +kernel
theorem kd_Pk_init_1 : decode prog_4_method_1_code 1 = .ok (.invokespecial 1, 3) := by decide +kernel
theorem kd_Pk_init_4 : decode prog_4_method_1_code 4 = .ok (.aload_n 0, 1) := by decide +kernel
theorem kd_Pk_init_5 : decode prog_4_method_1_code 5 = .ok (.iload_n 1, 1) := by decide +kernel
theorem kd_Pk_init_6 : decode prog_4_method_1_code 6 = .ok (.newarray .int, 2) := by decide +kernel
theorem kd_Pk_init_8 : decode prog_4_method_1_code 8 = .ok (.putfield 7, 3) := by decide +kernel
theorem kd_Pk_init_11 : decode prog_4_method_1_code 11 = .ok (.return_, 1) := by decide +kernel
def kc_Pk_init_0 (Po : Option Value → qa_M → Prop) : qa_K := (qi_aload 0 (qi_oinit (qi_aload 0 (qi_iload 1 (qi_newa 1032 (1, 40) (qi_pp 2 32 (qi_vret (1, 40) Po)))))))
abbrev kS_Pk_init (l : Launch) (D : va_G) (E : Nat → ClassId) (B : Nat) (sc : qa_Z) (Po : Option Value → qa_M → Prop) (pc : Nat) (k : qa_K) : Prop := qa_S l "SealedRecords$Packet" prog_4_method_1_code 2 none true D E B rm_Pk_init sc (qa_Qf D E B rm_Pk_init Po) pc k
theorem ks_Pk_init_0 (l : Launch) (D : va_G) (E : Nat → ClassId) (B : Nat) (sc : qa_Z) (Po : Option Value → qa_M → Prop) : kS_Pk_init l D E B sc Po 0 (kc_Pk_init_0 Po) := (qs_aload_n kd_Pk_init_0 rfl (qs_oinit ww_17 ww_15 ww_16 (by decide) (by decide) kd_Pk_init_1 (qs_aload_n kd_Pk_init_4 rfl (qs_iload_n kd_Pk_init_5 rfl (qs_newa (κ := 1032) (t := 0) (at_ := .int) rfl (fun _ => rfl) (by decide) (by decide) (fun _ _ _ _ => by simp [qa_ac, q_at, qa_n_na, qa_ia_na, qa_ja_na]; rfl) ww_18 kd_Pk_init_6 (fp_32 rfl ww_19 kd_Pk_init_8 (qs_vret kd_Pk_init_11)))))))
def sp_Pk_init : qa_sp := fun args M Po => match args with
  | [.ref a0, .int a1] => kc_Pk_init_0 Po (0, 0) [some (.ref a0), some (.int a1)] [] M
  | _ => False
theorem ct_Pk_init (l : Launch) (sc : qa_Z) : qa_T l ym_Pk_init (Cond.code ym_Pk_init prog_4_method_1_code 2 none :: q_W0) rm_Pk_init sc (sp_Pk_init) := by
  intro D E B args M Po h
  unfold sp_Pk_init at h
  split at h
  · exact qa_ct (ini := true) (by decide) (by decide) (Nat.le_of_ble_eq_true rfl) (qa_lvok rfl) (ks_Pk_init_0 l D E B sc Po) h
  · exact h.elim
theorem kd_Rw_init_0 : decode prog_5_method_1_code 0 = .ok (.aload_n 0, 1) := by decide +kernel
theorem kd_Rw_init_1 : decode prog_5_method_1_code 1 = .ok (.invokespecial 1, 3) := by decide +kernel
theorem kd_Rw_init_4 : decode prog_5_method_1_code 4 = .ok (.aload_n 0, 1) := by decide +kernel
theorem kd_Rw_init_5 : decode prog_5_method_1_code 5 = .ok (.iload_n 1, 1) := by decide +kernel
theorem kd_Rw_init_6 : decode prog_5_method_1_code 6 = .ok (.anewarray 7, 3) := by decide +kernel
theorem kd_Rw_init_9 : decode prog_5_method_1_code 9 = .ok (.putfield 9, 3) := by decide +kernel
theorem kd_Rw_init_12 : decode prog_5_method_1_code 12 = .ok (.iconst 0, 1) := by decide +kernel
theorem kd_Rw_init_13 : decode prog_5_method_1_code 13 = .ok (.istore_n 3, 1) := by decide +kernel
theorem kd_Rw_init_14 : decode prog_5_method_1_code 14 = .ok (.iload_n 3, 1) := by decide +kernel
theorem kd_Rw_init_15 : decode prog_5_method_1_code 15 = .ok (.iload_n 1, 1) := by decide +kernel
theorem kd_Rw_init_16 : decode prog_5_method_1_code 16 = .ok (.if_icmp .ge 23, 3) := by decide +kernel
theorem kd_Rw_init_19 : decode prog_5_method_1_code 19 = .ok (.aload_n 0, 1) := by decide +kernel
theorem kd_Rw_init_20 : decode prog_5_method_1_code 20 = .ok (.getfield 9, 3) := by decide +kernel
theorem kd_Rw_init_23 : decode prog_5_method_1_code 23 = .ok (.iload_n 3, 1) := by decide +kernel
theorem kd_Rw_init_24 : decode prog_5_method_1_code 24 = .ok (.new 7, 3) := by decide +kernel
theorem kd_Rw_init_27 : decode prog_5_method_1_code 27 = .ok (.dup, 1) := by decide +kernel
theorem kd_Rw_init_28 : decode prog_5_method_1_code 28 = .ok (.iload_n 2, 1) := by decide +kernel
theorem kd_Rw_init_29 : decode prog_5_method_1_code 29 = .ok (.invokespecial 15, 3) := by decide +kernel
theorem kd_Rw_init_32 : decode prog_5_method_1_code 32 = .ok (.aastore, 1) := by decide +kernel
theorem kd_Rw_init_33 : decode prog_5_method_1_code 33 = .ok (.iinc 3 1, 3) := by decide +kernel
theorem kd_Rw_init_36 : decode prog_5_method_1_code 36 = .ok (.goto (-22), 3) := by decide +kernel
theorem kd_Rw_init_39 : decode prog_5_method_1_code 39 = .ok (.return_, 1) := by decide +kernel
def kb_Rw_init_14 (Po : Option Value → qa_M → Prop) (k14 : qa_K) : qa_K := (qi_iload 3 (qi_iload 1 (qi_icge (qi_vret (33, 704) Po) (qi_aload 0 (qi_gp 3 64 (qi_iload 3 (qi_new 2 3 (33, 704) (qi_dup (qi_iload 2 (qi_callm 2 (33, 704) (1, 40) sp_Pk_init (qi_aast 1064 2 (qi_iinc 3 (nI 1) k14))))))))))))
def kc_Rw_init_14 (Po : Option Value → qa_M → Prop) : qa_K := qi_loop (kb_Rw_init_14 Po)
def kc_Rw_init_0 (Po : Option Value → qa_M → Prop) : qa_K := (qi_aload 0 (qi_oinit (qi_aload 0 (qi_iload 1 (qi_anew 1064 (33, 704) (qi_pp 3 64 (qi_ic (nI 0) (qi_istore 3 (kc_Rw_init_14 Po)))))))))
abbrev kS_Rw_init (l : Launch) (D : va_G) (E : Nat → ClassId) (B : Nat) (sc : qa_Z) (Po : Option Value → qa_M → Prop) (pc : Nat) (k : qa_K) : Prop := qa_S l "SealedRecords$Row" prog_5_method_1_code 4 none true D E B rm_Rw_init sc (qa_Qf D E B rm_Rw_init Po) pc k
theorem kt_Rw_init_14 (l : Launch) (D : va_G) (E : Nat → ClassId) (B : Nat) (sc : qa_Z) (Po : Option Value → qa_M → Prop) {k14 : qa_K} (hk14 : kS_Rw_init l D E B sc Po 14 k14) : kS_Rw_init l D E B sc Po 14 (kb_Rw_init_14 Po k14) := (qs_iload_n kd_Rw_init_14 rfl (qs_iload_n kd_Rw_init_15 rfl (qs_icge (tgt := 39) kd_Rw_init_16 (by decide) (qs_vret kd_Rw_init_39) (qs_aload_n kd_Rw_init_19 rfl (fg_64 ww_20 kd_Rw_init_20 (qs_iload_n kd_Rw_init_23 rfl (fn_1 ww_21 kd_Rw_init_24 (qs_dup kd_Rw_init_27 (qs_iload_n kd_Rw_init_28 rfl (qs_callc (ct_Pk_init l sc) ww_22 (by decide) (1, 40) (by decide) ww_23 ww_24 ww_3 rfl yd_Pk_init kd_Rw_init_29 (qs_aast (κ := 1064) (t := 1) (ci := 1) rfl rfl (fun _ => rfl) (by decide) kd_Rw_init_32 (qs_iinc kd_Rw_init_33 (by decide) (by decide) (qs_goto (tgt := 14) kd_Rw_init_36 (by decide) hk14)))))))))))))
theorem ks_Rw_init_14 (l : Launch) (D : va_G) (E : Nat → ClassId) (B : Nat) (sc : qa_Z) (Po : Option Value → qa_M → Prop) : kS_Rw_init l D E B sc Po 14 (kc_Rw_init_14 Po) := qs_loop fun k14 hk14 => kt_Rw_init_14 l D E B sc Po hk14
theorem ks_Rw_init_0 (l : Launch) (D : va_G) (E : Nat → ClassId) (B : Nat) (sc : qa_Z) (Po : Option Value → qa_M → Prop) : kS_Rw_init l D E B sc Po 0 (kc_Rw_init_0 Po) := (qs_aload_n kd_Rw_init_0 rfl (qs_oinit ww_25 ww_15 ww_16 (by decide) (by decide) kd_Rw_init_1 (qs_aload_n kd_Rw_init_4 rfl (qs_iload_n kd_Rw_init_5 rfl (qs_anew (κ := 1064) (t := 1) rfl (fun _ => rfl) (by decide) ww_21 (by decide) kd_Rw_init_6 (fp_64 rfl ww_20 kd_Rw_init_9 (qs_iconst kd_Rw_init_12 (by decide) (qs_istore_n kd_Rw_init_13 rfl (by decide) (ks_Rw_init_14 l D E B sc Po)))))))))
def sp_Rw_init : qa_sp := fun args M Po => match args with
  | [.ref a0, .int a1, .int a2] => kc_Rw_init_0 Po (0, 0) [some (.ref a0), some (.int a1), some (.int a2), none] [] M
  | _ => False
theorem ct_Rw_init (l : Launch) (sc : qa_Z) : qa_T l ym_Rw_init (Cond.code ym_Rw_init prog_5_method_1_code 4 none :: q_W0) rm_Rw_init sc (sp_Rw_init) := by
  intro D E B args M Po h
  unfold sp_Rw_init at h
  split at h
  · exact qa_ct (ini := true) (by decide) (by decide) (Nat.le_of_ble_eq_true rfl) (qa_lvok rfl) (ks_Rw_init_0 l D E B sc Po) h
  · exact h.elim
theorem kd_Ms_init_0 : decode prog_3_method_1_code 0 = .ok (.aload_n 0, 1) := by decide +kernel
theorem kd_Ms_init_1 : decode prog_3_method_1_code 1 = .ok (.invokespecial 1, 3) := by decide +kernel
theorem kd_Ms_init_4 : decode prog_3_method_1_code 4 = .ok (.return_, 1) := by decide +kernel
def kc_Ms_init_0 (Po : Option Value → qa_M → Prop) : qa_K := (qi_aload 0 (qi_oinit (qi_vret (0, 0) Po)))
abbrev kS_Ms_init (l : Launch) (D : va_G) (E : Nat → ClassId) (B : Nat) (sc : qa_Z) (Po : Option Value → qa_M → Prop) (pc : Nat) (k : qa_K) : Prop := qa_S l "SealedRecords$Messages" prog_3_method_1_code 1 none true D E B rm_Ms_init sc (qa_Qf D E B rm_Ms_init Po) pc k
theorem ks_Ms_init_0 (l : Launch) (D : va_G) (E : Nat → ClassId) (B : Nat) (sc : qa_Z) (Po : Option Value → qa_M → Prop) : kS_Ms_init l D E B sc Po 0 (kc_Ms_init_0 Po) := (qs_aload_n kd_Ms_init_0 rfl (qs_oinit ww_26 ww_15 ww_16 (by decide) (by decide) kd_Ms_init_1 (qs_vret kd_Ms_init_4)))
def sp_Ms_init : qa_sp := fun args M Po => match args with
  | [.ref a0] => kc_Ms_init_0 Po (0, 0) [some (.ref a0)] [] M
  | _ => False
theorem ct_Ms_init (l : Launch) (sc : qa_Z) : qa_T l ym_Ms_init (Cond.code ym_Ms_init prog_3_method_1_code 1 none :: q_W0) rm_Ms_init sc (sp_Ms_init) := by
  intro D E B args M Po h
  unfold sp_Ms_init at h
  split at h
  · exact qa_ct (ini := true) (by decide) (by decide) (Nat.le_of_ble_eq_true rfl) (qa_lvok rfl) (ks_Ms_init_0 l D E B sc Po) h
  · exact h.elim
theorem kd_En_init_0 : decode prog_2_method_1_code 0 = .ok (.aload_n 0, 1) := by decide +kernel
theorem kd_En_init_1 : decode prog_2_method_1_code 1 = .ok (.invokespecial 3, 3) := by decide +kernel
theorem kd_En_init_4 : decode prog_2_method_1_code 4 = .ok (.aload_n 0, 1) := by decide +kernel
theorem kd_En_init_5 : decode prog_2_method_1_code 5 = .ok (.new 9, 3) := by decide +kernel
theorem kd_En_init_8 : decode prog_2_method_1_code 8 = .ok (.dup, 1) := by decide +kernel
theorem kd_En_init_9 : decode prog_2_method_1_code 9 = .ok (.invokespecial 11, 3) := by decide +kernel
theorem kd_En_init_12 : decode prog_2_method_1_code 12 = .ok (.putfield 12, 3) := by decide +kernel
theorem kd_En_init_15 : decode prog_2_method_1_code 15 = .ok (.aload_n 0, 1) := by decide +kernel
theorem kd_En_init_16 : decode prog_2_method_1_code 16 = .ok (.new 9, 3) := by decide +kernel
theorem kd_En_init_19 : decode prog_2_method_1_code 19 = .ok (.dup, 1) := by decide +kernel
theorem kd_En_init_20 : decode prog_2_method_1_code 20 = .ok (.invokespecial 11, 3) := by decide +kernel
theorem kd_En_init_23 : decode prog_2_method_1_code 23 = .ok (.putfield 18, 3) := by decide +kernel
theorem kd_En_init_26 : decode prog_2_method_1_code 26 = .ok (.aload_n 0, 1) := by decide +kernel
theorem kd_En_init_27 : decode prog_2_method_1_code 27 = .ok (.new 21, 3) := by decide +kernel
theorem kd_En_init_30 : decode prog_2_method_1_code 30 = .ok (.dup, 1) := by decide +kernel
theorem kd_En_init_31 : decode prog_2_method_1_code 31 = .ok (.bipush 16, 2) := by decide +kernel
theorem kd_En_init_33 : decode prog_2_method_1_code 33 = .ok (.invokespecial 23, 3) := by decide +kernel
theorem kd_En_init_36 : decode prog_2_method_1_code 36 = .ok (.putfield 26, 3) := by decide +kernel
theorem kd_En_init_39 : decode prog_2_method_1_code 39 = .ok (.aload_n 0, 1) := by decide +kernel
theorem kd_En_init_40 : decode prog_2_method_1_code 40 = .ok (.new 30, 3) := by decide +kernel
theorem kd_En_init_43 : decode prog_2_method_1_code 43 = .ok (.dup, 1) := by decide +kernel
theorem kd_En_init_44 : decode prog_2_method_1_code 44 = .ok (.bipush 12, 2) := by decide +kernel
theorem kd_En_init_46 : decode prog_2_method_1_code 46 = .ok (.bipush 40, 2) := by decide +kernel
theorem kd_En_init_48 : decode prog_2_method_1_code 48 = .ok (.invokespecial 32, 3) := by decide +kernel
theorem kd_En_init_51 : decode prog_2_method_1_code 51 = .ok (.putfield 35, 3) := by decide +kernel
theorem kd_En_init_54 : decode prog_2_method_1_code 54 = .ok (.aload_n 0, 1) := by decide +kernel
theorem kd_En_init_55 : decode prog_2_method_1_code 55 = .ok (.new 30, 3) := by decide +kernel
theorem kd_En_init_58 : decode prog_2_method_1_code 58 = .ok (.dup, 1) := by decide +kernel
theorem kd_En_init_59 : decode prog_2_method_1_code 59 = .ok (.bipush 16, 2) := by decide +kernel
theorem kd_En_init_61 : decode prog_2_method_1_code 61 = .ok (.bipush 16, 2) := by decide +kernel
theorem kd_En_init_63 : decode prog_2_method_1_code 63 = .ok (.invokespecial 32, 3) := by decide +kernel
theorem kd_En_init_66 : decode prog_2_method_1_code 66 = .ok (.putfield 39, 3) := by decide +kernel
theorem kd_En_init_69 : decode prog_2_method_1_code 69 = .ok (.aload_n 0, 1) := by decide +kernel
theorem kd_En_init_70 : decode prog_2_method_1_code 70 = .ok (.new 42, 3) := by decide +kernel
theorem kd_En_init_73 : decode prog_2_method_1_code 73 = .ok (.dup, 1) := by decide +kernel
theorem kd_En_init_74 : decode prog_2_method_1_code 74 = .ok (.invokespecial 44, 3) := by decide +kernel
theorem kd_En_init_77 : decode prog_2_method_1_code 77 = .ok (.putfield 45, 3) := by decide +kernel
theorem kd_En_init_80 : decode prog_2_method_1_code 80 = .ok (.aload_n 0, 1) := by decide +kernel
theorem kd_En_init_81 : decode prog_2_method_1_code 81 = .ok (.new 42, 3) := by decide +kernel
theorem kd_En_init_84 : decode prog_2_method_1_code 84 = .ok (.dup, 1) := by decide +kernel
theorem kd_En_init_85 : decode prog_2_method_1_code 85 = .ok (.invokespecial 44, 3) := by decide +kernel
theorem kd_En_init_88 : decode prog_2_method_1_code 88 = .ok (.putfield 49, 3) := by decide +kernel
theorem kd_En_init_91 : decode prog_2_method_1_code 91 = .ok (.aload_n 0, 1) := by decide +kernel
theorem kd_En_init_92 : decode prog_2_method_1_code 92 = .ok (.new 21, 3) := by decide +kernel
theorem kd_En_init_95 : decode prog_2_method_1_code 95 = .ok (.dup, 1) := by decide +kernel
theorem kd_En_init_96 : decode prog_2_method_1_code 96 = .ok (.bipush 17, 2) := by decide +kernel
theorem kd_En_init_98 : decode prog_2_method_1_code 98 = .ok (.invokespecial 23, 3) := by decide +kernel
theorem kd_En_init_101 : decode prog_2_method_1_code 101 = .ok (.putfield 52, 3) := by decide +kernel
theorem kd_En_init_104 : decode prog_2_method_1_code 104 = .ok (.aload_n 0, 1) := by decide +kernel
theorem kd_En_init_105 : decode prog_2_method_1_code 105 = .ok (.iconst (-1), 1) := by decide +kernel
theorem kd_En_init_106 : decode prog_2_method_1_code 106 = .ok (.putfield 55, 3) := by decide +kernel
theorem kd_En_init_109 : decode prog_2_method_1_code 109 = .ok (.aload_n 0, 1) := by decide +kernel
theorem kd_En_init_110 : decode prog_2_method_1_code 110 = .ok (.iload_n 1, 1) := by decide +kernel
theorem kd_En_init_111 : decode prog_2_method_1_code 111 = .ok (.putfield 59, 3) := by decide +kernel
theorem kd_En_init_114 : decode prog_2_method_1_code 114 = .ok (.return_, 1) := by decide +kernel
def kc_En_init_0 (Po : Option Value → qa_M → Prop) : qa_K := (qi_aload 0 (qi_oinit (qi_aload 0 (qi_new 4 4 (76, 1512) (qi_dup (qi_callm 1 (76, 1512) (0, 0) sp_Sd_init (qi_pp 6 161 (qi_aload 0 (qi_new 4 4 (76, 1512) (qi_dup (qi_callm 1 (76, 1512) (0, 0) sp_Sd_init (qi_pp 6 162 (qi_aload 0 (qi_new 2 3 (76, 1512) (qi_dup (qi_ic (nI 16) (qi_callm 2 (76, 1512) (1, 40) sp_Pk_init (qi_pp 6 163 (qi_aload 0 (qi_new 3 2 (76, 1512) (qi_dup (qi_ic (nI 12) (qi_ic (nI 40) (qi_callm 3 (76, 1512) (33, 704) sp_Rw_init (qi_pp 6 164 (qi_aload 0 (qi_new 3 2 (76, 1512) (qi_dup (qi_ic (nI 16) (qi_ic (nI 16) (qi_callm 3 (76, 1512) (33, 704) sp_Rw_init (qi_pp 6 165 (qi_aload 0 (qi_new 5 3 (76, 1512) (qi_dup (qi_callm 1 (76, 1512) (0, 0) sp_Ms_init (qi_pp 6 166 (qi_aload 0 (qi_new 5 3 (76, 1512) (qi_dup (qi_callm 1 (76, 1512) (0, 0) sp_Ms_init (qi_pp 6 167 (qi_aload 0 (qi_new 2 3 (76, 1512) (qi_dup (qi_ic (nI 17) (qi_callm 2 (76, 1512) (1, 40) sp_Pk_init (qi_pp 6 168 (qi_aload 0 (qi_ic (-1) (qi_pi 6 171 (qi_aload 0 (qi_iload 1 (qi_pi 6 160 (qi_vret (76, 1512) Po)))))))))))))))))))))))))))))))))))))))))))))))))))))))
abbrev kS_En_init (l : Launch) (D : va_G) (E : Nat → ClassId) (B : Nat) (sc : qa_Z) (Po : Option Value → qa_M → Prop) (pc : Nat) (k : qa_K) : Prop := qa_S l "SealedRecords$End" prog_2_method_1_code 2 none true D E B rm_En_init sc (qa_Qf D E B rm_En_init Po) pc k
theorem ks_En_init_0 (l : Launch) (D : va_G) (E : Nat → ClassId) (B : Nat) (sc : qa_Z) (Po : Option Value → qa_M → Prop) : kS_En_init l D E B sc Po 0 (kc_En_init_0 Po) := (qs_aload_n kd_En_init_0 rfl (qs_oinit ww_27 ww_15 ww_16 (by decide) (by decide) kd_En_init_1 (qs_aload_n kd_En_init_4 rfl (fn_3 ww_28 kd_En_init_5 (qs_dup kd_En_init_8 (qs_callk (ct_Sd_init l sc) ww_29 (by decide) (0, 0) (by decide) ww_30 ww_31 ww_7 rfl yd_Sd_init kd_En_init_9 (fp_161 rfl ww_32 kd_En_init_12 (qs_aload_n kd_En_init_15 rfl (fn_3 ww_28 kd_En_init_16 (qs_dup kd_En_init_19 (qs_callk (ct_Sd_init l sc) ww_29 (by decide) (0, 0) (by decide) ww_30 ww_31 ww_7 rfl yd_Sd_init kd_En_init_20 (fp_162 rfl ww_33 kd_En_init_23 (qs_aload_n kd_En_init_26 rfl (fn_1 ww_34 kd_En_init_27 (qs_dup kd_En_init_30 (qs_bipush kd_En_init_31 (by decide) (qs_callc (ct_Pk_init l sc) ww_22 (by decide) (1, 40) (by decide) ww_35 ww_24 ww_3 rfl yd_Pk_init kd_En_init_33 (fp_163 rfl ww_36 kd_En_init_36 (qs_aload_n kd_En_init_39 rfl (fn_2 ww_37 kd_En_init_40 (qs_dup kd_En_init_43 (qs_bipush kd_En_init_44 (by decide) (qs_bipush kd_En_init_46 (by decide) (qs_callc (ct_Rw_init l sc) ww_38 (by decide) (33, 704) (by decide) ww_39 ww_40 ww_5 rfl yd_Rw_init kd_En_init_48 (fp_164 rfl ww_41 kd_En_init_51 (qs_aload_n kd_En_init_54 rfl (fn_2 ww_37 kd_En_init_55 (qs_dup kd_En_init_58 (qs_bipush kd_En_init_59 (by decide) (qs_bipush kd_En_init_61 (by decide) (qs_callc (ct_Rw_init l sc) ww_38 (by decide) (33, 704) (by decide) ww_39 ww_40 ww_5 rfl yd_Rw_init kd_En_init_63 (fp_165 rfl ww_42 kd_En_init_66 (qs_aload_n kd_En_init_69 rfl (fn_4 ww_43 kd_En_init_70 (qs_dup kd_En_init_73 (qs_callk (ct_Ms_init l sc) ww_44 (by decide) (0, 0) (by decide) ww_45 ww_46 ww_9 rfl yd_Ms_init kd_En_init_74 (fp_166 rfl ww_47 kd_En_init_77 (qs_aload_n kd_En_init_80 rfl (fn_4 ww_43 kd_En_init_81 (qs_dup kd_En_init_84 (qs_callk (ct_Ms_init l sc) ww_44 (by decide) (0, 0) (by decide) ww_45 ww_46 ww_9 rfl yd_Ms_init kd_En_init_85 (fp_167 rfl ww_48 kd_En_init_88 (qs_aload_n kd_En_init_91 rfl (fn_1 ww_34 kd_En_init_92 (qs_dup kd_En_init_95 (qs_bipush kd_En_init_96 (by decide) (qs_callc (ct_Pk_init l sc) ww_22 (by decide) (1, 40) (by decide) ww_35 ww_24 ww_3 rfl yd_Pk_init kd_En_init_98 (fp_168 rfl ww_49 kd_En_init_101 (qs_aload_n kd_En_init_104 rfl (qs_iconst kd_En_init_105 (by decide) (fp_171 ww_50 kd_En_init_106 (qs_aload_n kd_En_init_109 rfl (qs_iload_n kd_En_init_110 rfl (fp_160 rfl ww_51 kd_En_init_111 (qs_vret kd_En_init_114)))))))))))))))))))))))))))))))))))))))))))))))))))))))
def sp_En_init : qa_sp := fun args M Po => match args with
  | [.ref a0, .int a1] => kc_En_init_0 Po (0, 0) [some (.ref a0), some (.int a1)] [] M
  | _ => False
theorem ct_En_init (l : Launch) (sc : qa_Z) : qa_T l ym_En_init (Cond.code ym_En_init prog_2_method_1_code 2 none :: q_W0) rm_En_init sc (sp_En_init) := by
  intro D E B args M Po h
  unfold sp_En_init at h
  split at h
  · exact qa_ct (ini := true) (by decide) (by decide) (Nat.le_of_ble_eq_true rfl) (qa_lvok rfl) (ks_En_init_0 l D E B sc Po) h
  · exact h.elim
theorem kd_SR_init_0 : decode prog_1_method_1_code 0 = .ok (.aload_n 0, 1) := by decide +kernel
theorem kd_SR_init_1 : decode prog_1_method_1_code 1 = .ok (.invokespecial 3, 3) := by decide +kernel
theorem kd_SR_init_4 : decode prog_1_method_1_code 4 = .ok (.aload_n 0, 1) := by decide +kernel
theorem kd_SR_init_5 : decode prog_1_method_1_code 5 = .ok (.iload_n 1, 1) := by decide +kernel
theorem kd_SR_init_6 : decode prog_1_method_1_code 6 = .ok (.iconst 1, 1) := by decide +kernel
theorem kd_SR_init_7 : decode prog_1_method_1_code 7 = .ok (.if_icmp .lt 14, 3) := by decide +kernel
theorem kd_SR_init_10 : decode prog_1_method_1_code 10 = .ok (.iload_n 1, 1) := by decide +kernel
theorem kd_SR_init_11 : decode prog_1_method_1_code 11 = .ok (.sipush 1000, 3) := by decide +kernel
theorem kd_SR_init_14 : decode prog_1_method_1_code 14 = .ok (.if_icmp .gt 7, 3) := by decide +kernel
theorem kd_SR_init_17 : decode prog_1_method_1_code 17 = .ok (.iload_n 1, 1) := by decide +kernel
theorem kd_SR_init_18 : decode prog_1_method_1_code 18 = .ok (.goto 5, 3) := by decide +kernel
theorem kd_SR_init_21 : decode prog_1_method_1_code 21 = .ok (.bipush 100, 2) := by decide +kernel
theorem kd_SR_init_23 : decode prog_1_method_1_code 23 = .ok (.putfield 9, 3) := by decide +kernel
theorem kd_SR_init_26 : decode prog_1_method_1_code 26 = .ok (.aload_n 0, 1) := by decide +kernel
theorem kd_SR_init_27 : decode prog_1_method_1_code 27 = .ok (.iconst 2, 1) := by decide +kernel
theorem kd_SR_init_28 : decode prog_1_method_1_code 28 = .ok (.anewarray 13, 3) := by decide +kernel
theorem kd_SR_init_31 : decode prog_1_method_1_code 31 = .ok (.dup, 1) := by decide +kernel
theorem kd_SR_init_32 : decode prog_1_method_1_code 32 = .ok (.iconst 0, 1) := by decide +kernel
theorem kd_SR_init_33 : decode prog_1_method_1_code 33 = .ok (.new 13, 3) := by decide +kernel
theorem kd_SR_init_36 : decode prog_1_method_1_code 36 = .ok (.dup, 1) := by decide +kernel
theorem kd_SR_init_37 : decode prog_1_method_1_code 37 = .ok (.iconst 0, 1) := by decide +kernel
theorem kd_SR_init_38 : decode prog_1_method_1_code 38 = .ok (.invokespecial 15, 3) := by decide +kernel
theorem kd_SR_init_41 : decode prog_1_method_1_code 41 = .ok (.aastore, 1) := by decide +kernel
theorem kd_SR_init_42 : decode prog_1_method_1_code 42 = .ok (.dup, 1) := by decide +kernel
theorem kd_SR_init_43 : decode prog_1_method_1_code 43 = .ok (.iconst 1, 1) := by decide +kernel
theorem kd_SR_init_44 : decode prog_1_method_1_code 44 = .ok (.new 13, 3) := by decide +kernel
theorem kd_SR_init_47 : decode prog_1_method_1_code 47 = .ok (.dup, 1) := by decide +kernel
theorem kd_SR_init_48 : decode prog_1_method_1_code 48 = .ok (.iconst 1, 1) := by decide +kernel
theorem kd_SR_init_49 : decode prog_1_method_1_code 49 = .ok (.invokespecial 15, 3) := by decide +kernel
theorem kd_SR_init_52 : decode prog_1_method_1_code 52 = .ok (.aastore, 1) := by decide +kernel
theorem kd_SR_init_53 : decode prog_1_method_1_code 53 = .ok (.putfield 18, 3) := by decide +kernel
theorem kd_SR_init_56 : decode prog_1_method_1_code 56 = .ok (.return_, 1) := by decide +kernel
def kc_SR_init_23 (Po : Option Value → qa_M → Prop) : qa_K := (qi_pi 1 0 (qi_aload 0 (qi_ic (nI 2) (qi_anew 1001 (155, 3052) (qi_dup (qi_ic (nI 0) (qi_new 6 13 (155, 3052) (qi_dup (qi_ic (nI 0) (qi_callm 2 (155, 3052) (76, 1512) sp_En_init (qi_aast 1001 6 (qi_dup (qi_ic (nI 1) (qi_new 6 13 (155, 3052) (qi_dup (qi_ic (nI 1) (qi_callm 2 (155, 3052) (76, 1512) sp_En_init (qi_aast 1001 6 (qi_pp 1 1 (qi_vret (155, 3052) Po))))))))))))))))))))
def kc_SR_init_21 (Po : Option Value → qa_M → Prop) : qa_K := (qi_ic (nI 100) (kc_SR_init_23 Po))
def kc_SR_init_0 (Po : Option Value → qa_M → Prop) : qa_K := (qi_aload 0 (qi_oinit (qi_aload 0 (qi_iload 1 (qi_ic (nI 1) (qi_iclt (kc_SR_init_21 Po) (qi_iload 1 (qi_ic (nI 1000) (qi_icgt (kc_SR_init_21 Po) (qi_iload 1 (kc_SR_init_23 Po)))))))))))
abbrev kS_SR_init (l : Launch) (D : va_G) (E : Nat → ClassId) (B : Nat) (sc : qa_Z) (Po : Option Value → qa_M → Prop) (pc : Nat) (k : qa_K) : Prop := qa_S l "SealedRecords" prog_1_method_1_code 2 none true D E B rm_SR_init sc (qa_Qf D E B rm_SR_init Po) pc k
theorem ks_SR_init_23 (l : Launch) (D : va_G) (E : Nat → ClassId) (B : Nat) (sc : qa_Z) (Po : Option Value → qa_M → Prop) : kS_SR_init l D E B sc Po 23 (kc_SR_init_23 Po) := (fp_0 rfl ww_52 kd_SR_init_23 (qs_aload_n kd_SR_init_26 rfl (qs_iconst kd_SR_init_27 (by decide) (qs_anew (κ := 1001) (t := 0) rfl (fun _ => rfl) (by decide) ww_53 (by decide) kd_SR_init_28 (qs_dup kd_SR_init_31 (qs_iconst kd_SR_init_32 (by decide) (fn_5 ww_53 kd_SR_init_33 (qs_dup kd_SR_init_36 (qs_iconst kd_SR_init_37 (by decide) (qs_callc (ct_En_init l sc) ww_54 (by decide) (76, 1512) (by decide) ww_55 ww_56 ww_11 rfl yd_En_init kd_SR_init_38 (qs_aast (κ := 1001) (t := 0) (ci := 5) rfl rfl (fun _ => rfl) (by decide) kd_SR_init_41 (qs_dup kd_SR_init_42 (qs_iconst kd_SR_init_43 (by decide) (fn_5 ww_53 kd_SR_init_44 (qs_dup kd_SR_init_47 (qs_iconst kd_SR_init_48 (by decide) (qs_callc (ct_En_init l sc) ww_54 (by decide) (76, 1512) (by decide) ww_55 ww_56 ww_11 rfl yd_En_init kd_SR_init_49 (qs_aast (κ := 1001) (t := 0) (ci := 5) rfl rfl (fun _ => rfl) (by decide) kd_SR_init_52 (fp_1 rfl ww_57 kd_SR_init_53 (qs_vret kd_SR_init_56))))))))))))))))))))
theorem ks_SR_init_21 (l : Launch) (D : va_G) (E : Nat → ClassId) (B : Nat) (sc : qa_Z) (Po : Option Value → qa_M → Prop) : kS_SR_init l D E B sc Po 21 (kc_SR_init_21 Po) := (qs_bipush kd_SR_init_21 (by decide) (ks_SR_init_23 l D E B sc Po))
theorem ks_SR_init_0 (l : Launch) (D : va_G) (E : Nat → ClassId) (B : Nat) (sc : qa_Z) (Po : Option Value → qa_M → Prop) : kS_SR_init l D E B sc Po 0 (kc_SR_init_0 Po) := (qs_aload_n kd_SR_init_0 rfl (qs_oinit ww_58 ww_15 ww_16 (by decide) (by decide) kd_SR_init_1 (qs_aload_n kd_SR_init_4 rfl (qs_iload_n kd_SR_init_5 rfl (qs_iconst kd_SR_init_6 (by decide) (qs_iclt (tgt := 21) kd_SR_init_7 (by decide) (ks_SR_init_21 l D E B sc Po) (qs_iload_n kd_SR_init_10 rfl (qs_sipush kd_SR_init_11 (by decide) (qs_icgt (tgt := 21) kd_SR_init_14 (by decide) (ks_SR_init_21 l D E B sc Po) (qs_iload_n kd_SR_init_17 rfl (qs_goto (tgt := 23) kd_SR_init_18 (by decide) (ks_SR_init_23 l D E B sc Po))))))))))))
def sp_SR_init : qa_sp := fun args M Po => match args with
  | [.ref a0, .int a1] => kc_SR_init_0 Po (0, 0) [some (.ref a0), some (.int a1)] [] M
  | _ => False
theorem ct_SR_init (l : Launch) (sc : qa_Z) : qa_T l ym_SR_init (Cond.code ym_SR_init prog_1_method_1_code 2 none :: q_W0) rm_SR_init sc (sp_SR_init) := by
  intro D E B args M Po h
  unfold sp_SR_init at h
  split at h
  · exact qa_ct (ini := true) (by decide) (by decide) (Nat.le_of_ble_eq_true rfl) (qa_lvok rfl) (ks_SR_init_0 l D E B sc Po) h
  · exact h.elim
theorem kd_SR_isEnd_0 : decode prog_1_method_21_code 0 = .ok (.iload_n 0, 1) := by decide +kernel
theorem kd_SR_isEnd_1 : decode prog_1_method_21_code 1 = .ok (.ifCond .eq 8, 3) := by decide +kernel
theorem kd_SR_isEnd_4 : decode prog_1_method_21_code 4 = .ok (.iload_n 0, 1) := by decide +kernel
theorem kd_SR_isEnd_5 : decode prog_1_method_21_code 5 = .ok (.iconst 1, 1) := by decide +kernel
theorem kd_SR_isEnd_6 : decode prog_1_method_21_code 6 = .ok (.if_icmp .ne 7, 3) := by decide +kernel
theorem kd_SR_isEnd_9 : decode prog_1_method_21_code 9 = .ok (.iconst 1, 1) := by decide +kernel
theorem kd_SR_isEnd_10 : decode prog_1_method_21_code 10 = .ok (.goto 4, 3) := by decide +kernel
theorem kd_SR_isEnd_13 : decode prog_1_method_21_code 13 = .ok (.iconst 0, 1) := by decide +kernel
theorem kd_SR_isEnd_14 : decode prog_1_method_21_code 14 = .ok (.ireturn, 1) := by decide +kernel
def kc_SR_isEnd_14 (Po : Option Value → qa_M → Prop) : qa_K := (qi_zret (0, 0) Po)
def kc_SR_isEnd_9 (Po : Option Value → qa_M → Prop) : qa_K := (qi_ic (nI 1) (kc_SR_isEnd_14 Po))
def kc_SR_isEnd_0 (Po : Option Value → qa_M → Prop) : qa_K := (qi_iload 0 (qi_ifeq (kc_SR_isEnd_9 Po) (qi_iload 0 (qi_ic (nI 1) (qi_icne (qi_ic (nI 0) (kc_SR_isEnd_14 Po)) (kc_SR_isEnd_9 Po))))))
abbrev kS_SR_isEnd (l : Launch) (D : va_G) (E : Nat → ClassId) (B : Nat) (sc : qa_Z) (Po : Option Value → qa_M → Prop) (pc : Nat) (k : qa_K) : Prop := qa_S l "SealedRecords" prog_1_method_21_code 1 (some .boolean) false D E B rm_SR_isEnd sc (qa_Qf D E B rm_SR_isEnd Po) pc k
theorem ks_SR_isEnd_14 (l : Launch) (D : va_G) (E : Nat → ClassId) (B : Nat) (sc : qa_Z) (Po : Option Value → qa_M → Prop) : kS_SR_isEnd l D E B sc Po 14 (kc_SR_isEnd_14 Po) := (qs_zret kd_SR_isEnd_14)
theorem ks_SR_isEnd_9 (l : Launch) (D : va_G) (E : Nat → ClassId) (B : Nat) (sc : qa_Z) (Po : Option Value → qa_M → Prop) : kS_SR_isEnd l D E B sc Po 9 (kc_SR_isEnd_9 Po) := (qs_iconst kd_SR_isEnd_9 (by decide) (qs_goto (tgt := 14) kd_SR_isEnd_10 (by decide) (ks_SR_isEnd_14 l D E B sc Po)))
theorem ks_SR_isEnd_0 (l : Launch) (D : va_G) (E : Nat → ClassId) (B : Nat) (sc : qa_Z) (Po : Option Value → qa_M → Prop) : kS_SR_isEnd l D E B sc Po 0 (kc_SR_isEnd_0 Po) := (qs_iload_n kd_SR_isEnd_0 rfl (qs_ifeq (tgt := 9) kd_SR_isEnd_1 (by decide) (ks_SR_isEnd_9 l D E B sc Po) (qs_iload_n kd_SR_isEnd_4 rfl (qs_iconst kd_SR_isEnd_5 (by decide) (qs_icne (tgt := 13) kd_SR_isEnd_6 (by decide) (qs_iconst kd_SR_isEnd_13 (by decide) (ks_SR_isEnd_14 l D E B sc Po)) (ks_SR_isEnd_9 l D E B sc Po))))))
def sp_SR_isEnd : qa_sp := fun args M Po => match args with
  | [.int a1] => kc_SR_isEnd_0 Po (0, 0) [some (.int a1)] [] M
  | _ => False
theorem ct_SR_isEnd (l : Launch) (sc : qa_Z) : qa_T l ym_SR_isEnd (Cond.code ym_SR_isEnd prog_1_method_21_code 1 (some .boolean) :: q_W0) rm_SR_isEnd sc (sp_SR_isEnd) := by
  intro D E B args M Po h
  unfold sp_SR_isEnd at h
  split at h
  · exact qa_ct (ini := false) (by decide) (by decide) (Nat.le_of_ble_eq_true rfl) (qa_lvok rfl) (ks_SR_isEnd_0 l D E B sc Po) h
  · exact h.elim
theorem kd_SR_mix_0 : decode prog_1_method_24_code 0 = .ok (.lload_n 0, 1) := by decide +kernel
theorem kd_SR_mix_1 : decode prog_1_method_24_code 1 = .ok (.lload_n 2, 1) := by decide +kernel
theorem kd_SR_mix_2 : decode prog_1_method_24_code 2 = .ok (.lxor, 1) := by decide +kernel
theorem kd_SR_mix_3 : decode prog_1_method_24_code 3 = .ok (.ldc2_w 169, 3) := by decide +kernel
theorem kd_SR_mix_6 : decode prog_1_method_24_code 6 = .ok (.lmul, 1) := by decide +kernel
theorem kd_SR_mix_7 : decode prog_1_method_24_code 7 = .ok (.ldc2_w 171, 3) := by decide +kernel
theorem kd_SR_mix_10 : decode prog_1_method_24_code 10 = .ok (.ladd, 1) := by decide +kernel
theorem kd_SR_mix_11 : decode prog_1_method_24_code 11 = .ok (.lstore 4, 2) := by decide +kernel
theorem kd_SR_mix_13 : decode prog_1_method_24_code 13 = .ok (.lload 4, 2) := by decide +kernel
theorem kd_SR_mix_15 : decode prog_1_method_24_code 15 = .ok (.lload 4, 2) := by decide +kernel
theorem kd_SR_mix_17 : decode prog_1_method_24_code 17 = .ok (.bipush 29, 2) := by decide +kernel
theorem kd_SR_mix_19 : decode prog_1_method_24_code 19 = .ok (.lushr, 1) := by decide +kernel
theorem kd_SR_mix_20 : decode prog_1_method_24_code 20 = .ok (.lxor, 1) := by decide +kernel
theorem kd_SR_mix_21 : decode prog_1_method_24_code 21 = .ok (.lreturn, 1) := by decide +kernel
def kc_SR_mix_0 (Po : Option Value → qa_M → Prop) : qa_K := (qi_lload 0 (qi_lload 2 (qi_lxor (qi_lc 6364136223846793005 (qi_lmul (qi_lc 1442695040888963407 (qi_ladd (qi_lstore 4 (qi_lload 4 (qi_lload 4 (qi_ic (nI 29) (qi_lushr (qi_lxor (qi_lret (0, 0) Po))))))))))))))
abbrev kS_SR_mix (l : Launch) (D : va_G) (E : Nat → ClassId) (B : Nat) (sc : qa_Z) (Po : Option Value → qa_M → Prop) (pc : Nat) (k : qa_K) : Prop := qa_S l "SealedRecords" prog_1_method_24_code 6 (some .long) false D E B rm_SR_mix sc (qa_Qf D E B rm_SR_mix Po) pc k
theorem ks_SR_mix_0 (l : Launch) (D : va_G) (E : Nat → ClassId) (B : Nat) (sc : qa_Z) (Po : Option Value → qa_M → Prop) : kS_SR_mix l D E B sc Po 0 (kc_SR_mix_0 Po) := (qs_lload_n kd_SR_mix_0 rfl (qs_lload_n kd_SR_mix_1 rfl (qs_lxor kd_SR_mix_2 (qs_ldc2 ww_59 kd_SR_mix_3 (qs_lmul kd_SR_mix_6 (qs_ldc2 ww_60 kd_SR_mix_7 (qs_ladd kd_SR_mix_10 (qs_lstore kd_SR_mix_11 (by decide) (qs_lload kd_SR_mix_13 (qs_lload kd_SR_mix_15 (qs_bipush kd_SR_mix_17 (by decide) (qs_lushr kd_SR_mix_19 (qs_lxor kd_SR_mix_20 (qs_lret kd_SR_mix_21))))))))))))))
def sp_SR_mix : qa_sp := fun args M Po => match args with
  | [.long a1, .long a2] => kc_SR_mix_0 Po (0, 0) [some (.long a1), none, some (.long a2), none, none, none] [] M
  | _ => False
theorem ct_SR_mix (l : Launch) (sc : qa_Z) : qa_T l ym_SR_mix (Cond.code ym_SR_mix prog_1_method_24_code 6 (some .long) :: q_W0) rm_SR_mix sc (sp_SR_mix) := by
  intro D E B args M Po h
  unfold sp_SR_mix at h
  split at h
  · exact qa_ct (ini := false) (by decide) (by decide) (Nat.le_of_ble_eq_true rfl) (qa_lvok rfl) (ks_SR_mix_0 l D E B sc Po) h
  · exact h.elim
theorem kd_SR_secret_0 : decode prog_1_method_2_code 0 = .ok (.iload_n 1, 1) := by decide +kernel
theorem kd_SR_secret_1 : decode prog_1_method_2_code 1 = .ok (.invokestatic 22, 3) := by decide +kernel
theorem kd_SR_secret_4 : decode prog_1_method_2_code 4 = .ok (.ifCond .eq 16, 3) := by decide +kernel
theorem kd_SR_secret_7 : decode prog_1_method_2_code 7 = .ok (.aload_n 0, 1) := by decide +kernel
theorem kd_SR_secret_8 : decode prog_1_method_2_code 8 = .ok (.getfield 18, 3) := by decide +kernel
theorem kd_SR_secret_11 : decode prog_1_method_2_code 11 = .ok (.iload_n 1, 1) := by decide +kernel
theorem kd_SR_secret_12 : decode prog_1_method_2_code 12 = .ok (.aaload, 1) := by decide +kernel
theorem kd_SR_secret_13 : decode prog_1_method_2_code 13 = .ok (.getfield 26, 3) := by decide +kernel
theorem kd_SR_secret_16 : decode prog_1_method_2_code 16 = .ok (.iconst 2, 1) := by decide +kernel
theorem kd_SR_secret_17 : decode prog_1_method_2_code 17 = .ok (.if_icmp .ne 5, 3) := by decide +kernel
theorem kd_SR_secret_20 : decode prog_1_method_2_code 20 = .ok (.iconst 0, 1) := by decide +kernel
theorem kd_SR_secret_21 : decode prog_1_method_2_code 21 = .ok (.ireturn, 1) := by decide +kernel
theorem kd_SR_secret_22 : decode prog_1_method_2_code 22 = .ok (.aload_n 0, 1) := by decide +kernel
theorem kd_SR_secret_23 : decode prog_1_method_2_code 23 = .ok (.getfield 18, 3) := by decide +kernel
theorem kd_SR_secret_26 : decode prog_1_method_2_code 26 = .ok (.iload_n 1, 1) := by decide +kernel
theorem kd_SR_secret_27 : decode prog_1_method_2_code 27 = .ok (.aaload, 1) := by decide +kernel
theorem kd_SR_secret_28 : decode prog_1_method_2_code 28 = .ok (.astore 4, 2) := by decide +kernel
theorem kd_SR_secret_30 : decode prog_1_method_2_code 30 = .ok (.aload 4, 2) := by decide +kernel
theorem kd_SR_secret_32 : decode prog_1_method_2_code 32 = .ok (.aload 4, 2) := by decide +kernel
theorem kd_SR_secret_34 : decode prog_1_method_2_code 34 = .ok (.getfield 29, 3) := by decide +kernel
theorem kd_SR_secret_37 : decode prog_1_method_2_code 37 = .ok (.ldc2_w 33, 3) := by decide +kernel
theorem kd_SR_secret_40 : decode prog_1_method_2_code 40 = .ok (.invokestatic 35, 3) := by decide +kernel
theorem kd_SR_secret_43 : decode prog_1_method_2_code 43 = .ok (.lload_n 2, 1) := by decide +kernel
theorem kd_SR_secret_44 : decode prog_1_method_2_code 44 = .ok (.invokestatic 35, 3) := by decide +kernel
theorem kd_SR_secret_47 : decode prog_1_method_2_code 47 = .ok (.putfield 29, 3) := by decide +kernel
theorem kd_SR_secret_50 : decode prog_1_method_2_code 50 = .ok (.aload 4, 2) := by decide +kernel
theorem kd_SR_secret_52 : decode prog_1_method_2_code 52 = .ok (.dup, 1) := by decide +kernel
theorem kd_SR_secret_53 : decode prog_1_method_2_code 53 = .ok (.getfield 26, 3) := by decide +kernel
theorem kd_SR_secret_56 : decode prog_1_method_2_code 56 = .ok (.iconst 1, 1) := by decide +kernel
theorem kd_SR_secret_57 : decode prog_1_method_2_code 57 = .ok (.iadd, 1) := by decide +kernel
theorem kd_SR_secret_58 : decode prog_1_method_2_code 58 = .ok (.putfield 26, 3) := by decide +kernel
theorem kd_SR_secret_61 : decode prog_1_method_2_code 61 = .ok (.iconst 1, 1) := by decide +kernel
theorem kd_SR_secret_62 : decode prog_1_method_2_code 62 = .ok (.ireturn, 1) := by decide +kernel
def kc_SR_secret_20 (Po : Option Value → qa_M → Prop) : qa_K := (qi_ic (nI 0) (qi_zret (0, 0) Po))
def kc_SR_secret_0 (Po : Option Value → qa_M → Prop) : qa_K := (qi_iload 1 (qi_call 1 (0, 0) sp_SR_isEnd (qi_ifeq (kc_SR_secret_20 Po) (qi_aload 0 (qi_gp 1 1 (qi_iload 1 (qi_aald 1001 (qi_gi 6 170 (qi_ic (nI 2) (qi_icne (qi_aload 0 (qi_gp 1 1 (qi_iload 1 (qi_aald 1001 (qi_astore 4 (qi_aload 4 (qi_aload 4 (qi_gj 6 169 (qi_lc 3 (qi_call 2 (0, 0) sp_SR_mix (qi_lload 2 (qi_call 2 (0, 0) sp_SR_mix (qi_pj 6 169 (qi_aload 4 (qi_dup (qi_gi 6 170 (qi_ic (nI 1) (qi_iadd (qi_pi 6 170 (qi_ic (nI 1) (qi_zret (0, 0) Po))))))))))))))))))))) (kc_SR_secret_20 Po)))))))))))
abbrev kS_SR_secret (l : Launch) (D : va_G) (E : Nat → ClassId) (B : Nat) (sc : qa_Z) (Po : Option Value → qa_M → Prop) (pc : Nat) (k : qa_K) : Prop := qa_S l "SealedRecords" prog_1_method_2_code 5 (some .boolean) false D E B rm_SR_secret sc (qa_Qf D E B rm_SR_secret Po) pc k
theorem ks_SR_secret_20 (l : Launch) (D : va_G) (E : Nat → ClassId) (B : Nat) (sc : qa_Z) (Po : Option Value → qa_M → Prop) : kS_SR_secret l D E B sc Po 20 (kc_SR_secret_20 Po) := (qs_iconst kd_SR_secret_20 (by decide) (qs_zret kd_SR_secret_21))
theorem ks_SR_secret_0 (l : Launch) (D : va_G) (E : Nat → ClassId) (B : Nat) (sc : qa_Z) (Po : Option Value → qa_M → Prop) : kS_SR_secret l D E B sc Po 0 (kc_SR_secret_0 Po) := (qs_iload_n kd_SR_secret_0 rfl (qs_calls (ct_SR_isEnd l sc) ww_61 (by decide) (by decide) ww_62 ww_63 ww_1 yd_SR_isEnd kd_SR_secret_1 (qs_ifeq (tgt := 20) kd_SR_secret_4 (by decide) (ks_SR_secret_20 l D E B sc Po) (qs_aload_n kd_SR_secret_7 rfl (fg_1 ww_57 kd_SR_secret_8 (qs_iload_n kd_SR_secret_11 rfl (qs_aald (κ := 1001) (t := 0) rfl (fun _ => rfl) (by decide) kd_SR_secret_12 (fg_170 ww_64 kd_SR_secret_13 (qs_iconst kd_SR_secret_16 (by decide) (qs_icne (tgt := 22) kd_SR_secret_17 (by decide) (qs_aload_n kd_SR_secret_22 rfl (fg_1 ww_57 kd_SR_secret_23 (qs_iload_n kd_SR_secret_26 rfl (qs_aald (κ := 1001) (t := 0) rfl (fun _ => rfl) (by decide) kd_SR_secret_27 (qs_astore kd_SR_secret_28 (by decide) (qs_aload kd_SR_secret_30 (qs_aload kd_SR_secret_32 (fg_169 ww_65 kd_SR_secret_34 (qs_ldc2 ww_66 kd_SR_secret_37 (qs_calls (ct_SR_mix l sc) ww_67 (by decide) (by decide) ww_68 ww_69 ww_1 yd_SR_mix kd_SR_secret_40 (qs_lload_n kd_SR_secret_43 rfl (qs_calls (ct_SR_mix l sc) ww_67 (by decide) (by decide) ww_68 ww_69 ww_1 yd_SR_mix kd_SR_secret_44 (fp_169 ww_65 kd_SR_secret_47 (qs_aload kd_SR_secret_50 (qs_dup kd_SR_secret_52 (fg_170 ww_64 kd_SR_secret_53 (qs_iconst kd_SR_secret_56 (by decide) (qs_iadd kd_SR_secret_57 (fp_170 ww_64 kd_SR_secret_58 (qs_iconst kd_SR_secret_61 (by decide) (qs_zret kd_SR_secret_62))))))))))))))))))))) (ks_SR_secret_20 l D E B sc Po)))))))))))
def sp_SR_secret : qa_sp := fun args M Po => match args with
  | [.ref a0, .int a1, .long a2] => kc_SR_secret_0 Po (0, 0) [some (.ref a0), some (.int a1), some (.long a2), none, none] [] M
  | _ => False
theorem ct_SR_secret (l : Launch) (sc : qa_Z) : qa_T l ym_SR_secret (Cond.code ym_SR_secret prog_1_method_2_code 5 (some .boolean) :: q_W0) rm_SR_secret sc (sp_SR_secret) := by
  intro D E B args M Po h
  unfold sp_SR_secret at h
  split at h
  · exact qa_ct (ini := false) (by decide) (by decide) (Nat.le_of_ble_eq_true rfl) (qa_lvok rfl) (ks_SR_secret_0 l D E B sc Po) h
  · exact h.elim
theorem kd_Ms_isOpen_0 : decode prog_3_method_2_code 0 = .ok (.aload_n 0, 1) := by decide +kernel
theorem kd_Ms_isOpen_1 : decode prog_3_method_2_code 1 = .ok (.getfield 7, 3) := by decide +kernel
theorem kd_Ms_isOpen_4 : decode prog_3_method_2_code 4 = .ok (.ifCond .le 7, 3) := by decide +kernel
theorem kd_Ms_isOpen_7 : decode prog_3_method_2_code 7 = .ok (.iconst 1, 1) := by decide +kernel
theorem kd_Ms_isOpen_8 : decode prog_3_method_2_code 8 = .ok (.goto 4, 3) := by decide +kernel
theorem kd_Ms_isOpen_11 : decode prog_3_method_2_code 11 = .ok (.iconst 0, 1) := by decide +kernel
theorem kd_Ms_isOpen_12 : decode prog_3_method_2_code 12 = .ok (.ireturn, 1) := by decide +kernel
def kc_Ms_isOpen_12 (Po : Option Value → qa_M → Prop) : qa_K := (qi_zret (0, 0) Po)
def kc_Ms_isOpen_0 (Po : Option Value → qa_M → Prop) : qa_K := (qi_aload 0 (qi_gi 5 130 (qi_ifle (qi_ic (nI 0) (kc_Ms_isOpen_12 Po)) (qi_ic (nI 1) (kc_Ms_isOpen_12 Po)))))
abbrev kS_Ms_isOpen (l : Launch) (D : va_G) (E : Nat → ClassId) (B : Nat) (sc : qa_Z) (Po : Option Value → qa_M → Prop) (pc : Nat) (k : qa_K) : Prop := qa_S l "SealedRecords$Messages" prog_3_method_2_code 1 (some .boolean) false D E B rm_Ms_isOpen sc (qa_Qf D E B rm_Ms_isOpen Po) pc k
theorem ks_Ms_isOpen_12 (l : Launch) (D : va_G) (E : Nat → ClassId) (B : Nat) (sc : qa_Z) (Po : Option Value → qa_M → Prop) : kS_Ms_isOpen l D E B sc Po 12 (kc_Ms_isOpen_12 Po) := (qs_zret kd_Ms_isOpen_12)
theorem ks_Ms_isOpen_0 (l : Launch) (D : va_G) (E : Nat → ClassId) (B : Nat) (sc : qa_Z) (Po : Option Value → qa_M → Prop) : kS_Ms_isOpen l D E B sc Po 0 (kc_Ms_isOpen_0 Po) := (qs_aload_n kd_Ms_isOpen_0 rfl (fg_130 ww_70 kd_Ms_isOpen_1 (qs_ifle (tgt := 11) kd_Ms_isOpen_4 (by decide) (qs_iconst kd_Ms_isOpen_11 (by decide) (ks_Ms_isOpen_12 l D E B sc Po)) (qs_iconst kd_Ms_isOpen_7 (by decide) (qs_goto (tgt := 12) kd_Ms_isOpen_8 (by decide) (ks_Ms_isOpen_12 l D E B sc Po))))))
def sp_Ms_isOpen : qa_sp := fun args M Po => match args with
  | [.ref a0] => kc_Ms_isOpen_0 Po (0, 0) [some (.ref a0)] [] M
  | _ => False
theorem ct_Ms_isOpen (l : Launch) (sc : qa_Z) : qa_T l ym_Ms_isOpen (Cond.code ym_Ms_isOpen prog_3_method_2_code 1 (some .boolean) :: q_W0) rm_Ms_isOpen sc (sp_Ms_isOpen) := by
  intro D E B args M Po h
  unfold sp_Ms_isOpen at h
  split at h
  · exact qa_ct (ini := false) (by decide) (by decide) (Nat.le_of_ble_eq_true rfl) (qa_lvok rfl) (ks_Ms_isOpen_0 l D E B sc Po) h
  · exact h.elim
theorem kd_En_closeReceiving_0 : decode prog_2_method_9_code 0 = .ok (.aload_n 0, 1) := by decide +kernel
theorem kd_En_closeReceiving_1 : decode prog_2_method_9_code 1 = .ok (.getfield 18, 3) := by decide +kernel
theorem kd_En_closeReceiving_4 : decode prog_2_method_9_code 4 = .ok (.iconst 1, 1) := by decide +kernel
theorem kd_En_closeReceiving_5 : decode prog_2_method_9_code 5 = .ok (.putfield 95, 3) := by decide +kernel
theorem kd_En_closeReceiving_8 : decode prog_2_method_9_code 8 = .ok (.aload_n 0, 1) := by decide +kernel
theorem kd_En_closeReceiving_9 : decode prog_2_method_9_code 9 = .ok (.iload_n 1, 1) := by decide +kernel
theorem kd_En_closeReceiving_10 : decode prog_2_method_9_code 10 = .ok (.putfield 55, 3) := by decide +kernel
theorem kd_En_closeReceiving_13 : decode prog_2_method_9_code 13 = .ok (.return_, 1) := by decide +kernel
def kc_En_closeReceiving_0 (Po : Option Value → qa_M → Prop) : qa_K := (qi_aload 0 (qi_gp 6 162 (qi_ic (nI 1) (qi_pz 4 99 (qi_aload 0 (qi_iload 1 (qi_pi 6 171 (qi_vret (0, 0) Po))))))))
abbrev kS_En_closeReceiving (l : Launch) (D : va_G) (E : Nat → ClassId) (B : Nat) (sc : qa_Z) (Po : Option Value → qa_M → Prop) (pc : Nat) (k : qa_K) : Prop := qa_S l "SealedRecords$End" prog_2_method_9_code 2 none false D E B rm_En_closeReceiving sc (qa_Qf D E B rm_En_closeReceiving Po) pc k
theorem ks_En_closeReceiving_0 (l : Launch) (D : va_G) (E : Nat → ClassId) (B : Nat) (sc : qa_Z) (Po : Option Value → qa_M → Prop) : kS_En_closeReceiving l D E B sc Po 0 (kc_En_closeReceiving_0 Po) := (qs_aload_n kd_En_closeReceiving_0 rfl (fg_162 ww_33 kd_En_closeReceiving_1 (qs_iconst kd_En_closeReceiving_4 (by decide) (fp_99 ww_71 kd_En_closeReceiving_5 (qs_aload_n kd_En_closeReceiving_8 rfl (qs_iload_n kd_En_closeReceiving_9 rfl (fp_171 ww_50 kd_En_closeReceiving_10 (qs_vret kd_En_closeReceiving_13))))))))
def sp_En_closeReceiving : qa_sp := fun args M Po => match args with
  | [.ref a0, .int a1] => kc_En_closeReceiving_0 Po (0, 0) [some (.ref a0), some (.int a1)] [] M
  | _ => False
theorem ct_En_closeReceiving (l : Launch) (sc : qa_Z) : qa_T l ym_En_closeReceiving (Cond.code ym_En_closeReceiving prog_2_method_9_code 2 none :: q_W0) rm_En_closeReceiving sc (sp_En_closeReceiving) := by
  intro D E B args M Po h
  unfold sp_En_closeReceiving at h
  split at h
  · exact qa_ct (ini := false) (by decide) (by decide) (Nat.le_of_ble_eq_true rfl) (qa_lvok rfl) (ks_En_closeReceiving_0 l D E B sc Po) h
  · exact h.elim
theorem kd_En_raiseAlert_0 : decode prog_2_method_8_code 0 = .ok (.aload_n 0, 1) := by decide +kernel
theorem kd_En_raiseAlert_1 : decode prog_2_method_8_code 1 = .ok (.sipush 256, 3) := by decide +kernel
theorem kd_En_raiseAlert_4 : decode prog_2_method_8_code 4 = .ok (.iload_n 1, 1) := by decide +kernel
theorem kd_En_raiseAlert_5 : decode prog_2_method_8_code 5 = .ok (.iadd, 1) := by decide +kernel
theorem kd_En_raiseAlert_6 : decode prog_2_method_8_code 6 = .ok (.invokevirtual 133, 3) := by decide +kernel
theorem kd_En_raiseAlert_9 : decode prog_2_method_8_code 9 = .ok (.aload_n 0, 1) := by decide +kernel
theorem kd_En_raiseAlert_10 : decode prog_2_method_8_code 10 = .ok (.getfield 55, 3) := by decide +kernel
theorem kd_En_raiseAlert_13 : decode prog_2_method_8_code 13 = .ok (.ireturn, 1) := by decide +kernel
def kc_En_raiseAlert_0 (Po : Option Value → qa_M → Prop) : qa_K := (qi_aload 0 (qi_ic (nI 256) (qi_iload 1 (qi_iadd (qi_callv 2 6 (0, 0) sp_En_closeReceiving (qi_aload 0 (qi_gi 6 171 (qi_iret (0, 0) Po))))))))
abbrev kS_En_raiseAlert (l : Launch) (D : va_G) (E : Nat → ClassId) (B : Nat) (sc : qa_Z) (Po : Option Value → qa_M → Prop) (pc : Nat) (k : qa_K) : Prop := qa_S l "SealedRecords$End" prog_2_method_8_code 2 (some .int) false D E B rm_En_raiseAlert sc (qa_Qf D E B rm_En_raiseAlert Po) pc k
theorem ks_En_raiseAlert_0 (l : Launch) (D : va_G) (E : Nat → ClassId) (B : Nat) (sc : qa_Z) (Po : Option Value → qa_M → Prop) : kS_En_raiseAlert l D E B sc Po 0 (kc_En_raiseAlert_0 Po) := (qs_aload_n kd_En_raiseAlert_0 rfl (qs_sipush kd_En_raiseAlert_1 (by decide) (qs_iload_n kd_En_raiseAlert_4 rfl (qs_iadd kd_En_raiseAlert_5 (qs_callv (ci := 5) (ct_En_closeReceiving l sc) ww_72 (by decide) rfl (by decide) ww_73 ww_74 ww_75 ww_11 yd_En_closeReceiving kd_En_raiseAlert_6 (qs_aload_n kd_En_raiseAlert_9 rfl (fg_171 ww_50 kd_En_raiseAlert_10 (qs_iret kd_En_raiseAlert_13))))))))
def sp_En_raiseAlert : qa_sp := fun args M Po => match args with
  | [.ref a0, .int a1] => kc_En_raiseAlert_0 Po (0, 0) [some (.ref a0), some (.int a1)] [] M
  | _ => False
theorem ct_En_raiseAlert (l : Launch) (sc : qa_Z) : qa_T l ym_En_raiseAlert (Cond.code ym_En_raiseAlert prog_2_method_8_code 2 (some .int) :: q_W0) rm_En_raiseAlert sc (sp_En_raiseAlert) := by
  intro D E B args M Po h
  unfold sp_En_raiseAlert at h
  split at h
  · exact qa_ct (ini := false) (by decide) (by decide) (Nat.le_of_ble_eq_true rfl) (qa_lvok rfl) (ks_En_raiseAlert_0 l D E B sc Po) h
  · exact h.elim
theorem kd_En_sendingSecret_0 : decode prog_2_method_2_code 0 = .ok (.aload_n 0, 1) := by decide +kernel
theorem kd_En_sendingSecret_1 : decode prog_2_method_2_code 1 = .ok (.getfield 62, 3) := by decide +kernel
theorem kd_En_sendingSecret_4 : decode prog_2_method_2_code 4 = .ok (.iconst 4, 1) := by decide +kernel
theorem kd_En_sendingSecret_5 : decode prog_2_method_2_code 5 = .ok (.aload_n 0, 1) := by decide +kernel
theorem kd_En_sendingSecret_6 : decode prog_2_method_2_code 6 = .ok (.getfield 59, 3) := by decide +kernel
theorem kd_En_sendingSecret_9 : decode prog_2_method_2_code 9 = .ok (.iadd, 1) := by decide +kernel
theorem kd_En_sendingSecret_10 : decode prog_2_method_2_code 10 = .ok (.i2l, 1) := by decide +kernel
theorem kd_En_sendingSecret_11 : decode prog_2_method_2_code 11 = .ok (.invokestatic 66, 3) := by decide +kernel
theorem kd_En_sendingSecret_14 : decode prog_2_method_2_code 14 = .ok (.lreturn, 1) := by decide +kernel
def kc_En_sendingSecret_0 (Po : Option Value → qa_M → Prop) : qa_K := (qi_aload 0 (qi_gj 6 169 (qi_ic (nI 4) (qi_aload 0 (qi_gi 6 160 (qi_iadd (qi_i2l (qi_call 2 (0, 0) sp_SR_mix (qi_lret (0, 0) Po)))))))))
abbrev kS_En_sendingSecret (l : Launch) (D : va_G) (E : Nat → ClassId) (B : Nat) (sc : qa_Z) (Po : Option Value → qa_M → Prop) (pc : Nat) (k : qa_K) : Prop := qa_S l "SealedRecords$End" prog_2_method_2_code 1 (some .long) false D E B rm_En_sendingSecret sc (qa_Qf D E B rm_En_sendingSecret Po) pc k
theorem ks_En_sendingSecret_0 (l : Launch) (D : va_G) (E : Nat → ClassId) (B : Nat) (sc : qa_Z) (Po : Option Value → qa_M → Prop) : kS_En_sendingSecret l D E B sc Po 0 (kc_En_sendingSecret_0 Po) := (qs_aload_n kd_En_sendingSecret_0 rfl (fg_169 ww_76 kd_En_sendingSecret_1 (qs_iconst kd_En_sendingSecret_4 (by decide) (qs_aload_n kd_En_sendingSecret_5 rfl (fg_160 ww_51 kd_En_sendingSecret_6 (qs_iadd kd_En_sendingSecret_9 (qs_i2l kd_En_sendingSecret_10 (qs_calln (ct_SR_mix l sc) ww_67 (by decide) (by decide) ww_77 ww_69 ww_1 yd_SR_mix kd_En_sendingSecret_11 (qs_lret kd_En_sendingSecret_14)))))))))
def sp_En_sendingSecret : qa_sp := fun args M Po => match args with
  | [.ref a0] => kc_En_sendingSecret_0 Po (0, 0) [some (.ref a0)] [] M
  | _ => False
theorem ct_En_sendingSecret (l : Launch) (sc : qa_Z) : qa_T l ym_En_sendingSecret (Cond.code ym_En_sendingSecret prog_2_method_2_code 1 (some .long) :: q_W0) rm_En_sendingSecret sc (sp_En_sendingSecret) := by
  intro D E B args M Po h
  unfold sp_En_sendingSecret at h
  split at h
  · exact qa_ct (ini := false) (by decide) (by decide) (Nat.le_of_ble_eq_true rfl) (qa_lvok rfl) (ks_En_sendingSecret_0 l D E B sc Po) h
  · exact h.elim
theorem kd_En_receivingSecret_0 : decode prog_2_method_3_code 0 = .ok (.aload_n 0, 1) := by decide +kernel
theorem kd_En_receivingSecret_1 : decode prog_2_method_3_code 1 = .ok (.getfield 62, 3) := by decide +kernel
theorem kd_En_receivingSecret_4 : decode prog_2_method_3_code 4 = .ok (.iconst 5, 1) := by decide +kernel
theorem kd_En_receivingSecret_5 : decode prog_2_method_3_code 5 = .ok (.aload_n 0, 1) := by decide +kernel
theorem kd_En_receivingSecret_6 : decode prog_2_method_3_code 6 = .ok (.getfield 59, 3) := by decide +kernel
theorem kd_En_receivingSecret_9 : decode prog_2_method_3_code 9 = .ok (.isub, 1) := by decide +kernel
theorem kd_En_receivingSecret_10 : decode prog_2_method_3_code 10 = .ok (.i2l, 1) := by decide +kernel
theorem kd_En_receivingSecret_11 : decode prog_2_method_3_code 11 = .ok (.invokestatic 66, 3) := by decide +kernel
theorem kd_En_receivingSecret_14 : decode prog_2_method_3_code 14 = .ok (.lreturn, 1) := by decide +kernel
def kc_En_receivingSecret_0 (Po : Option Value → qa_M → Prop) : qa_K := (qi_aload 0 (qi_gj 6 169 (qi_ic (nI 5) (qi_aload 0 (qi_gi 6 160 (qi_isub (qi_i2l (qi_call 2 (0, 0) sp_SR_mix (qi_lret (0, 0) Po)))))))))
abbrev kS_En_receivingSecret (l : Launch) (D : va_G) (E : Nat → ClassId) (B : Nat) (sc : qa_Z) (Po : Option Value → qa_M → Prop) (pc : Nat) (k : qa_K) : Prop := qa_S l "SealedRecords$End" prog_2_method_3_code 1 (some .long) false D E B rm_En_receivingSecret sc (qa_Qf D E B rm_En_receivingSecret Po) pc k
theorem ks_En_receivingSecret_0 (l : Launch) (D : va_G) (E : Nat → ClassId) (B : Nat) (sc : qa_Z) (Po : Option Value → qa_M → Prop) : kS_En_receivingSecret l D E B sc Po 0 (kc_En_receivingSecret_0 Po) := (qs_aload_n kd_En_receivingSecret_0 rfl (fg_169 ww_76 kd_En_receivingSecret_1 (qs_iconst kd_En_receivingSecret_4 (by decide) (qs_aload_n kd_En_receivingSecret_5 rfl (fg_160 ww_51 kd_En_receivingSecret_6 (qs_isub kd_En_receivingSecret_9 (qs_i2l kd_En_receivingSecret_10 (qs_calln (ct_SR_mix l sc) ww_67 (by decide) (by decide) ww_77 ww_69 ww_1 yd_SR_mix kd_En_receivingSecret_11 (qs_lret kd_En_receivingSecret_14)))))))))
def sp_En_receivingSecret : qa_sp := fun args M Po => match args with
  | [.ref a0] => kc_En_receivingSecret_0 Po (0, 0) [some (.ref a0)] [] M
  | _ => False
theorem ct_En_receivingSecret (l : Launch) (sc : qa_Z) : qa_T l ym_En_receivingSecret (Cond.code ym_En_receivingSecret prog_2_method_3_code 1 (some .long) :: q_W0) rm_En_receivingSecret sc (sp_En_receivingSecret) := by
  intro D E B args M Po h
  unfold sp_En_receivingSecret at h
  split at h
  · exact qa_ct (ini := false) (by decide) (by decide) (Nat.le_of_ble_eq_true rfl) (qa_lvok rfl) (ks_En_receivingSecret_0 l D E B sc Po) h
  · exact h.elim
theorem kd_Sd_useSecret_0 : decode prog_6_method_2_code 0 = .ok (.aload_n 0, 1) := by decide +kernel
theorem kd_Sd_useSecret_1 : decode prog_6_method_2_code 1 = .ok (.lload_n 1, 1) := by decide +kernel
theorem kd_Sd_useSecret_2 : decode prog_6_method_2_code 2 = .ok (.putfield 9, 3) := by decide +kernel
theorem kd_Sd_useSecret_5 : decode prog_6_method_2_code 5 = .ok (.aload_n 0, 1) := by decide +kernel
theorem kd_Sd_useSecret_6 : decode prog_6_method_2_code 6 = .ok (.iconst 0, 1) := by decide +kernel
theorem kd_Sd_useSecret_7 : decode prog_6_method_2_code 7 = .ok (.putfield 15, 3) := by decide +kernel
theorem kd_Sd_useSecret_10 : decode prog_6_method_2_code 10 = .ok (.return_, 1) := by decide +kernel
def kc_Sd_useSecret_0 (Po : Option Value → qa_M → Prop) : qa_K := (qi_aload 0 (qi_lload 1 (qi_pj 4 97 (qi_aload 0 (qi_ic (nI 0) (qi_pi 4 98 (qi_vret (0, 0) Po)))))))
abbrev kS_Sd_useSecret (l : Launch) (D : va_G) (E : Nat → ClassId) (B : Nat) (sc : qa_Z) (Po : Option Value → qa_M → Prop) (pc : Nat) (k : qa_K) : Prop := qa_S l "SealedRecords$Side" prog_6_method_2_code 3 none false D E B rm_Sd_useSecret sc (qa_Qf D E B rm_Sd_useSecret Po) pc k
theorem ks_Sd_useSecret_0 (l : Launch) (D : va_G) (E : Nat → ClassId) (B : Nat) (sc : qa_Z) (Po : Option Value → qa_M → Prop) : kS_Sd_useSecret l D E B sc Po 0 (kc_Sd_useSecret_0 Po) := (qs_aload_n kd_Sd_useSecret_0 rfl (qs_lload_n kd_Sd_useSecret_1 rfl (fp_97 ww_78 kd_Sd_useSecret_2 (qs_aload_n kd_Sd_useSecret_5 rfl (qs_iconst kd_Sd_useSecret_6 (by decide) (fp_98 ww_79 kd_Sd_useSecret_7 (qs_vret kd_Sd_useSecret_10)))))))
def sp_Sd_useSecret : qa_sp := fun args M Po => match args with
  | [.ref a0, .long a1] => kc_Sd_useSecret_0 Po (0, 0) [some (.ref a0), some (.long a1), none] [] M
  | _ => False
theorem ct_Sd_useSecret (l : Launch) (sc : qa_Z) : qa_T l ym_Sd_useSecret (Cond.code ym_Sd_useSecret prog_6_method_2_code 3 none :: q_W0) rm_Sd_useSecret sc (sp_Sd_useSecret) := by
  intro D E B args M Po h
  unfold sp_Sd_useSecret at h
  split at h
  · exact qa_ct (ini := false) (by decide) (by decide) (Nat.le_of_ble_eq_true rfl) (qa_lvok rfl) (ks_Sd_useSecret_0 l D E B sc Po) h
  · exact h.elim
theorem kd_SR_key_0 : decode prog_1_method_3_code 0 = .ok (.iload_n 1, 1) := by decide +kernel
theorem kd_SR_key_1 : decode prog_1_method_3_code 1 = .ok (.invokestatic 22, 3) := by decide +kernel
theorem kd_SR_key_4 : decode prog_1_method_3_code 4 = .ok (.ifCond .ne 5, 3) := by decide +kernel
theorem kd_SR_key_7 : decode prog_1_method_3_code 7 = .ok (.iconst (-1), 1) := by decide +kernel
theorem kd_SR_key_8 : decode prog_1_method_3_code 8 = .ok (.ireturn, 1) := by decide +kernel
theorem kd_SR_key_9 : decode prog_1_method_3_code 9 = .ok (.aload_n 0, 1) := by decide +kernel
theorem kd_SR_key_10 : decode prog_1_method_3_code 10 = .ok (.getfield 18, 3) := by decide +kernel
theorem kd_SR_key_13 : decode prog_1_method_3_code 13 = .ok (.iload_n 1, 1) := by decide +kernel
theorem kd_SR_key_14 : decode prog_1_method_3_code 14 = .ok (.aaload, 1) := by decide +kernel
theorem kd_SR_key_15 : decode prog_1_method_3_code 15 = .ok (.astore_n 3, 1) := by decide +kernel
theorem kd_SR_key_16 : decode prog_1_method_3_code 16 = .ok (.iload_n 2, 1) := by decide +kernel
theorem kd_SR_key_17 : decode prog_1_method_3_code 17 = .ok (.ifCond .eq 10, 3) := by decide +kernel
theorem kd_SR_key_20 : decode prog_1_method_3_code 20 = .ok (.aload_n 3, 1) := by decide +kernel
theorem kd_SR_key_21 : decode prog_1_method_3_code 21 = .ok (.getfield 39, 3) := by decide +kernel
theorem kd_SR_key_24 : decode prog_1_method_3_code 24 = .ok (.goto 7, 3) := by decide +kernel
theorem kd_SR_key_27 : decode prog_1_method_3_code 27 = .ok (.aload_n 3, 1) := by decide +kernel
theorem kd_SR_key_28 : decode prog_1_method_3_code 28 = .ok (.getfield 43, 3) := by decide +kernel
theorem kd_SR_key_31 : decode prog_1_method_3_code 31 = .ok (.astore 4, 2) := by decide +kernel
theorem kd_SR_key_33 : decode prog_1_method_3_code 33 = .ok (.aload 4, 2) := by decide +kernel
theorem kd_SR_key_35 : decode prog_1_method_3_code 35 = .ok (.getfield 46, 3) := by decide +kernel
theorem kd_SR_key_38 : decode prog_1_method_3_code 38 = .ok (.ifCond .eq 6, 3) := by decide +kernel
theorem kd_SR_key_41 : decode prog_1_method_3_code 41 = .ok (.bipush (-2), 2) := by decide +kernel
theorem kd_SR_key_43 : decode prog_1_method_3_code 43 = .ok (.ireturn, 1) := by decide +kernel
theorem kd_SR_key_44 : decode prog_1_method_3_code 44 = .ok (.aload 4, 2) := by decide +kernel
theorem kd_SR_key_46 : decode prog_1_method_3_code 46 = .ok (.getfield 52, 3) := by decide +kernel
theorem kd_SR_key_49 : decode prog_1_method_3_code 49 = .ok (.aload_n 3, 1) := by decide +kernel
theorem kd_SR_key_50 : decode prog_1_method_3_code 50 = .ok (.getfield 26, 3) := by decide +kernel
theorem kd_SR_key_53 : decode prog_1_method_3_code 53 = .ok (.if_icmp .ne 6, 3) := by decide +kernel
theorem kd_SR_key_56 : decode prog_1_method_3_code 56 = .ok (.bipush (-4), 2) := by decide +kernel
theorem kd_SR_key_58 : decode prog_1_method_3_code 58 = .ok (.ireturn, 1) := by decide +kernel
theorem kd_SR_key_59 : decode prog_1_method_3_code 59 = .ok (.iload_n 2, 1) := by decide +kernel
theorem kd_SR_key_60 : decode prog_1_method_3_code 60 = .ok (.ifCond .ne 20, 3) := by decide +kernel
theorem kd_SR_key_63 : decode prog_1_method_3_code 63 = .ok (.aload_n 3, 1) := by decide +kernel
theorem kd_SR_key_64 : decode prog_1_method_3_code 64 = .ok (.getfield 55, 3) := by decide +kernel
theorem kd_SR_key_67 : decode prog_1_method_3_code 67 = .ok (.invokevirtual 59, 3) := by decide +kernel
theorem kd_SR_key_70 : decode prog_1_method_3_code 70 = .ok (.ifCond .eq 10, 3) := by decide +kernel
theorem kd_SR_key_73 : decode prog_1_method_3_code 73 = .ok (.aload_n 3, 1) := by decide +kernel
theorem kd_SR_key_74 : decode prog_1_method_3_code 74 = .ok (.bipush 10, 2) := by decide +kernel
theorem kd_SR_key_76 : decode prog_1_method_3_code 76 = .ok (.invokevirtual 65, 3) := by decide +kernel
theorem kd_SR_key_79 : decode prog_1_method_3_code 79 = .ok (.ireturn, 1) := by decide +kernel
theorem kd_SR_key_80 : decode prog_1_method_3_code 80 = .ok (.aload 4, 2) := by decide +kernel
theorem kd_SR_key_82 : decode prog_1_method_3_code 82 = .ok (.aload_n 3, 1) := by decide +kernel
theorem kd_SR_key_83 : decode prog_1_method_3_code 83 = .ok (.getfield 26, 3) := by decide +kernel
theorem kd_SR_key_86 : decode prog_1_method_3_code 86 = .ok (.putfield 52, 3) := by decide +kernel
theorem kd_SR_key_89 : decode prog_1_method_3_code 89 = .ok (.aload 4, 2) := by decide +kernel
theorem kd_SR_key_91 : decode prog_1_method_3_code 91 = .ok (.iload_n 2, 1) := by decide +kernel
theorem kd_SR_key_92 : decode prog_1_method_3_code 92 = .ok (.ifCond .eq 10, 3) := by decide +kernel
theorem kd_SR_key_95 : decode prog_1_method_3_code 95 = .ok (.aload_n 3, 1) := by decide +kernel
theorem kd_SR_key_96 : decode prog_1_method_3_code 96 = .ok (.invokevirtual 69, 3) := by decide +kernel
theorem kd_SR_key_99 : decode prog_1_method_3_code 99 = .ok (.goto 7, 3) := by decide +kernel
theorem kd_SR_key_102 : decode prog_1_method_3_code 102 = .ok (.aload_n 3, 1) := by decide +kernel
theorem kd_SR_key_103 : decode prog_1_method_3_code 103 = .ok (.invokevirtual 73, 3) := by decide +kernel
theorem kd_SR_key_106 : decode prog_1_method_3_code 106 = .ok (.invokevirtual 76, 3) := by decide +kernel
theorem kd_SR_key_109 : decode prog_1_method_3_code 109 = .ok (.aload 4, 2) := by decide +kernel
theorem kd_SR_key_111 : decode prog_1_method_3_code 111 = .ok (.getfield 52, 3) := by decide +kernel
theorem kd_SR_key_114 : decode prog_1_method_3_code 114 = .ok (.ireturn, 1) := by decide +kernel
def kc_SR_key_106 (Po : Option Value → qa_M → Prop) : qa_K := (qi_callv 2 4 (0, 0) sp_Sd_useSecret (qi_aload 4 (qi_gi 4 96 (qi_iret (0, 0) Po))))
def kc_SR_key_80 (Po : Option Value → qa_M → Prop) : qa_K := (qi_aload 4 (qi_aload 3 (qi_gi 6 170 (qi_pi 4 96 (qi_aload 4 (qi_iload 2 (qi_ifeq (qi_aload 3 (qi_callv 1 6 (0, 0) sp_En_receivingSecret (kc_SR_key_106 Po))) (qi_aload 3 (qi_callv 1 6 (0, 0) sp_En_sendingSecret (kc_SR_key_106 Po))))))))))
def kc_SR_key_31 (Po : Option Value → qa_M → Prop) : qa_K := (qi_astore 4 (qi_aload 4 (qi_gi 4 99 (qi_ifeq (qi_aload 4 (qi_gi 4 96 (qi_aload 3 (qi_gi 6 170 (qi_icne (qi_iload 2 (qi_ifne (kc_SR_key_80 Po) (qi_aload 3 (qi_gp 6 166 (qi_callv 1 5 (0, 0) sp_Ms_isOpen (qi_ifeq (kc_SR_key_80 Po) (qi_aload 3 (qi_ic (nI 10) (qi_callv 2 6 (0, 0) sp_En_raiseAlert (qi_iret (0, 0) Po)))))))))) (qi_ic (-4) (qi_iret (0, 0) Po))))))) (qi_ic (-2) (qi_iret (0, 0) Po))))))
def kc_SR_key_0 (Po : Option Value → qa_M → Prop) : qa_K := (qi_iload 1 (qi_call 1 (0, 0) sp_SR_isEnd (qi_ifne (qi_aload 0 (qi_gp 1 1 (qi_iload 1 (qi_aald 1001 (qi_astore 3 (qi_iload 2 (qi_ifeq (qi_aload 3 (qi_gp 6 162 (kc_SR_key_31 Po))) (qi_aload 3 (qi_gp 6 161 (kc_SR_key_31 Po)))))))))) (qi_ic (-1) (qi_iret (0, 0) Po)))))
abbrev kS_SR_key (l : Launch) (D : va_G) (E : Nat → ClassId) (B : Nat) (sc : qa_Z) (Po : Option Value → qa_M → Prop) (pc : Nat) (k : qa_K) : Prop := qa_S l "SealedRecords" prog_1_method_3_code 5 (some .int) false D E B rm_SR_key sc (qa_Qf D E B rm_SR_key Po) pc k
theorem ks_SR_key_106 (l : Launch) (D : va_G) (E : Nat → ClassId) (B : Nat) (sc : qa_Z) (Po : Option Value → qa_M → Prop) : kS_SR_key l D E B sc Po 106 (kc_SR_key_106 Po) := (qs_callv (ci := 3) (ct_Sd_useSecret l sc) ww_80 (by decide) rfl (by decide) ww_81 ww_82 ww_83 ww_7 yd_Sd_useSecret kd_SR_key_106 (qs_aload kd_SR_key_109 (fg_96 ww_84 kd_SR_key_111 (qs_iret kd_SR_key_114))))
theorem ks_SR_key_80 (l : Launch) (D : va_G) (E : Nat → ClassId) (B : Nat) (sc : qa_Z) (Po : Option Value → qa_M → Prop) : kS_SR_key l D E B sc Po 80 (kc_SR_key_80 Po) := (qs_aload kd_SR_key_80 (qs_aload_n kd_SR_key_82 rfl (fg_170 ww_64 kd_SR_key_83 (fp_96 ww_84 kd_SR_key_86 (qs_aload kd_SR_key_89 (qs_iload_n kd_SR_key_91 rfl (qs_ifeq (tgt := 102) kd_SR_key_92 (by decide) (qs_aload_n kd_SR_key_102 rfl (qs_callv (ci := 5) (ct_En_receivingSecret l sc) ww_85 (by decide) rfl (by decide) ww_86 ww_87 ww_88 ww_11 yd_En_receivingSecret kd_SR_key_103 (ks_SR_key_106 l D E B sc Po))) (qs_aload_n kd_SR_key_95 rfl (qs_callv (ci := 5) (ct_En_sendingSecret l sc) ww_89 (by decide) rfl (by decide) ww_90 ww_91 ww_92 ww_11 yd_En_sendingSecret kd_SR_key_96 (qs_goto (tgt := 106) kd_SR_key_99 (by decide) (ks_SR_key_106 l D E B sc Po)))))))))))
theorem ks_SR_key_31 (l : Launch) (D : va_G) (E : Nat → ClassId) (B : Nat) (sc : qa_Z) (Po : Option Value → qa_M → Prop) : kS_SR_key l D E B sc Po 31 (kc_SR_key_31 Po) := (qs_astore kd_SR_key_31 (by decide) (qs_aload kd_SR_key_33 (fg_99 ww_93 kd_SR_key_35 (qs_ifeq (tgt := 44) kd_SR_key_38 (by decide) (qs_aload kd_SR_key_44 (fg_96 ww_84 kd_SR_key_46 (qs_aload_n kd_SR_key_49 rfl (fg_170 ww_64 kd_SR_key_50 (qs_icne (tgt := 59) kd_SR_key_53 (by decide) (qs_iload_n kd_SR_key_59 rfl (qs_ifne (tgt := 80) kd_SR_key_60 (by decide) (ks_SR_key_80 l D E B sc Po) (qs_aload_n kd_SR_key_63 rfl (fg_166 ww_94 kd_SR_key_64 (qs_callv (ci := 4) (ct_Ms_isOpen l sc) ww_95 (by decide) rfl (by decide) ww_96 ww_97 ww_98 ww_9 yd_Ms_isOpen kd_SR_key_67 (qs_ifeq (tgt := 80) kd_SR_key_70 (by decide) (ks_SR_key_80 l D E B sc Po) (qs_aload_n kd_SR_key_73 rfl (qs_bipush kd_SR_key_74 (by decide) (qs_callv (ci := 5) (ct_En_raiseAlert l sc) ww_99 (by decide) rfl (by decide) ww_100 ww_101 ww_102 ww_11 yd_En_raiseAlert kd_SR_key_76 (qs_iret kd_SR_key_79)))))))))) (qs_bipush kd_SR_key_56 (by decide) (qs_iret kd_SR_key_58))))))) (qs_bipush kd_SR_key_41 (by decide) (qs_iret kd_SR_key_43))))))
theorem ks_SR_key_0 (l : Launch) (D : va_G) (E : Nat → ClassId) (B : Nat) (sc : qa_Z) (Po : Option Value → qa_M → Prop) : kS_SR_key l D E B sc Po 0 (kc_SR_key_0 Po) := (qs_iload_n kd_SR_key_0 rfl (qs_calls (ct_SR_isEnd l sc) ww_61 (by decide) (by decide) ww_62 ww_63 ww_1 yd_SR_isEnd kd_SR_key_1 (qs_ifne (tgt := 9) kd_SR_key_4 (by decide) (qs_aload_n kd_SR_key_9 rfl (fg_1 ww_57 kd_SR_key_10 (qs_iload_n kd_SR_key_13 rfl (qs_aald (κ := 1001) (t := 0) rfl (fun _ => rfl) (by decide) kd_SR_key_14 (qs_astore_n kd_SR_key_15 rfl (by decide) (qs_iload_n kd_SR_key_16 rfl (qs_ifeq (tgt := 27) kd_SR_key_17 (by decide) (qs_aload_n kd_SR_key_27 rfl (fg_162 ww_103 kd_SR_key_28 (ks_SR_key_31 l D E B sc Po))) (qs_aload_n kd_SR_key_20 rfl (fg_161 ww_104 kd_SR_key_21 (qs_goto (tgt := 31) kd_SR_key_24 (by decide) (ks_SR_key_31 l D E B sc Po))))))))))) (qs_iconst kd_SR_key_7 (by decide) (qs_iret kd_SR_key_8)))))
def sp_SR_key : qa_sp := fun args M Po => match args with
  | [.ref a0, .int a1, .int a2] => kc_SR_key_0 Po (0, 0) [some (.ref a0), some (.int a1), some (.int a2), none, none] [] M
  | _ => False
theorem ct_SR_key (l : Launch) (sc : qa_Z) : qa_T l ym_SR_key (Cond.code ym_SR_key prog_1_method_3_code 5 (some .int) :: q_W0) rm_SR_key sc (sp_SR_key) := by
  intro D E B args M Po h
  unfold sp_SR_key at h
  split at h
  · exact qa_ct (ini := false) (by decide) (by decide) (Nat.le_of_ble_eq_true rfl) (qa_lvok rfl) (ks_SR_key_0 l D E B sc Po) h
  · exact h.elim
theorem kd_Sd_changeSecret_0 : decode prog_6_method_3_code 0 = .ok (.aload_n 0, 1) := by decide +kernel
theorem kd_Sd_changeSecret_1 : decode prog_6_method_3_code 1 = .ok (.aload_n 0, 1) := by decide +kernel
theorem kd_Sd_changeSecret_2 : decode prog_6_method_3_code 2 = .ok (.getfield 9, 3) := by decide +kernel
theorem kd_Sd_changeSecret_5 : decode prog_6_method_3_code 5 = .ok (.ldc2_w 19, 3) := by decide +kernel
theorem kd_Sd_changeSecret_8 : decode prog_6_method_3_code 8 = .ok (.invokestatic 21, 3) := by decide +kernel
theorem kd_Sd_changeSecret_11 : decode prog_6_method_3_code 11 = .ok (.invokevirtual 25, 3) := by decide +kernel
theorem kd_Sd_changeSecret_14 : decode prog_6_method_3_code 14 = .ok (.return_, 1) := by decide +kernel
def kc_Sd_changeSecret_0 (Po : Option Value → qa_M → Prop) : qa_K := (qi_aload 0 (qi_aload 0 (qi_gj 4 97 (qi_lc 6 (qi_call 2 (0, 0) sp_SR_mix (qi_callv 2 4 (0, 0) sp_Sd_useSecret (qi_vret (0, 0) Po)))))))
abbrev kS_Sd_changeSecret (l : Launch) (D : va_G) (E : Nat → ClassId) (B : Nat) (sc : qa_Z) (Po : Option Value → qa_M → Prop) (pc : Nat) (k : qa_K) : Prop := qa_S l "SealedRecords$Side" prog_6_method_3_code 1 none false D E B rm_Sd_changeSecret sc (qa_Qf D E B rm_Sd_changeSecret Po) pc k
theorem ks_Sd_changeSecret_0 (l : Launch) (D : va_G) (E : Nat → ClassId) (B : Nat) (sc : qa_Z) (Po : Option Value → qa_M → Prop) : kS_Sd_changeSecret l D E B sc Po 0 (kc_Sd_changeSecret_0 Po) := (qs_aload_n kd_Sd_changeSecret_0 rfl (qs_aload_n kd_Sd_changeSecret_1 rfl (fg_97 ww_78 kd_Sd_changeSecret_2 (qs_ldc2 ww_105 kd_Sd_changeSecret_5 (qs_calln (ct_SR_mix l sc) ww_67 (by decide) (by decide) ww_106 ww_69 ww_1 yd_SR_mix kd_Sd_changeSecret_8 (qs_callv (ci := 3) (ct_Sd_useSecret l sc) ww_80 (by decide) rfl (by decide) ww_107 ww_82 ww_83 ww_7 yd_Sd_useSecret kd_Sd_changeSecret_11 (qs_vret kd_Sd_changeSecret_14)))))))
def sp_Sd_changeSecret : qa_sp := fun args M Po => match args with
  | [.ref a0] => kc_Sd_changeSecret_0 Po (0, 0) [some (.ref a0)] [] M
  | _ => False
theorem ct_Sd_changeSecret (l : Launch) (sc : qa_Z) : qa_T l ym_Sd_changeSecret (Cond.code ym_Sd_changeSecret prog_6_method_3_code 1 none :: q_W0) rm_Sd_changeSecret sc (sp_Sd_changeSecret) := by
  intro D E B args M Po h
  unfold sp_Sd_changeSecret at h
  split at h
  · exact qa_ct (ini := false) (by decide) (by decide) (Nat.le_of_ble_eq_true rfl) (qa_lvok rfl) (ks_Sd_changeSecret_0 l D E B sc Po) h
  · exact h.elim
theorem kd_SR_advance_0 : decode prog_1_method_4_code 0 = .ok (.iload_n 1, 1) := by decide +kernel
theorem kd_SR_advance_1 : decode prog_1_method_4_code 1 = .ok (.invokestatic 22, 3) := by decide +kernel
theorem kd_SR_advance_4 : decode prog_1_method_4_code 4 = .ok (.ifCond .ne 5, 3) := by decide +kernel
theorem kd_SR_advance_7 : decode prog_1_method_4_code 7 = .ok (.iconst 0, 1) := by decide +kernel
theorem kd_SR_advance_8 : decode prog_1_method_4_code 8 = .ok (.ireturn, 1) := by decide +kernel
theorem kd_SR_advance_9 : decode prog_1_method_4_code 9 = .ok (.aload_n 0, 1) := by decide +kernel
theorem kd_SR_advance_10 : decode prog_1_method_4_code 10 = .ok (.getfield 18, 3) := by decide +kernel
theorem kd_SR_advance_13 : decode prog_1_method_4_code 13 = .ok (.iload_n 1, 1) := by decide +kernel
theorem kd_SR_advance_14 : decode prog_1_method_4_code 14 = .ok (.aaload, 1) := by decide +kernel
theorem kd_SR_advance_15 : decode prog_1_method_4_code 15 = .ok (.astore_n 2, 1) := by decide +kernel
theorem kd_SR_advance_16 : decode prog_1_method_4_code 16 = .ok (.aload_n 2, 1) := by decide +kernel
theorem kd_SR_advance_17 : decode prog_1_method_4_code 17 = .ok (.getfield 39, 3) := by decide +kernel
theorem kd_SR_advance_20 : decode prog_1_method_4_code 20 = .ok (.getfield 52, 3) := by decide +kernel
theorem kd_SR_advance_23 : decode prog_1_method_4_code 23 = .ok (.iconst 2, 1) := by decide +kernel
theorem kd_SR_advance_24 : decode prog_1_method_4_code 24 = .ok (.if_icmp .ne 13, 3) := by decide +kernel
theorem kd_SR_advance_27 : decode prog_1_method_4_code 27 = .ok (.aload_n 2, 1) := by decide +kernel
theorem kd_SR_advance_28 : decode prog_1_method_4_code 28 = .ok (.getfield 39, 3) := by decide +kernel
theorem kd_SR_advance_31 : decode prog_1_method_4_code 31 = .ok (.getfield 46, 3) := by decide +kernel
theorem kd_SR_advance_34 : decode prog_1_method_4_code 34 = .ok (.ifCond .eq 5, 3) := by decide +kernel
theorem kd_SR_advance_37 : decode prog_1_method_4_code 37 = .ok (.iconst 0, 1) := by decide +kernel
theorem kd_SR_advance_38 : decode prog_1_method_4_code 38 = .ok (.ireturn, 1) := by decide +kernel
theorem kd_SR_advance_39 : decode prog_1_method_4_code 39 = .ok (.aload_n 2, 1) := by decide +kernel
theorem kd_SR_advance_40 : decode prog_1_method_4_code 40 = .ok (.getfield 39, 3) := by decide +kernel
theorem kd_SR_advance_43 : decode prog_1_method_4_code 43 = .ok (.invokevirtual 80, 3) := by decide +kernel
theorem kd_SR_advance_46 : decode prog_1_method_4_code 46 = .ok (.aload_n 2, 1) := by decide +kernel
theorem kd_SR_advance_47 : decode prog_1_method_4_code 47 = .ok (.iconst 0, 1) := by decide +kernel
theorem kd_SR_advance_48 : decode prog_1_method_4_code 48 = .ok (.putfield 83, 3) := by decide +kernel
theorem kd_SR_advance_51 : decode prog_1_method_4_code 51 = .ok (.iconst 1, 1) := by decide +kernel
theorem kd_SR_advance_52 : decode prog_1_method_4_code 52 = .ok (.ireturn, 1) := by decide +kernel
def kc_SR_advance_37 (Po : Option Value → qa_M → Prop) : qa_K := (qi_ic (nI 0) (qi_zret (0, 0) Po))
def kc_SR_advance_0 (Po : Option Value → qa_M → Prop) : qa_K := (qi_iload 1 (qi_call 1 (0, 0) sp_SR_isEnd (qi_ifne (qi_aload 0 (qi_gp 1 1 (qi_iload 1 (qi_aald 1001 (qi_astore 2 (qi_aload 2 (qi_gp 6 161 (qi_gi 4 96 (qi_ic (nI 2) (qi_icne (kc_SR_advance_37 Po) (qi_aload 2 (qi_gp 6 161 (qi_gi 4 99 (qi_ifeq (qi_aload 2 (qi_gp 6 161 (qi_callv 1 4 (0, 0) sp_Sd_changeSecret (qi_aload 2 (qi_ic (nI 0) (qi_pz 6 172 (qi_ic (nI 1) (qi_zret (0, 0) Po)))))))) (kc_SR_advance_37 Po))))))))))))))) (qi_ic (nI 0) (qi_zret (0, 0) Po)))))
abbrev kS_SR_advance (l : Launch) (D : va_G) (E : Nat → ClassId) (B : Nat) (sc : qa_Z) (Po : Option Value → qa_M → Prop) (pc : Nat) (k : qa_K) : Prop := qa_S l "SealedRecords" prog_1_method_4_code 3 (some .boolean) false D E B rm_SR_advance sc (qa_Qf D E B rm_SR_advance Po) pc k
theorem ks_SR_advance_37 (l : Launch) (D : va_G) (E : Nat → ClassId) (B : Nat) (sc : qa_Z) (Po : Option Value → qa_M → Prop) : kS_SR_advance l D E B sc Po 37 (kc_SR_advance_37 Po) := (qs_iconst kd_SR_advance_37 (by decide) (qs_zret kd_SR_advance_38))
theorem ks_SR_advance_0 (l : Launch) (D : va_G) (E : Nat → ClassId) (B : Nat) (sc : qa_Z) (Po : Option Value → qa_M → Prop) : kS_SR_advance l D E B sc Po 0 (kc_SR_advance_0 Po) := (qs_iload_n kd_SR_advance_0 rfl (qs_calls (ct_SR_isEnd l sc) ww_61 (by decide) (by decide) ww_62 ww_63 ww_1 yd_SR_isEnd kd_SR_advance_1 (qs_ifne (tgt := 9) kd_SR_advance_4 (by decide) (qs_aload_n kd_SR_advance_9 rfl (fg_1 ww_57 kd_SR_advance_10 (qs_iload_n kd_SR_advance_13 rfl (qs_aald (κ := 1001) (t := 0) rfl (fun _ => rfl) (by decide) kd_SR_advance_14 (qs_astore_n kd_SR_advance_15 rfl (by decide) (qs_aload_n kd_SR_advance_16 rfl (fg_161 ww_104 kd_SR_advance_17 (fg_96 ww_84 kd_SR_advance_20 (qs_iconst kd_SR_advance_23 (by decide) (qs_icne (tgt := 37) kd_SR_advance_24 (by decide) (ks_SR_advance_37 l D E B sc Po) (qs_aload_n kd_SR_advance_27 rfl (fg_161 ww_104 kd_SR_advance_28 (fg_99 ww_93 kd_SR_advance_31 (qs_ifeq (tgt := 39) kd_SR_advance_34 (by decide) (qs_aload_n kd_SR_advance_39 rfl (fg_161 ww_104 kd_SR_advance_40 (qs_callv (ci := 3) (ct_Sd_changeSecret l sc) ww_108 (by decide) rfl (by decide) ww_109 ww_110 ww_111 ww_7 yd_Sd_changeSecret kd_SR_advance_43 (qs_aload_n kd_SR_advance_46 rfl (qs_iconst kd_SR_advance_47 (by decide) (fp_172 ww_112 kd_SR_advance_48 (qs_iconst kd_SR_advance_51 (by decide) (qs_zret kd_SR_advance_52)))))))) (ks_SR_advance_37 l D E B sc Po))))))))))))))) (qs_iconst kd_SR_advance_7 (by decide) (qs_zret kd_SR_advance_8)))))
def sp_SR_advance : qa_sp := fun args M Po => match args with
  | [.ref a0, .int a1] => kc_SR_advance_0 Po (0, 0) [some (.ref a0), some (.int a1), none] [] M
  | _ => False
theorem ct_SR_advance (l : Launch) (sc : qa_Z) : qa_T l ym_SR_advance (Cond.code ym_SR_advance prog_1_method_4_code 3 (some .boolean) :: q_W0) rm_SR_advance sc (sp_SR_advance) := by
  intro D E B args M Po h
  unfold sp_SR_advance at h
  split at h
  · exact qa_ct (ini := false) (by decide) (by decide) (Nat.le_of_ble_eq_true rfl) (qa_lvok rfl) (ks_SR_advance_0 l D E B sc Po) h
  · exact h.elim
theorem kd_SR_isByte_0 : decode prog_1_method_22_code 0 = .ok (.iload_n 0, 1) := by decide +kernel
theorem kd_SR_isByte_1 : decode prog_1_method_22_code 1 = .ok (.ifCond .lt 14, 3) := by decide +kernel
theorem kd_SR_isByte_4 : decode prog_1_method_22_code 4 = .ok (.iload_n 0, 1) := by decide +kernel
theorem kd_SR_isByte_5 : decode prog_1_method_22_code 5 = .ok (.sipush 255, 3) := by decide +kernel
theorem kd_SR_isByte_8 : decode prog_1_method_22_code 8 = .ok (.if_icmp .gt 7, 3) := by decide +kernel
theorem kd_SR_isByte_11 : decode prog_1_method_22_code 11 = .ok (.iconst 1, 1) := by decide +kernel
theorem kd_SR_isByte_12 : decode prog_1_method_22_code 12 = .ok (.goto 4, 3) := by decide +kernel
theorem kd_SR_isByte_15 : decode prog_1_method_22_code 15 = .ok (.iconst 0, 1) := by decide +kernel
theorem kd_SR_isByte_16 : decode prog_1_method_22_code 16 = .ok (.ireturn, 1) := by decide +kernel
def kc_SR_isByte_16 (Po : Option Value → qa_M → Prop) : qa_K := (qi_zret (0, 0) Po)
def kc_SR_isByte_15 (Po : Option Value → qa_M → Prop) : qa_K := (qi_ic (nI 0) (kc_SR_isByte_16 Po))
def kc_SR_isByte_0 (Po : Option Value → qa_M → Prop) : qa_K := (qi_iload 0 (qi_iflt (kc_SR_isByte_15 Po) (qi_iload 0 (qi_ic (nI 255) (qi_icgt (kc_SR_isByte_15 Po) (qi_ic (nI 1) (kc_SR_isByte_16 Po)))))))
abbrev kS_SR_isByte (l : Launch) (D : va_G) (E : Nat → ClassId) (B : Nat) (sc : qa_Z) (Po : Option Value → qa_M → Prop) (pc : Nat) (k : qa_K) : Prop := qa_S l "SealedRecords" prog_1_method_22_code 1 (some .boolean) false D E B rm_SR_isByte sc (qa_Qf D E B rm_SR_isByte Po) pc k
theorem ks_SR_isByte_16 (l : Launch) (D : va_G) (E : Nat → ClassId) (B : Nat) (sc : qa_Z) (Po : Option Value → qa_M → Prop) : kS_SR_isByte l D E B sc Po 16 (kc_SR_isByte_16 Po) := (qs_zret kd_SR_isByte_16)
theorem ks_SR_isByte_15 (l : Launch) (D : va_G) (E : Nat → ClassId) (B : Nat) (sc : qa_Z) (Po : Option Value → qa_M → Prop) : kS_SR_isByte l D E B sc Po 15 (kc_SR_isByte_15 Po) := (qs_iconst kd_SR_isByte_15 (by decide) (ks_SR_isByte_16 l D E B sc Po))
theorem ks_SR_isByte_0 (l : Launch) (D : va_G) (E : Nat → ClassId) (B : Nat) (sc : qa_Z) (Po : Option Value → qa_M → Prop) : kS_SR_isByte l D E B sc Po 0 (kc_SR_isByte_0 Po) := (qs_iload_n kd_SR_isByte_0 rfl (qs_iflt (tgt := 15) kd_SR_isByte_1 (by decide) (ks_SR_isByte_15 l D E B sc Po) (qs_iload_n kd_SR_isByte_4 rfl (qs_sipush kd_SR_isByte_5 (by decide) (qs_icgt (tgt := 15) kd_SR_isByte_8 (by decide) (ks_SR_isByte_15 l D E B sc Po) (qs_iconst kd_SR_isByte_11 (by decide) (qs_goto (tgt := 16) kd_SR_isByte_12 (by decide) (ks_SR_isByte_16 l D E B sc Po))))))))
def sp_SR_isByte : qa_sp := fun args M Po => match args with
  | [.int a1] => kc_SR_isByte_0 Po (0, 0) [some (.int a1)] [] M
  | _ => False
theorem ct_SR_isByte (l : Launch) (sc : qa_Z) : qa_T l ym_SR_isByte (Cond.code ym_SR_isByte prog_1_method_22_code 1 (some .boolean) :: q_W0) rm_SR_isByte sc (sp_SR_isByte) := by
  intro D E B args M Po h
  unfold sp_SR_isByte at h
  split at h
  · exact qa_ct (ini := false) (by decide) (by decide) (Nat.le_of_ble_eq_true rfl) (qa_lvok rfl) (ks_SR_isByte_0 l D E B sc Po) h
  · exact h.elim
theorem kd_Pk_isFull_0 : decode prog_4_method_2_code 0 = .ok (.aload_n 0, 1) := by decide +kernel
theorem kd_Pk_isFull_1 : decode prog_4_method_2_code 1 = .ok (.getfield 13, 3) := by decide +kernel
theorem kd_Pk_isFull_4 : decode prog_4_method_2_code 4 = .ok (.aload_n 0, 1) := by decide +kernel
theorem kd_Pk_isFull_5 : decode prog_4_method_2_code 5 = .ok (.getfield 7, 3) := by decide +kernel
theorem kd_Pk_isFull_8 : decode prog_4_method_2_code 8 = .ok (.arraylength, 1) := by decide +kernel
theorem kd_Pk_isFull_9 : decode prog_4_method_2_code 9 = .ok (.if_icmp .ne 7, 3) := by decide +kernel
theorem kd_Pk_isFull_12 : decode prog_4_method_2_code 12 = .ok (.iconst 1, 1) := by decide +kernel
theorem kd_Pk_isFull_13 : decode prog_4_method_2_code 13 = .ok (.goto 4, 3) := by decide +kernel
theorem kd_Pk_isFull_16 : decode prog_4_method_2_code 16 = .ok (.iconst 0, 1) := by decide +kernel
theorem kd_Pk_isFull_17 : decode prog_4_method_2_code 17 = .ok (.ireturn, 1) := by decide +kernel
def kc_Pk_isFull_17 (Po : Option Value → qa_M → Prop) : qa_K := (qi_zret (0, 0) Po)
def kc_Pk_isFull_0 (Po : Option Value → qa_M → Prop) : qa_K := (qi_aload 0 (qi_gi 2 34 (qi_aload 0 (qi_gp 2 32 (qi_alen 1032 (qi_icne (qi_ic (nI 0) (kc_Pk_isFull_17 Po)) (qi_ic (nI 1) (kc_Pk_isFull_17 Po))))))))
abbrev kS_Pk_isFull (l : Launch) (D : va_G) (E : Nat → ClassId) (B : Nat) (sc : qa_Z) (Po : Option Value → qa_M → Prop) (pc : Nat) (k : qa_K) : Prop := qa_S l "SealedRecords$Packet" prog_4_method_2_code 1 (some .boolean) false D E B rm_Pk_isFull sc (qa_Qf D E B rm_Pk_isFull Po) pc k
theorem ks_Pk_isFull_17 (l : Launch) (D : va_G) (E : Nat → ClassId) (B : Nat) (sc : qa_Z) (Po : Option Value → qa_M → Prop) : kS_Pk_isFull l D E B sc Po 17 (kc_Pk_isFull_17 Po) := (qs_zret kd_Pk_isFull_17)
theorem ks_Pk_isFull_0 (l : Launch) (D : va_G) (E : Nat → ClassId) (B : Nat) (sc : qa_Z) (Po : Option Value → qa_M → Prop) : kS_Pk_isFull l D E B sc Po 0 (kc_Pk_isFull_0 Po) := (qs_aload_n kd_Pk_isFull_0 rfl (fg_34 ww_113 kd_Pk_isFull_1 (qs_aload_n kd_Pk_isFull_4 rfl (fg_32 ww_19 kd_Pk_isFull_5 (qs_alen (κ := 1032) (t := 0) rfl (fun _ => rfl) (by decide) kd_Pk_isFull_8 (qs_icne (tgt := 16) kd_Pk_isFull_9 (by decide) (qs_iconst kd_Pk_isFull_16 (by decide) (ks_Pk_isFull_17 l D E B sc Po)) (qs_iconst kd_Pk_isFull_12 (by decide) (qs_goto (tgt := 17) kd_Pk_isFull_13 (by decide) (ks_Pk_isFull_17 l D E B sc Po)))))))))
def sp_Pk_isFull : qa_sp := fun args M Po => match args with
  | [.ref a0] => kc_Pk_isFull_0 Po (0, 0) [some (.ref a0)] [] M
  | _ => False
theorem ct_Pk_isFull (l : Launch) (sc : qa_Z) : qa_T l ym_Pk_isFull (Cond.code ym_Pk_isFull prog_4_method_2_code 1 (some .boolean) :: q_W0) rm_Pk_isFull sc (sp_Pk_isFull) := by
  intro D E B args M Po h
  unfold sp_Pk_isFull at h
  split at h
  · exact qa_ct (ini := false) (by decide) (by decide) (Nat.le_of_ble_eq_true rfl) (qa_lvok rfl) (ks_Pk_isFull_0 l D E B sc Po) h
  · exact h.elim
